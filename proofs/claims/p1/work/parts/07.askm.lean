/-! The reference on a fresh object. -/
abbrev w0_c_X12_fault (cI : ClassId) (h0 : Nat) (r : Nat → Nat) (p0 : Int32) : va_W := [(h0, .inr (12, (o12 r)))]
set_option maxHeartbeats 4000000 in
set_option maxRecDepth 100000 in
theorem c_X12_fault (l : Launch) (dC : Nat → ClassId) (dI : Nat → Nat → Nat) (cI cJ : ClassId) (h0 : Nat) (r : Nat → Nat) (p0 : Int32) (sz : Nat) : Met l yX12_fault wsX12_fault ({ frames := 1, cells := 0, slots := 0, locals := 60 }) (va_Pc [.ref h0, .int p0] (mPre dC dI cI cJ sz (w0_c_X12_fault cI h0 r p0))) (va_Qi (fun (r : Int32) (u : Unit) => r = (if p0 = 0 then 0 else ((-1)))) (fun _ _ => True) (va_A (w0_c_X12_fault cI h0 r p0) sz)) 0 0 (va_A (w0_c_X12_fault cI h0 r p0) sz) := by
  refine Met.ofW (cc := cX12_fault) (maxL := 2) (ret := (some .int)) (by decide) rfl ?_
  intro p e s m args below meth c s₁ B hml hv
  obtain ⟨rfl, hsz, hP, hK, hD0, hN⟩ := hv
  have hx := B.exec
  have hb := B.bytes
  have hr := B.returns
  have hts := atoms_spec (ws := wsX12_fault) B.pre
  have hown : s.vm.findClass RX12 = some m.cls := findClass_of_methodNamed B.named
  have hlocks := B.notSynchronized
  have h_in_X12 : ∀ w ∈ wsX120, w ∈ wsX12_fault := fun w h => List.mem_cons_of_mem _ (List.mem_append_right _ h)
  subst hsz
  have hD := hD0.self (sz := s.heap.size)
  generalize hAe : va_A (w0_c_X12_fault cI h0 r p0) s.heap.size = A at hD ⊢
  have hA : ∀ q : Nat, s.heap.size ≤ q → A q := fun q h => by rw [← hAe]; exact Or.inr h
  have hS : va_S A s.heap s.heap [] := va_S.rf
  have hP : va_P (dC, dI) vwCl [(h0, .inr (12, (o12 r)))] s.heap := hP
  have hD : va_D A [(h0, .inr (12, (o12 r)))] := hD
  have hl := lv_entry ([.ref h0, .int p0]) (n := 2) (Nat.le_of_ble_eq_true rfl)
  rw [lg_entry_eq]
  generalize (lg_sl ([.ref h0, .int p0]) ++ List.replicate (2 - (lg_sl ([.ref h0, .int p0])).length) Slot.unset).toArray = ls at hl ⊢
  have hl : lv_has ls 2 [(0, .ref h0), (1, .int p0)] := hl
  refine lv_iload_n hx hb dX12_fault_0 rfl (lv_at hl 1 rfl) ?_
  refine lv_if_ne (tgt := 11) hx hb dX12_fault_1 (by decide) (fun c_1 => ?_) (fun c_1 => ?_)
  · refine lv_iload_n hx hb dX12_fault_11 rfl (lv_at hl 1 rfl) ?_
    refine lv_iconst (v := 1) hx hb dX12_fault_12 (by decide) ?_
    refine lv_icmp_ne (tgt := 23) hx hb dX12_fault_13 (by decide) (fun c_2 => ?_) (fun c_2 => ?_)
    · refine lv_iconst (v := (-1)) hx hb dX12_fault_23 (by decide) ?_
      exact W.iret (v := (-1)) hx hb hr (fun t ht hW => ⟨⟨(-1), (), rfl, (by rw [if_neg c_1]), trivial⟩, hS.F ht⟩) hS.2.2 dX12_fault_24
    · refine lv_aload_n hx hb dX12_fault_16 rfl (lv_at hl 0 rfl) ?_
      refine va_get (D := (dC, dI)) (ci := 12) (v := .int (-1)) (C := RX12) (T := TX12) (N := 98) hx hb hts h_in_X12 hown hK hP 0 rfl rfl 11 (by decide) (hts (.fieldLink RX12 45 "MatchTreesModel" "toldPlace" "I") (by decide +kernel)) (fun _ h9 => h9) rfl dX12_fault_17 ?_
      refine lv_goto (tgt := 24) hx hb dX12_fault_20 (by decide) ?_
      exact W.iret (v := (-1)) hx hb hr (fun t ht hW => ⟨⟨(-1), (), rfl, (by rw [if_neg c_1]), trivial⟩, hS.F ht⟩) hS.2.2 dX12_fault_24
  · refine lv_aload_n hx hb dX12_fault_4 rfl (lv_at hl 0 rfl) ?_
    refine va_get (D := (dC, dI)) (ci := 12) (v := .int 0) (C := RX12) (T := TX12) (N := 98) hx hb hts h_in_X12 hown hK hP 0 rfl rfl 10 (by decide) (hts (.fieldLink RX12 42 "MatchTreesModel" "toldKind" "I") (by decide +kernel)) (fun _ h9 => h9) rfl dX12_fault_5 ?_
    refine lv_goto (tgt := 24) hx hb dX12_fault_8 (by decide) ?_
    exact W.iret (v := 0) hx hb hr (fun t ht hW => ⟨⟨0, (), rfl, (by rw [if_pos c_1]), trivial⟩, hS.F ht⟩) hS.2.2 dX12_fault_24
abbrev w0_c_X12_is_0_5 (cI : ClassId) (p0 : Int32) : va_W := []
set_option maxHeartbeats 4000000 in
set_option maxRecDepth 100000 in
theorem c_X12_is_0_5 (l : Launch) (dC : Nat → ClassId) (dI : Nat → Nat → Nat) (cI cJ : ClassId) (p0 : Int32) (sz : Nat) : Met l yX12_is wsX12_is ({ frames := 1, cells := 0, slots := 0, locals := 60 }) (va_Pc [.int p0, .int 0, .int 5] (mPre dC dI cI cJ sz (w0_c_X12_is_0_5 cI p0))) (va_Qi (fun (r : Int32) (u : Unit) => r = (if 0 ≤ p0 ∧ p0 ≤ 5 then 1 else 0)) (fun _ _ => True) (va_A (w0_c_X12_is_0_5 cI p0) sz)) 0 0 (va_A (w0_c_X12_is_0_5 cI p0) sz) := by
  refine Met.ofW (cc := cX12_is) (maxL := 3) (ret := (some .boolean)) (by decide) rfl ?_
  intro p e s m args below meth c s₁ B hml hv
  obtain ⟨rfl, hsz, hP, hK, hD0, hN⟩ := hv
  have hx := B.exec
  have hb := B.bytes
  have hr := B.returns
  have hts := atoms_spec (ws := wsX12_is) B.pre
  have hown : s.vm.findClass RX12 = some m.cls := findClass_of_methodNamed B.named
  have hlocks := B.notSynchronized
  subst hsz
  have hD := hD0.self (sz := s.heap.size)
  generalize hAe : va_A (w0_c_X12_is_0_5 cI p0) s.heap.size = A at hD ⊢
  have hA : ∀ q : Nat, s.heap.size ≤ q → A q := fun q h => by rw [← hAe]; exact Or.inr h
  have hS : va_S A s.heap s.heap [] := va_S.rf
  have hP : va_P (dC, dI) vwCl [] s.heap := hP
  have hD : va_D A [] := hD
  have hl := lv_entry ([.int p0, .int 0, .int 5]) (n := 3) (Nat.le_of_ble_eq_true rfl)
  rw [lg_entry_eq]
  generalize (lg_sl ([.int p0, .int 0, .int 5]) ++ List.replicate (3 - (lg_sl ([.int p0, .int 0, .int 5])).length) Slot.unset).toArray = ls at hl ⊢
  have hl : lv_has ls 3 [(0, .int p0), (1, .int 0), (2, .int 5)] := hl
  refine lv_iload_n hx hb dX12_is_0 rfl (lv_at hl 0 rfl) ?_
  refine lv_iload_n hx hb dX12_is_1 rfl (lv_at hl 1 rfl) ?_
  refine lv_icmp_lt (tgt := 14) hx hb dX12_is_2 (by decide) (fun c_1 => ?_) (fun c_1 => ?_)
  · refine lv_iconst (v := 0) hx hb dX12_is_14 (by decide) ?_
    exact W.zret (v := 0) hx hb hr rfl (fun t ht hW => ⟨⟨0, (), rfl, (by rw [if_neg (fun q => absurd q.1 (by have e0 : (0 : Int32).toInt = 0 := (by decide); rw [Int32.lt_iff_toInt_lt] at c_1; rw [Int32.le_iff_toInt_le]; omega))]), trivial⟩, hS.F ht⟩) hS.2.2 dX12_is_15
  · refine lv_iload_n hx hb dX12_is_5 rfl (lv_at hl 0 rfl) ?_
    refine lv_iload_n hx hb dX12_is_6 rfl (lv_at hl 2 rfl) ?_
    refine lv_icmp_gt (tgt := 14) hx hb dX12_is_7 (by decide) (fun c_2 => ?_) (fun c_2 => ?_)
    · refine lv_iconst (v := 0) hx hb dX12_is_14 (by decide) ?_
      exact W.zret (v := 0) hx hb hr rfl (fun t ht hW => ⟨⟨0, (), rfl, (by rw [if_neg (fun q => absurd q.2 (by have e5 : (5 : Int32).toInt = 5 := (by decide); have e0 : (0 : Int32).toInt = 0 := (by decide); rw [Int32.lt_iff_toInt_lt] at c_1; rw [Int32.lt_iff_toInt_lt] at c_2; rw [Int32.le_iff_toInt_le]; omega))]), trivial⟩, hS.F ht⟩) hS.2.2 dX12_is_15
    · refine lv_iconst (v := 1) hx hb dX12_is_10 (by decide) ?_
      refine lv_goto (tgt := 15) hx hb dX12_is_11 (by decide) ?_
      exact W.zret (v := 1) hx hb hr rfl (fun t ht hW => ⟨⟨1, (), rfl, (by rw [if_pos ⟨(by have e5 : (5 : Int32).toInt = 5 := (by decide); have e0 : (0 : Int32).toInt = 0 := (by decide); rw [Int32.lt_iff_toInt_lt] at c_1; rw [Int32.lt_iff_toInt_lt] at c_2; rw [Int32.le_iff_toInt_le]; omega), (by have e5 : (5 : Int32).toInt = 5 := (by decide); have e0 : (0 : Int32).toInt = 0 := (by decide); rw [Int32.lt_iff_toInt_lt] at c_1; rw [Int32.lt_iff_toInt_lt] at c_2; rw [Int32.le_iff_toInt_le]; omega)⟩]), trivial⟩, hS.F ht⟩) hS.2.2 dX12_is_15
abbrev w0_c_X12_is_0_1 (cI : ClassId) (p0 : Int32) : va_W := []
set_option maxHeartbeats 4000000 in
set_option maxRecDepth 100000 in
theorem c_X12_is_0_1 (l : Launch) (dC : Nat → ClassId) (dI : Nat → Nat → Nat) (cI cJ : ClassId) (p0 : Int32) (sz : Nat) : Met l yX12_is wsX12_is ({ frames := 1, cells := 0, slots := 0, locals := 60 }) (va_Pc [.int p0, .int 0, .int 1] (mPre dC dI cI cJ sz (w0_c_X12_is_0_1 cI p0))) (va_Qi (fun (r : Int32) (u : Unit) => r = (if 0 ≤ p0 ∧ p0 ≤ 1 then 1 else 0)) (fun _ _ => True) (va_A (w0_c_X12_is_0_1 cI p0) sz)) 0 0 (va_A (w0_c_X12_is_0_1 cI p0) sz) := by
  refine Met.ofW (cc := cX12_is) (maxL := 3) (ret := (some .boolean)) (by decide) rfl ?_
  intro p e s m args below meth c s₁ B hml hv
  obtain ⟨rfl, hsz, hP, hK, hD0, hN⟩ := hv
  have hx := B.exec
  have hb := B.bytes
  have hr := B.returns
  have hts := atoms_spec (ws := wsX12_is) B.pre
  have hown : s.vm.findClass RX12 = some m.cls := findClass_of_methodNamed B.named
  have hlocks := B.notSynchronized
  subst hsz
  have hD := hD0.self (sz := s.heap.size)
  generalize hAe : va_A (w0_c_X12_is_0_1 cI p0) s.heap.size = A at hD ⊢
  have hA : ∀ q : Nat, s.heap.size ≤ q → A q := fun q h => by rw [← hAe]; exact Or.inr h
  have hS : va_S A s.heap s.heap [] := va_S.rf
  have hP : va_P (dC, dI) vwCl [] s.heap := hP
  have hD : va_D A [] := hD
  have hl := lv_entry ([.int p0, .int 0, .int 1]) (n := 3) (Nat.le_of_ble_eq_true rfl)
  rw [lg_entry_eq]
  generalize (lg_sl ([.int p0, .int 0, .int 1]) ++ List.replicate (3 - (lg_sl ([.int p0, .int 0, .int 1])).length) Slot.unset).toArray = ls at hl ⊢
  have hl : lv_has ls 3 [(0, .int p0), (1, .int 0), (2, .int 1)] := hl
  refine lv_iload_n hx hb dX12_is_0 rfl (lv_at hl 0 rfl) ?_
  refine lv_iload_n hx hb dX12_is_1 rfl (lv_at hl 1 rfl) ?_
  refine lv_icmp_lt (tgt := 14) hx hb dX12_is_2 (by decide) (fun c_1 => ?_) (fun c_1 => ?_)
  · refine lv_iconst (v := 0) hx hb dX12_is_14 (by decide) ?_
    exact W.zret (v := 0) hx hb hr rfl (fun t ht hW => ⟨⟨0, (), rfl, (by rw [if_neg (fun q => absurd q.1 (by have e0 : (0 : Int32).toInt = 0 := (by decide); rw [Int32.lt_iff_toInt_lt] at c_1; rw [Int32.le_iff_toInt_le]; omega))]), trivial⟩, hS.F ht⟩) hS.2.2 dX12_is_15
  · refine lv_iload_n hx hb dX12_is_5 rfl (lv_at hl 0 rfl) ?_
    refine lv_iload_n hx hb dX12_is_6 rfl (lv_at hl 2 rfl) ?_
    refine lv_icmp_gt (tgt := 14) hx hb dX12_is_7 (by decide) (fun c_2 => ?_) (fun c_2 => ?_)
    · refine lv_iconst (v := 0) hx hb dX12_is_14 (by decide) ?_
      exact W.zret (v := 0) hx hb hr rfl (fun t ht hW => ⟨⟨0, (), rfl, (by rw [if_neg (fun q => absurd q.2 (by have e1 : (1 : Int32).toInt = 1 := (by decide); have e0 : (0 : Int32).toInt = 0 := (by decide); rw [Int32.lt_iff_toInt_lt] at c_1; rw [Int32.lt_iff_toInt_lt] at c_2; rw [Int32.le_iff_toInt_le]; omega))]), trivial⟩, hS.F ht⟩) hS.2.2 dX12_is_15
    · refine lv_iconst (v := 1) hx hb dX12_is_10 (by decide) ?_
      refine lv_goto (tgt := 15) hx hb dX12_is_11 (by decide) ?_
      exact W.zret (v := 1) hx hb hr rfl (fun t ht hW => ⟨⟨1, (), rfl, (by rw [if_pos ⟨(by have e1 : (1 : Int32).toInt = 1 := (by decide); have e0 : (0 : Int32).toInt = 0 := (by decide); rw [Int32.lt_iff_toInt_lt] at c_1; rw [Int32.lt_iff_toInt_lt] at c_2; rw [Int32.le_iff_toInt_le]; omega), (by have e1 : (1 : Int32).toInt = 1 := (by decide); have e0 : (0 : Int32).toInt = 0 := (by decide); rw [Int32.lt_iff_toInt_lt] at c_1; rw [Int32.lt_iff_toInt_lt] at c_2; rw [Int32.le_iff_toInt_le]; omega)⟩]), trivial⟩, hS.F ht⟩) hS.2.2 dX12_is_15
abbrev w0_c_X12_is_0_m1 (cI : ClassId) (p0 : Int32) : va_W := []
set_option maxHeartbeats 4000000 in
set_option maxRecDepth 100000 in
theorem c_X12_is_0_m1 (l : Launch) (dC : Nat → ClassId) (dI : Nat → Nat → Nat) (cI cJ : ClassId) (p0 : Int32) (sz : Nat) : Met l yX12_is wsX12_is ({ frames := 1, cells := 0, slots := 0, locals := 60 }) (va_Pc [.int p0, .int 0, .int (-1)] (mPre dC dI cI cJ sz (w0_c_X12_is_0_m1 cI p0))) (va_Qi (fun (r : Int32) (u : Unit) => r = (if 0 ≤ p0 ∧ p0 ≤ (-1) then 1 else 0)) (fun _ _ => True) (va_A (w0_c_X12_is_0_m1 cI p0) sz)) 0 0 (va_A (w0_c_X12_is_0_m1 cI p0) sz) := by
  refine Met.ofW (cc := cX12_is) (maxL := 3) (ret := (some .boolean)) (by decide) rfl ?_
  intro p e s m args below meth c s₁ B hml hv
  obtain ⟨rfl, hsz, hP, hK, hD0, hN⟩ := hv
  have hx := B.exec
  have hb := B.bytes
  have hr := B.returns
  have hts := atoms_spec (ws := wsX12_is) B.pre
  have hown : s.vm.findClass RX12 = some m.cls := findClass_of_methodNamed B.named
  have hlocks := B.notSynchronized
  subst hsz
  have hD := hD0.self (sz := s.heap.size)
  generalize hAe : va_A (w0_c_X12_is_0_m1 cI p0) s.heap.size = A at hD ⊢
  have hA : ∀ q : Nat, s.heap.size ≤ q → A q := fun q h => by rw [← hAe]; exact Or.inr h
  have hS : va_S A s.heap s.heap [] := va_S.rf
  have hP : va_P (dC, dI) vwCl [] s.heap := hP
  have hD : va_D A [] := hD
  have hl := lv_entry ([.int p0, .int 0, .int (-1)]) (n := 3) (Nat.le_of_ble_eq_true rfl)
  rw [lg_entry_eq]
  generalize (lg_sl ([.int p0, .int 0, .int (-1)]) ++ List.replicate (3 - (lg_sl ([.int p0, .int 0, .int (-1)])).length) Slot.unset).toArray = ls at hl ⊢
  have hl : lv_has ls 3 [(0, .int p0), (1, .int 0), (2, .int (-1))] := hl
  refine lv_iload_n hx hb dX12_is_0 rfl (lv_at hl 0 rfl) ?_
  refine lv_iload_n hx hb dX12_is_1 rfl (lv_at hl 1 rfl) ?_
  refine lv_icmp_lt (tgt := 14) hx hb dX12_is_2 (by decide) (fun c_1 => ?_) (fun c_1 => ?_)
  · refine lv_iconst (v := 0) hx hb dX12_is_14 (by decide) ?_
    exact W.zret (v := 0) hx hb hr rfl (fun t ht hW => ⟨⟨0, (), rfl, (by rw [if_neg (fun q => absurd q.1 (by have e0 : (0 : Int32).toInt = 0 := (by decide); rw [Int32.lt_iff_toInt_lt] at c_1; rw [Int32.le_iff_toInt_le]; omega))]), trivial⟩, hS.F ht⟩) hS.2.2 dX12_is_15
  · refine lv_iload_n hx hb dX12_is_5 rfl (lv_at hl 0 rfl) ?_
    refine lv_iload_n hx hb dX12_is_6 rfl (lv_at hl 2 rfl) ?_
    refine lv_icmp_gt (tgt := 14) hx hb dX12_is_7 (by decide) (fun _ => ?_) (fun c => absurd (by have e0 : (0 : Int32).toInt = 0 := (by decide); have em1 : ((-1) : Int32).toInt = -1 := (by decide); rw [Int32.lt_iff_toInt_lt] at c_1; rw [Int32.lt_iff_toInt_lt]; omega) c)
    refine lv_iconst (v := 0) hx hb dX12_is_14 (by decide) ?_
    exact W.zret (v := 0) hx hb hr rfl (fun t ht hW => ⟨⟨0, (), rfl, (by rw [if_neg (fun q => absurd q.2 (by have e0 : (0 : Int32).toInt = 0 := (by decide); have em1 : ((-1) : Int32).toInt = -1 := (by decide); rw [Int32.lt_iff_toInt_lt] at c_1; rw [Int32.le_iff_toInt_le]; omega))]), trivial⟩, hS.F ht⟩) hS.2.2 dX12_is_15
abbrev w0_c_X12_letter (cI : ClassId) (h0 : Nat) (r : Nat → Nat) (p0 p1 p2 : Int32) : va_W := [(h0, .inr (12, (o12 r))), ((r 1), .inl (cI, 2, .inl (fun _ => 0))), ((r 4), .inl (cI, 2, .inl (fun _ => 0)))]
set_option maxHeartbeats 4000000 in
set_option maxRecDepth 100000 in
theorem c_X12_letter (l : Launch) (dC : Nat → ClassId) (dI : Nat → Nat → Nat) (cI cJ : ClassId) (h0 : Nat) (r : Nat → Nat) (p0 p1 p2 : Int32) (sz : Nat) : Met l yX12_letter wsX12_letter ({ frames := 2, cells := 0, slots := 0, locals := 82 }) (va_Pc [.ref h0, .int p0, .int p1, .int p2] (mPre dC dI cI cJ sz (w0_c_X12_letter cI h0 r p0 p1 p2))) (va_Qi (fun (r : Int32) (u : Unit) => r = -1) (fun _ _ => True) (va_A (w0_c_X12_letter cI h0 r p0 p1 p2) sz)) 0 0 (va_A (w0_c_X12_letter cI h0 r p0 p1 p2) sz) := by
  refine Met.ofW (cc := cX12_letter) (maxL := 7) (ret := (some .int)) (by decide) rfl ?_
  intro p e s m args below meth c s₁ B hml hv
  obtain ⟨rfl, hsz, hP, hK, hD0, hN⟩ := hv
  have hx := B.exec
  have hb := B.bytes
  have hr := B.returns
  have hts := atoms_spec (ws := wsX12_letter) B.pre
  have hown : s.vm.findClass RX12 = some m.cls := findClass_of_methodNamed B.named
  have hlocks := B.notSynchronized
  have h_in_X12 : ∀ w ∈ wsX120, w ∈ wsX12_letter := fun w h => List.mem_cons_of_mem _ (List.mem_append_right _ h)
  subst hsz
  have hD := hD0.self (sz := s.heap.size)
  generalize hAe : va_A (w0_c_X12_letter cI h0 r p0 p1 p2) s.heap.size = A at hD ⊢
  have hA : ∀ q : Nat, s.heap.size ≤ q → A q := fun q h => by rw [← hAe]; exact Or.inr h
  have hS : va_S A s.heap s.heap [] := va_S.rf
  have hP : va_P (dC, dI) vwCl [(h0, .inr (12, (o12 r))), ((r 1), .inl (cI, 2, .inl (fun _ => 0))), ((r 4), .inl (cI, 2, .inl (fun _ => 0)))] s.heap := hP
  have hD : va_D A [(h0, .inr (12, (o12 r))), ((r 1), .inl (cI, 2, .inl (fun _ => 0))), ((r 4), .inl (cI, 2, .inl (fun _ => 0)))] := hD
  have hl := lv_entry ([.ref h0, .int p0, .int p1, .int p2]) (n := 7) (Nat.le_of_ble_eq_true rfl)
  rw [lg_entry_eq]
  generalize (lg_sl ([.ref h0, .int p0, .int p1, .int p2]) ++ List.replicate (7 - (lg_sl ([.ref h0, .int p0, .int p1, .int p2])).length) Slot.unset).toArray = ls at hl ⊢
  have hl : lv_has ls 7 [(0, .ref h0), (1, .int p0), (2, .int p1), (3, .int p2)] := hl
  refine lv_iload_n hx hb dX12_letter_0 rfl (lv_at hl 3 rfl) ?_
  refine lv_iconst (v := 0) hx hb dX12_letter_1 (by decide) ?_
  refine lv_iconst (v := 5) hx hb dX12_letter_2 (by decide) ?_
  have hPc := hP.sub (ws' := []) [] rfl
  have hDc := hD.sub (ws' := []) [] (by decide) rfl
  have hFc := va_free (wc := []) hD hS hA [] rfl
  refine va_calli (va_runS (As := [.int p2, .int 0, .int 5]) (rest := []) ⟨hx, hb, hml, hown, hts⟩ (c_X12_is_0_5 l dC dI cI cJ p2 s.heap.size) (va_cwS 3 hts gX12_letter_X12_is rfl rfl rfl (by decide +kernel) ⟨Nat.le_of_ble_eq_true rfl, Nat.le_of_ble_eq_true rfl⟩) ⟨mBlind, mGo hPc hK hDc hN⟩ rfl rfl hl.1 rfl (lv_room (Nat.le_of_ble_eq_true rfl)) dX12_letter_3 ⟨Nat.le_of_ble_eq_true rfl, Nat.le_of_ble_eq_true rfl⟩) hS (fun q _ h => hFc q h) hFc (fun r_1 u t H1 locs ht hvm hw hB hz1 hk1 hS => ?_)
  obtain ⟨hP, hD⟩ := va_join (wr := [(h0, .inr (12, (o12 r))), ((r 1), .inl (cI, 2, .inl (fun _ => 0))), ((r 4), .inl (cI, 2, .inl (fun _ => 0)))]) (w1 := []) hP hD [] [0, 1, 2] rfl rfl (by decide) (by decide) hk1 hFc va_P0 va_D0
  generalize H1 = H at hP hS ⊢
  have hP : va_P (dC, dI) vwCl [(h0, .inr (12, (o12 r))), ((r 1), .inl (cI, 2, .inl (fun _ => 0))), ((r 4), .inl (cI, 2, .inl (fun _ => 0)))] H := hP
  have hD : va_D A [(h0, .inr (12, (o12 r))), ((r 1), .inl (cI, 2, .inl (fun _ => 0))), ((r 4), .inl (cI, 2, .inl (fun _ => 0)))] := hD
  refine lv_if_eq (tgt := 53) hx hb dX12_letter_6 (by decide) (fun c_2 => ?_) (fun c_2 => ?_)
  · refine lv_iconst (v := (-1)) hx hb dX12_letter_53 (by decide) ?_
    exact W.iret (v := (-1)) hx hb hr (fun t ht hW => ⟨⟨(-1), (), rfl, rfl, trivial⟩, hS.F ht⟩) hS.2.2 dX12_letter_54
  · refine lv_iload_n hx hb dX12_letter_9 rfl (lv_at hl 1 rfl) ?_
    refine lv_iconst (v := 0) hx hb dX12_letter_10 (by decide) ?_
    refine lv_iconst (v := 1) hx hb dX12_letter_11 (by decide) ?_
    have hPc := hP.sub (ws' := []) [] rfl
    have hDc := hD.sub (ws' := []) [] (by decide) rfl
    have hFc := va_free (wc := []) hD hS hA [] rfl
    refine va_calli (va_runS (As := [.int p0, .int 0, .int 1]) (rest := []) ⟨hx, hb, hml, hown, hts⟩ (c_X12_is_0_1 l dC dI cI cJ p0 H.size) (va_cwS 3 hts gX12_letter_X12_is rfl rfl rfl (by decide +kernel) ⟨Nat.le_of_ble_eq_true rfl, Nat.le_of_ble_eq_true rfl⟩) ⟨mBlind, mGo hPc hK hDc hN⟩ rfl rfl hl.1 rfl (lv_room (Nat.le_of_ble_eq_true rfl)) dX12_letter_12 ⟨Nat.le_of_ble_eq_true rfl, Nat.le_of_ble_eq_true rfl⟩) hS (fun q _ h => hFc q h) hFc (fun r_3 u t H1 locs ht hvm hw hB hz1 hk1 hS => ?_)
    obtain ⟨hP, hD⟩ := va_join (wr := [(h0, .inr (12, (o12 r))), ((r 1), .inl (cI, 2, .inl (fun _ => 0))), ((r 4), .inl (cI, 2, .inl (fun _ => 0)))]) (w1 := []) hP hD [] [0, 1, 2] rfl rfl (by decide) (by decide) hk1 hFc va_P0 va_D0
    generalize H1 = H at hP hS ⊢
    have hP : va_P (dC, dI) vwCl [(h0, .inr (12, (o12 r))), ((r 1), .inl (cI, 2, .inl (fun _ => 0))), ((r 4), .inl (cI, 2, .inl (fun _ => 0)))] H := hP
    have hD : va_D A [(h0, .inr (12, (o12 r))), ((r 1), .inl (cI, 2, .inl (fun _ => 0))), ((r 4), .inl (cI, 2, .inl (fun _ => 0)))] := hD
    refine lv_if_eq (tgt := 53) hx hb dX12_letter_15 (by decide) (fun c_4 => ?_) (fun c_4 => ?_)
    · refine lv_iconst (v := (-1)) hx hb dX12_letter_53 (by decide) ?_
      exact W.iret (v := (-1)) hx hb hr (fun t ht hW => ⟨⟨(-1), (), rfl, rfl, trivial⟩, hS.F ht⟩) hS.2.2 dX12_letter_54
    · refine lv_iload_n hx hb dX12_letter_18 rfl (lv_at hl 2 rfl) ?_
      refine lv_iconst (v := 0) hx hb dX12_letter_19 (by decide) ?_
      refine lv_iload_n hx hb dX12_letter_20 rfl (lv_at hl 1 rfl) ?_
      refine lv_if_ne (tgt := 36) hx hb dX12_letter_21 (by decide) (fun c_5 => ?_) (fun c_5 => ?_)
      · refine lv_aload_n hx hb dX12_letter_36 rfl (lv_at hl 0 rfl) ?_
        refine va_get (D := (dC, dI)) (ci := 12) (v := .ref (r 4)) (C := RX12) (T := TX12) (N := 98) hx hb hts h_in_X12 hown hK hP 0 rfl rfl 17 (by decide) (hts (.fieldLink RX12 63 "MatchTreesModel" "conMany" "[I") (by decide +kernel)) (fun _ h9 => h9) rfl dX12_letter_37 ?_
        refine lv_aload_n hx hb dX12_letter_40 rfl (lv_at hl 0 rfl) ?_
        refine va_get (D := (dC, dI)) (ci := 12) (v := .int 0) (C := RX12) (T := TX12) (N := 98) hx hb hts h_in_X12 hown hK hP 0 rfl rfl 13 (by decide) (hts (.fieldLink RX12 51 "MatchTreesModel" "bank" "I") (by decide +kernel)) (fun _ h9 => h9) rfl dX12_letter_41 ?_
        refine va_iald hx hb hK hP 2 0 rfl rfl (vpd (by decide)) dX12_letter_44 ?_
        refine lv_topi (fun t9 e9 => ?_)
        obtain rfl : t9 = 0 := e9
        refine lv_iconst (v := 1) hx hb dX12_letter_45 (by decide) ?_
        refine k_isub (v := (-1)) hx hb (by decide) dX12_letter_46 ?_
        have hPc := hP.sub (ws' := []) [] rfl
        have hDc := hD.sub (ws' := []) [] (by decide) rfl
        have hFc := va_free (wc := []) hD hS hA [] rfl
        refine va_calli (va_runS (As := [.int p1, .int 0, .int (-1)]) (rest := []) ⟨hx, hb, hml, hown, hts⟩ (c_X12_is_0_m1 l dC dI cI cJ p1 H.size) (va_cwS 3 hts gX12_letter_X12_is rfl rfl rfl (by decide +kernel) ⟨Nat.le_of_ble_eq_true rfl, Nat.le_of_ble_eq_true rfl⟩) ⟨mBlind, mGo hPc hK hDc hN⟩ rfl rfl hl.1 rfl (lv_room (Nat.le_of_ble_eq_true rfl)) dX12_letter_47 ⟨Nat.le_of_ble_eq_true rfl, Nat.le_of_ble_eq_true rfl⟩) hS (fun q _ h => hFc q h) hFc (fun r_6 u t H1 locs ht hvm hw hB hz1 hk1 hS => ?_)
        obtain rfl : r_6 = 0 := hw.trans (if_neg (fun q => by have h1 := Int32.le_iff_toInt_le.mp q.1; have h2 := Int32.le_iff_toInt_le.mp q.2; have e1 : (0 : Int32).toInt = 0 := (by decide); have e2 : ((-1) : Int32).toInt = -1 := (by decide); omega))
        obtain ⟨hP, hD⟩ := va_join (wr := [(h0, .inr (12, (o12 r))), ((r 1), .inl (cI, 2, .inl (fun _ => 0))), ((r 4), .inl (cI, 2, .inl (fun _ => 0)))]) (w1 := []) hP hD [] [0, 1, 2] rfl rfl (by decide) (by decide) hk1 hFc va_P0 va_D0
        generalize H1 = H at hP hS ⊢
        have hP : va_P (dC, dI) vwCl [(h0, .inr (12, (o12 r))), ((r 1), .inl (cI, 2, .inl (fun _ => 0))), ((r 4), .inl (cI, 2, .inl (fun _ => 0)))] H := hP
        have hD : va_D A [(h0, .inr (12, (o12 r))), ((r 1), .inl (cI, 2, .inl (fun _ => 0))), ((r 4), .inl (cI, 2, .inl (fun _ => 0)))] := hD
        refine lv_if_ne (tgt := 55) hx hb dX12_letter_50 (by decide) (fun c => absurd c (by decide)) (fun _ => ?_)
        refine lv_iconst (v := (-1)) hx hb dX12_letter_53 (by decide) ?_
        exact W.iret (v := (-1)) hx hb hr (fun t ht hW => ⟨⟨(-1), (), rfl, rfl, trivial⟩, hS.F ht⟩) hS.2.2 dX12_letter_54
      · refine lv_aload_n hx hb dX12_letter_24 rfl (lv_at hl 0 rfl) ?_
        refine va_get (D := (dC, dI)) (ci := 12) (v := .ref (r 1)) (C := RX12) (T := TX12) (N := 98) hx hb hts h_in_X12 hown hK hP 0 rfl rfl 14 (by decide) (hts (.fieldLink RX12 54 "MatchTreesModel" "kindMany" "[I") (by decide +kernel)) (fun _ h9 => h9) rfl dX12_letter_25 ?_
        refine lv_aload_n hx hb dX12_letter_28 rfl (lv_at hl 0 rfl) ?_
        refine va_get (D := (dC, dI)) (ci := 12) (v := .int 0) (C := RX12) (T := TX12) (N := 98) hx hb hts h_in_X12 hown hK hP 0 rfl rfl 13 (by decide) (hts (.fieldLink RX12 51 "MatchTreesModel" "bank" "I") (by decide +kernel)) (fun _ h9 => h9) rfl dX12_letter_29 ?_
        refine va_iald hx hb hK hP 1 0 rfl rfl (vpd (by decide)) dX12_letter_32 ?_
        refine lv_topi (fun t9 e9 => ?_)
        obtain rfl : t9 = 0 := e9
        refine lv_goto (tgt := 45) hx hb dX12_letter_33 (by decide) ?_
        refine lv_iconst (v := 1) hx hb dX12_letter_45 (by decide) ?_
        refine k_isub (v := (-1)) hx hb (by decide) dX12_letter_46 ?_
        have hPc := hP.sub (ws' := []) [] rfl
        have hDc := hD.sub (ws' := []) [] (by decide) rfl
        have hFc := va_free (wc := []) hD hS hA [] rfl
        refine va_calli (va_runS (As := [.int p1, .int 0, .int (-1)]) (rest := []) ⟨hx, hb, hml, hown, hts⟩ (c_X12_is_0_m1 l dC dI cI cJ p1 H.size) (va_cwS 3 hts gX12_letter_X12_is rfl rfl rfl (by decide +kernel) ⟨Nat.le_of_ble_eq_true rfl, Nat.le_of_ble_eq_true rfl⟩) ⟨mBlind, mGo hPc hK hDc hN⟩ rfl rfl hl.1 rfl (lv_room (Nat.le_of_ble_eq_true rfl)) dX12_letter_47 ⟨Nat.le_of_ble_eq_true rfl, Nat.le_of_ble_eq_true rfl⟩) hS (fun q _ h => hFc q h) hFc (fun r_7 u t H1 locs ht hvm hw hB hz1 hk1 hS => ?_)
        obtain rfl : r_7 = 0 := hw.trans (if_neg (fun q => by have h1 := Int32.le_iff_toInt_le.mp q.1; have h2 := Int32.le_iff_toInt_le.mp q.2; have e1 : (0 : Int32).toInt = 0 := (by decide); have e2 : ((-1) : Int32).toInt = -1 := (by decide); omega))
        obtain ⟨hP, hD⟩ := va_join (wr := [(h0, .inr (12, (o12 r))), ((r 1), .inl (cI, 2, .inl (fun _ => 0))), ((r 4), .inl (cI, 2, .inl (fun _ => 0)))]) (w1 := []) hP hD [] [0, 1, 2] rfl rfl (by decide) (by decide) hk1 hFc va_P0 va_D0
        generalize H1 = H at hP hS ⊢
        have hP : va_P (dC, dI) vwCl [(h0, .inr (12, (o12 r))), ((r 1), .inl (cI, 2, .inl (fun _ => 0))), ((r 4), .inl (cI, 2, .inl (fun _ => 0)))] H := hP
        have hD : va_D A [(h0, .inr (12, (o12 r))), ((r 1), .inl (cI, 2, .inl (fun _ => 0))), ((r 4), .inl (cI, 2, .inl (fun _ => 0)))] := hD
        refine lv_if_ne (tgt := 55) hx hb dX12_letter_50 (by decide) (fun c => absurd c (by decide)) (fun _ => ?_)
        refine lv_iconst (v := (-1)) hx hb dX12_letter_53 (by decide) ?_
        exact W.iret (v := (-1)) hx hb hr (fun t ht hW => ⟨⟨(-1), (), rfl, rfl, trivial⟩, hS.F ht⟩) hS.2.2 dX12_letter_54
abbrev w0_c_X12_values (cI : ClassId) (h0 : Nat) (r : Nat → Nat) (p0 : Int32) : va_W := [(h0, .inr (12, (o12 r))), ((r 1), .inl (cI, 2, .inl (fun _ => 0)))]
set_option maxHeartbeats 4000000 in
set_option maxRecDepth 100000 in
theorem c_X12_values (l : Launch) (dC : Nat → ClassId) (dI : Nat → Nat → Nat) (cI cJ : ClassId) (h0 : Nat) (r : Nat → Nat) (p0 : Int32) (sz : Nat) : Met l yX12_values wsX12_values ({ frames := 1, cells := 0, slots := 0, locals := 60 }) (va_Pc [.ref h0, .int p0] (mPre dC dI cI cJ sz (w0_c_X12_values cI h0 r p0))) (va_Qi (fun (r : Int32) (u : Unit) => r = -1) (fun _ _ => True) (va_A (w0_c_X12_values cI h0 r p0) sz)) 0 0 (va_A (w0_c_X12_values cI h0 r p0) sz) := by
  refine Met.ofW (cc := cX12_values) (maxL := 2) (ret := (some .int)) (by decide) rfl ?_
  intro p e s m args below meth c s₁ B hml hv
  obtain ⟨rfl, hsz, hP, hK, hD0, hN⟩ := hv
  have hx := B.exec
  have hb := B.bytes
  have hr := B.returns
  have hts := atoms_spec (ws := wsX12_values) B.pre
  have hown : s.vm.findClass RX12 = some m.cls := findClass_of_methodNamed B.named
  have hlocks := B.notSynchronized
  have h_in_X12 : ∀ w ∈ wsX120, w ∈ wsX12_values := fun w h => List.mem_cons_of_mem _ (List.mem_append_right _ h)
  subst hsz
  have hD := hD0.self (sz := s.heap.size)
  generalize hAe : va_A (w0_c_X12_values cI h0 r p0) s.heap.size = A at hD ⊢
  have hA : ∀ q : Nat, s.heap.size ≤ q → A q := fun q h => by rw [← hAe]; exact Or.inr h
  have hS : va_S A s.heap s.heap [] := va_S.rf
  have hP : va_P (dC, dI) vwCl [(h0, .inr (12, (o12 r))), ((r 1), .inl (cI, 2, .inl (fun _ => 0)))] s.heap := hP
  have hD : va_D A [(h0, .inr (12, (o12 r))), ((r 1), .inl (cI, 2, .inl (fun _ => 0)))] := hD
  have hl := lv_entry ([.ref h0, .int p0]) (n := 2) (Nat.le_of_ble_eq_true rfl)
  rw [lg_entry_eq]
  generalize (lg_sl ([.ref h0, .int p0]) ++ List.replicate (2 - (lg_sl ([.ref h0, .int p0])).length) Slot.unset).toArray = ls at hl ⊢
  have hl : lv_has ls 2 [(0, .ref h0), (1, .int p0)] := hl
  refine lv_aload_n hx hb dX12_values_0 rfl (lv_at hl 0 rfl) ?_
  refine va_get (D := (dC, dI)) (ci := 12) (v := .int 0) (C := RX12) (T := TX12) (N := 98) hx hb hts h_in_X12 hown hK hP 0 rfl rfl 44 (by decide) (hts (.fieldLink RX12 146 "MatchTreesModel" "isMatch" "Z") (by decide +kernel)) (fun _ h9 => h9) rfl dX12_values_1 ?_
  refine lv_if_eq (tgt := 26) hx hb dX12_values_4 (by decide) (fun _ => ?_) (fun c => absurd (by decide) c)
  refine lv_iconst (v := (-1)) hx hb dX12_values_26 (by decide) ?_
  exact W.iret (v := (-1)) hx hb hr (fun t ht hW => ⟨⟨(-1), (), rfl, rfl, trivial⟩, hS.F ht⟩) hS.2.2 dX12_values_27
abbrev w0_c_X12_isPlace (cI : ClassId) (h0 : Nat) (r : Nat → Nat) (p0 : Int32) : va_W := [(h0, .inr (12, (o12 r)))]
set_option maxHeartbeats 4000000 in
set_option maxRecDepth 100000 in
theorem c_X12_isPlace (l : Launch) (dC : Nat → ClassId) (dI : Nat → Nat → Nat) (cI cJ : ClassId) (h0 : Nat) (r : Nat → Nat) (p0 : Int32) (sz : Nat) : Met l yX12_isPlace wsX12_isPlace ({ frames := 1, cells := 0, slots := 0, locals := 60 }) (va_Pc [.ref h0, .int p0] (mPre dC dI cI cJ sz (w0_c_X12_isPlace cI h0 r p0))) (va_Qi (fun (r : Int32) (u : Unit) => r = 0) (fun (u : Unit) (t : State) => va_P (dC, dI) vwCl [(h0, .inr (12, (o12 r)))] t.heap ∧ va_D (va_A (w0_c_X12_isPlace cI h0 r p0) sz) [(h0, .inr (12, (o12 r)))]) (va_A (w0_c_X12_isPlace cI h0 r p0) sz)) 0 0 (va_A (w0_c_X12_isPlace cI h0 r p0) sz) := by
  refine Met.ofW (cc := cX12_isPlace) (maxL := 2) (ret := (some .boolean)) (by decide) rfl ?_
  intro p e s m args below meth c s₁ B hml hv
  obtain ⟨rfl, hsz, hP, hK, hD0, hN⟩ := hv
  have hx := B.exec
  have hb := B.bytes
  have hr := B.returns
  have hts := atoms_spec (ws := wsX12_isPlace) B.pre
  have hown : s.vm.findClass RX12 = some m.cls := findClass_of_methodNamed B.named
  have hlocks := B.notSynchronized
  have h_in_X12 : ∀ w ∈ wsX120, w ∈ wsX12_isPlace := fun w h => List.mem_cons_of_mem _ (List.mem_append_right _ h)
  subst hsz
  have hD := hD0.self (sz := s.heap.size)
  generalize hAe : va_A (w0_c_X12_isPlace cI h0 r p0) s.heap.size = A at hD ⊢
  have hA : ∀ q : Nat, s.heap.size ≤ q → A q := fun q h => by rw [← hAe]; exact Or.inr h
  have hS : va_S A s.heap s.heap [] := va_S.rf
  have hP : va_P (dC, dI) vwCl [(h0, .inr (12, (o12 r)))] s.heap := hP
  have hD : va_D A [(h0, .inr (12, (o12 r)))] := hD
  have hl := lv_entry ([.ref h0, .int p0]) (n := 2) (Nat.le_of_ble_eq_true rfl)
  rw [lg_entry_eq]
  generalize (lg_sl ([.ref h0, .int p0]) ++ List.replicate (2 - (lg_sl ([.ref h0, .int p0])).length) Slot.unset).toArray = ls at hl ⊢
  have hl : lv_has ls 2 [(0, .ref h0), (1, .int p0)] := hl
  refine lv_aload_n hx hb dX12_isPlace_0 rfl (lv_at hl 0 rfl) ?_
  refine va_get (D := (dC, dI)) (ci := 12) (v := .int 0) (C := RX12) (T := TX12) (N := 98) hx hb hts h_in_X12 hown hK hP 0 rfl rfl 44 (by decide) (hts (.fieldLink RX12 146 "MatchTreesModel" "isMatch" "Z") (by decide +kernel)) (fun _ h9 => h9) rfl dX12_isPlace_1 ?_
  refine lv_if_eq (tgt := 27) hx hb dX12_isPlace_4 (by decide) (fun _ => ?_) (fun c => absurd (by decide) c)
  refine lv_iconst (v := 0) hx hb dX12_isPlace_27 (by decide) ?_
  have hP9 := hP.sub (ws' := [(h0, .inr (12, (o12 r)))]) [0] rfl
  have hD9 := hD.sub (ws' := [(h0, .inr (12, (o12 r)))]) [0] (by decide) rfl
  exact W.zret (v := 0) hx hb hr rfl (fun t ht hW => ⟨⟨0, (), rfl, rfl, by rw [ht]; exact hP9, hD9⟩, hS.F ht⟩) hS.2.2 dX12_isPlace_28
abbrev w0_c_X12_arm (cI : ClassId) (h0 : Nat) (r : Nat → Nat) (p0 p1 : Int32) : va_W := [(h0, .inr (12, (o12 r)))]
set_option maxHeartbeats 4000000 in
set_option maxRecDepth 100000 in
theorem c_X12_arm (l : Launch) (dC : Nat → ClassId) (dI : Nat → Nat → Nat) (cI cJ : ClassId) (h0 : Nat) (r : Nat → Nat) (p0 p1 : Int32) (sz : Nat) : Met l yX12_arm wsX12_arm ({ frames := 2, cells := 0, slots := 0, locals := 81 }) (va_Pc [.ref h0, .int p0, .int p1] (mPre dC dI cI cJ sz (w0_c_X12_arm cI h0 r p0 p1))) (va_Qi (fun (r : Int32) (u : Unit) => r = -1) (fun _ _ => True) (va_A (w0_c_X12_arm cI h0 r p0 p1) sz)) 0 0 (va_A (w0_c_X12_arm cI h0 r p0 p1) sz) := by
  refine Met.ofW (cc := cX12_arm) (maxL := 3) (ret := (some .int)) (by decide) rfl ?_
  intro p e s m args below meth c s₁ B hml hv
  obtain ⟨rfl, hsz, hP, hK, hD0, hN⟩ := hv
  have hx := B.exec
  have hb := B.bytes
  have hr := B.returns
  have hts := atoms_spec (ws := wsX12_arm) B.pre
  have hown : s.vm.findClass RX12 = some m.cls := findClass_of_methodNamed B.named
  have hlocks := B.notSynchronized
  have h_in_X12 : ∀ w ∈ wsX120, w ∈ wsX12_arm := fun w h => List.mem_cons_of_mem _ (List.mem_append_right _ h)
  subst hsz
  have hD := hD0.self (sz := s.heap.size)
  generalize hAe : va_A (w0_c_X12_arm cI h0 r p0 p1) s.heap.size = A at hD ⊢
  have hA : ∀ q : Nat, s.heap.size ≤ q → A q := fun q h => by rw [← hAe]; exact Or.inr h
  have hS : va_S A s.heap s.heap [] := va_S.rf
  have hP : va_P (dC, dI) vwCl [(h0, .inr (12, (o12 r)))] s.heap := hP
  have hD : va_D A [(h0, .inr (12, (o12 r)))] := hD
  have hl := lv_entry ([.ref h0, .int p0, .int p1]) (n := 3) (Nat.le_of_ble_eq_true rfl)
  rw [lg_entry_eq]
  generalize (lg_sl ([.ref h0, .int p0, .int p1]) ++ List.replicate (3 - (lg_sl ([.ref h0, .int p0, .int p1])).length) Slot.unset).toArray = ls at hl ⊢
  have hl : lv_has ls 3 [(0, .ref h0), (1, .int p0), (2, .int p1)] := hl
  refine lv_aload_n hx hb dX12_arm_0 rfl (lv_at hl 0 rfl) ?_
  refine lv_iload_n hx hb dX12_arm_1 rfl (lv_at hl 1 rfl) ?_
  have hPc := hP.sub (ws' := [(h0, .inr (12, (o12 r)))]) [0] rfl
  have hDc := hD.sub (ws' := [(h0, .inr (12, (o12 r)))]) [0] (by decide) rfl
  have hFc := va_free (wc := [(h0, .inr (12, (o12 r)))]) hD hS hA [0] rfl
  refine va_calli (va_runV (As := [.int p0]) (rest := []) ⟨hx, hb, hml, hown, hts⟩ (c_X12_isPlace l dC dI cI cJ h0 r p0 s.heap.size) (cwV 1 hts gX12_arm_X12_isPlace rfl rfl rfl (by decide +kernel) ⟨Nat.le_of_ble_eq_true rfl, Nat.le_of_ble_eq_true rfl⟩) ⟨mBlind, va_recv hK hPc (ci := 12) (q0 := 0) rfl rfl, mGo hPc hK hDc hN⟩ rfl rfl hl.1 rfl (lv_room (Nat.le_of_ble_eq_true rfl)) dX12_arm_2 ⟨Nat.le_of_ble_eq_true rfl, Nat.le_of_ble_eq_true rfl⟩) hS (fun q _ h => hFc q h) hFc (fun r_1 u t H1 locs ht hvm hw hB hz1 hk1 hS => ?_)
  obtain ⟨hP1, hD1⟩ := hB
  obtain rfl : r_1 = 0 := hw
  rw [ht] at hP1
  obtain ⟨hP, hD⟩ := va_join (wr := []) (w1 := [(h0, .inr (12, (o12 r)))]) hP hD [0] [] rfl rfl (by decide) (by decide) hk1 hFc hP1 hD1
  generalize H1 = H at hP hS ⊢
  have hP : va_P (dC, dI) vwCl [(h0, .inr (12, (o12 r)))] H := hP
  have hD : va_D A [(h0, .inr (12, (o12 r)))] := hD
  refine lv_if_ne (tgt := 10) hx hb dX12_arm_5 (by decide) (fun c => absurd c (by decide)) (fun _ => ?_)
  refine lv_iconst (v := (-1)) hx hb dX12_arm_8 (by decide) ?_
  exact W.iret (v := (-1)) hx hb hr (fun t ht hW => ⟨⟨(-1), (), rfl, rfl, trivial⟩, hS.F ht⟩) hS.2.2 dX12_arm_9
abbrev w0_c_X12_fits (cI : ClassId) (h0 : Nat) (r : Nat → Nat) (p0 p1 p2 : Int32) : va_W := [(h0, .inr (12, (o12 r)))]
set_option maxHeartbeats 4000000 in
set_option maxRecDepth 100000 in
theorem c_X12_fits (l : Launch) (dC : Nat → ClassId) (dI : Nat → Nat → Nat) (cI cJ : ClassId) (h0 : Nat) (r : Nat → Nat) (p0 p1 p2 : Int32) (sz : Nat) : Met l yX12_fits wsX12_fits ({ frames := 2, cells := 0, slots := 0, locals := 81 }) (va_Pc [.ref h0, .int p0, .int p1, .int p2] (mPre dC dI cI cJ sz (w0_c_X12_fits cI h0 r p0 p1 p2))) (va_Qi (fun (r : Int32) (u : Unit) => r = -1) (fun _ _ => True) (va_A (w0_c_X12_fits cI h0 r p0 p1 p2) sz)) 0 0 (va_A (w0_c_X12_fits cI h0 r p0 p1 p2) sz) := by
  refine Met.ofW (cc := cX12_fits) (maxL := 4) (ret := (some .int)) (by decide) rfl ?_
  intro p e s m args below meth c s₁ B hml hv
  obtain ⟨rfl, hsz, hP, hK, hD0, hN⟩ := hv
  have hx := B.exec
  have hb := B.bytes
  have hr := B.returns
  have hts := atoms_spec (ws := wsX12_fits) B.pre
  have hown : s.vm.findClass RX12 = some m.cls := findClass_of_methodNamed B.named
  have hlocks := B.notSynchronized
  have h_in_X12 : ∀ w ∈ wsX120, w ∈ wsX12_fits := fun w h => List.mem_cons_of_mem _ (List.mem_append_right _ h)
  subst hsz
  have hD := hD0.self (sz := s.heap.size)
  generalize hAe : va_A (w0_c_X12_fits cI h0 r p0 p1 p2) s.heap.size = A at hD ⊢
  have hA : ∀ q : Nat, s.heap.size ≤ q → A q := fun q h => by rw [← hAe]; exact Or.inr h
  have hS : va_S A s.heap s.heap [] := va_S.rf
  have hP : va_P (dC, dI) vwCl [(h0, .inr (12, (o12 r)))] s.heap := hP
  have hD : va_D A [(h0, .inr (12, (o12 r)))] := hD
  have hl := lv_entry ([.ref h0, .int p0, .int p1, .int p2]) (n := 4) (Nat.le_of_ble_eq_true rfl)
  rw [lg_entry_eq]
  generalize (lg_sl ([.ref h0, .int p0, .int p1, .int p2]) ++ List.replicate (4 - (lg_sl ([.ref h0, .int p0, .int p1, .int p2])).length) Slot.unset).toArray = ls at hl ⊢
  have hl : lv_has ls 4 [(0, .ref h0), (1, .int p0), (2, .int p1), (3, .int p2)] := hl
  refine lv_aload_n hx hb dX12_fits_0 rfl (lv_at hl 0 rfl) ?_
  refine lv_iload_n hx hb dX12_fits_1 rfl (lv_at hl 1 rfl) ?_
  have hPc := hP.sub (ws' := [(h0, .inr (12, (o12 r)))]) [0] rfl
  have hDc := hD.sub (ws' := [(h0, .inr (12, (o12 r)))]) [0] (by decide) rfl
  have hFc := va_free (wc := [(h0, .inr (12, (o12 r)))]) hD hS hA [0] rfl
  refine va_calli (va_runV (As := [.int p0]) (rest := []) ⟨hx, hb, hml, hown, hts⟩ (c_X12_isPlace l dC dI cI cJ h0 r p0 s.heap.size) (cwV 1 hts gX12_fits_X12_isPlace rfl rfl rfl (by decide +kernel) ⟨Nat.le_of_ble_eq_true rfl, Nat.le_of_ble_eq_true rfl⟩) ⟨mBlind, va_recv hK hPc (ci := 12) (q0 := 0) rfl rfl, mGo hPc hK hDc hN⟩ rfl rfl hl.1 rfl (lv_room (Nat.le_of_ble_eq_true rfl)) dX12_fits_2 ⟨Nat.le_of_ble_eq_true rfl, Nat.le_of_ble_eq_true rfl⟩) hS (fun q _ h => hFc q h) hFc (fun r_1 u t H1 locs ht hvm hw hB hz1 hk1 hS => ?_)
  obtain ⟨hP1, hD1⟩ := hB
  obtain rfl : r_1 = 0 := hw
  rw [ht] at hP1
  obtain ⟨hP, hD⟩ := va_join (wr := []) (w1 := [(h0, .inr (12, (o12 r)))]) hP hD [0] [] rfl rfl (by decide) (by decide) hk1 hFc hP1 hD1
  generalize H1 = H at hP hS ⊢
  have hP : va_P (dC, dI) vwCl [(h0, .inr (12, (o12 r)))] H := hP
  have hD : va_D A [(h0, .inr (12, (o12 r)))] := hD
  refine lv_if_eq (tgt := 37) hx hb dX12_fits_5 (by decide) (fun _ => ?_) (fun c => absurd (by decide) c)
  refine lv_iconst (v := (-1)) hx hb dX12_fits_37 (by decide) ?_
  exact W.iret (v := (-1)) hx hb hr (fun t ht hW => ⟨⟨(-1), (), rfl, rfl, trivial⟩, hS.F ht⟩) hS.2.2 dX12_fits_38
abbrev w0_c_X12_holds (cI : ClassId) (h0 : Nat) (r : Nat → Nat) (p0 p1 : Int32) : va_W := [(h0, .inr (12, (o12 r)))]
set_option maxHeartbeats 4000000 in
set_option maxRecDepth 100000 in
theorem c_X12_holds (l : Launch) (dC : Nat → ClassId) (dI : Nat → Nat → Nat) (cI cJ : ClassId) (h0 : Nat) (r : Nat → Nat) (p0 p1 : Int32) (sz : Nat) : Met l yX12_holds wsX12_holds ({ frames := 2, cells := 0, slots := 0, locals := 81 }) (va_Pc [.ref h0, .int p0, .int p1] (mPre dC dI cI cJ sz (w0_c_X12_holds cI h0 r p0 p1))) (va_Qi (fun (r : Int32) (u : Unit) => r = -1) (fun _ _ => True) (va_A (w0_c_X12_holds cI h0 r p0 p1) sz)) 0 0 (va_A (w0_c_X12_holds cI h0 r p0 p1) sz) := by
  refine Met.ofW (cc := cX12_holds) (maxL := 4) (ret := (some .int)) (by decide) rfl ?_
  intro p e s m args below meth c s₁ B hml hv
  obtain ⟨rfl, hsz, hP, hK, hD0, hN⟩ := hv
  have hx := B.exec
  have hb := B.bytes
  have hr := B.returns
  have hts := atoms_spec (ws := wsX12_holds) B.pre
  have hown : s.vm.findClass RX12 = some m.cls := findClass_of_methodNamed B.named
  have hlocks := B.notSynchronized
  have h_in_X12 : ∀ w ∈ wsX120, w ∈ wsX12_holds := fun w h => List.mem_cons_of_mem _ (List.mem_append_right _ h)
  subst hsz
  have hD := hD0.self (sz := s.heap.size)
  generalize hAe : va_A (w0_c_X12_holds cI h0 r p0 p1) s.heap.size = A at hD ⊢
  have hA : ∀ q : Nat, s.heap.size ≤ q → A q := fun q h => by rw [← hAe]; exact Or.inr h
  have hS : va_S A s.heap s.heap [] := va_S.rf
  have hP : va_P (dC, dI) vwCl [(h0, .inr (12, (o12 r)))] s.heap := hP
  have hD : va_D A [(h0, .inr (12, (o12 r)))] := hD
  have hl := lv_entry ([.ref h0, .int p0, .int p1]) (n := 4) (Nat.le_of_ble_eq_true rfl)
  rw [lg_entry_eq]
  generalize (lg_sl ([.ref h0, .int p0, .int p1]) ++ List.replicate (4 - (lg_sl ([.ref h0, .int p0, .int p1])).length) Slot.unset).toArray = ls at hl ⊢
  have hl : lv_has ls 4 [(0, .ref h0), (1, .int p0), (2, .int p1)] := hl
  refine lv_aload_n hx hb dX12_holds_0 rfl (lv_at hl 0 rfl) ?_
  refine lv_iload_n hx hb dX12_holds_1 rfl (lv_at hl 1 rfl) ?_
  have hPc := hP.sub (ws' := [(h0, .inr (12, (o12 r)))]) [0] rfl
  have hDc := hD.sub (ws' := [(h0, .inr (12, (o12 r)))]) [0] (by decide) rfl
  have hFc := va_free (wc := [(h0, .inr (12, (o12 r)))]) hD hS hA [0] rfl
  refine va_calli (va_runV (As := [.int p0]) (rest := []) ⟨hx, hb, hml, hown, hts⟩ (c_X12_isPlace l dC dI cI cJ h0 r p0 s.heap.size) (cwV 1 hts gX12_holds_X12_isPlace rfl rfl rfl (by decide +kernel) ⟨Nat.le_of_ble_eq_true rfl, Nat.le_of_ble_eq_true rfl⟩) ⟨mBlind, va_recv hK hPc (ci := 12) (q0 := 0) rfl rfl, mGo hPc hK hDc hN⟩ rfl rfl hl.1 rfl (lv_room (Nat.le_of_ble_eq_true rfl)) dX12_holds_2 ⟨Nat.le_of_ble_eq_true rfl, Nat.le_of_ble_eq_true rfl⟩) hS (fun q _ h => hFc q h) hFc (fun r_1 u t H1 locs ht hvm hw hB hz1 hk1 hS => ?_)
  obtain ⟨hP1, hD1⟩ := hB
  obtain rfl : r_1 = 0 := hw
  rw [ht] at hP1
  obtain ⟨hP, hD⟩ := va_join (wr := []) (w1 := [(h0, .inr (12, (o12 r)))]) hP hD [0] [] rfl rfl (by decide) (by decide) hk1 hFc hP1 hD1
  generalize H1 = H at hP hS ⊢
  have hP : va_P (dC, dI) vwCl [(h0, .inr (12, (o12 r)))] H := hP
  have hD : va_D A [(h0, .inr (12, (o12 r)))] := hD
  refine lv_if_eq (tgt := 16) hx hb dX12_holds_5 (by decide) (fun _ => ?_) (fun c => absurd (by decide) c)
  refine lv_iconst (v := (-1)) hx hb dX12_holds_16 (by decide) ?_
  exact W.iret (v := (-1)) hx hb hr (fun t ht hW => ⟨⟨(-1), (), rfl, rfl, trivial⟩, hS.F ht⟩) hS.2.2 dX12_holds_17
abbrev w0_c_X12_missing (cI : ClassId) (h0 : Nat) (r : Nat → Nat) (p0 : Int32) : va_W := [(h0, .inr (12, (o12 r)))]
set_option maxHeartbeats 4000000 in
set_option maxRecDepth 100000 in
theorem c_X12_missing (l : Launch) (dC : Nat → ClassId) (dI : Nat → Nat → Nat) (cI cJ : ClassId) (h0 : Nat) (r : Nat → Nat) (p0 : Int32) (sz : Nat) : Met l yX12_missing wsX12_missing ({ frames := 1, cells := 0, slots := 0, locals := 60 }) (va_Pc [.ref h0, .int p0] (mPre dC dI cI cJ sz (w0_c_X12_missing cI h0 r p0))) (va_Qi (fun (r : Int32) (u : Unit) => r = -1) (fun _ _ => True) (va_A (w0_c_X12_missing cI h0 r p0) sz)) 0 0 (va_A (w0_c_X12_missing cI h0 r p0) sz) := by
  refine Met.ofW (cc := cX12_missing) (maxL := 4) (ret := (some .int)) (by decide) rfl ?_
  intro p e s m args below meth c s₁ B hml hv
  obtain ⟨rfl, hsz, hP, hK, hD0, hN⟩ := hv
  have hx := B.exec
  have hb := B.bytes
  have hr := B.returns
  have hts := atoms_spec (ws := wsX12_missing) B.pre
  have hown : s.vm.findClass RX12 = some m.cls := findClass_of_methodNamed B.named
  have hlocks := B.notSynchronized
  have h_in_X12 : ∀ w ∈ wsX120, w ∈ wsX12_missing := fun w h => List.mem_cons_of_mem _ (List.mem_append_right _ h)
  subst hsz
  have hD := hD0.self (sz := s.heap.size)
  generalize hAe : va_A (w0_c_X12_missing cI h0 r p0) s.heap.size = A at hD ⊢
  have hA : ∀ q : Nat, s.heap.size ≤ q → A q := fun q h => by rw [← hAe]; exact Or.inr h
  have hS : va_S A s.heap s.heap [] := va_S.rf
  have hP : va_P (dC, dI) vwCl [(h0, .inr (12, (o12 r)))] s.heap := hP
  have hD : va_D A [(h0, .inr (12, (o12 r)))] := hD
  have hl := lv_entry ([.ref h0, .int p0]) (n := 4) (Nat.le_of_ble_eq_true rfl)
  rw [lg_entry_eq]
  generalize (lg_sl ([.ref h0, .int p0]) ++ List.replicate (4 - (lg_sl ([.ref h0, .int p0])).length) Slot.unset).toArray = ls at hl ⊢
  have hl : lv_has ls 4 [(0, .ref h0), (1, .int p0)] := hl
  refine lv_aload_n hx hb dX12_missing_0 rfl (lv_at hl 0 rfl) ?_
  refine va_get (D := (dC, dI)) (ci := 12) (v := .int 0) (C := RX12) (T := TX12) (N := 98) hx hb hts h_in_X12 hown hK hP 0 rfl rfl 44 (by decide) (hts (.fieldLink RX12 146 "MatchTreesModel" "isMatch" "Z") (by decide +kernel)) (fun _ h9 => h9) rfl dX12_missing_1 ?_
  refine lv_if_eq (tgt := 12) hx hb dX12_missing_4 (by decide) (fun _ => ?_) (fun c => absurd (by decide) c)
  refine lv_iconst (v := (-1)) hx hb dX12_missing_12 (by decide) ?_
  exact W.iret (v := (-1)) hx hb hr (fun t ht hW => ⟨⟨(-1), (), rfl, rfl, trivial⟩, hS.F ht⟩) hS.2.2 dX12_missing_13
abbrev w0_c_X12_isRow (cI : ClassId) (h0 : Nat) (r : Nat → Nat) (p0 : Int32) : va_W := [(h0, .inr (12, (o12 r)))]
set_option maxHeartbeats 4000000 in
set_option maxRecDepth 100000 in
theorem c_X12_isRow (l : Launch) (dC : Nat → ClassId) (dI : Nat → Nat → Nat) (cI cJ : ClassId) (h0 : Nat) (r : Nat → Nat) (p0 : Int32) (sz : Nat) : Met l yX12_isRow wsX12_isRow ({ frames := 1, cells := 0, slots := 0, locals := 60 }) (va_Pc [.ref h0, .int p0] (mPre dC dI cI cJ sz (w0_c_X12_isRow cI h0 r p0))) (va_Qi (fun (r : Int32) (u : Unit) => r = 0) (fun (u : Unit) (t : State) => va_P (dC, dI) vwCl [(h0, .inr (12, (o12 r)))] t.heap ∧ va_D (va_A (w0_c_X12_isRow cI h0 r p0) sz) [(h0, .inr (12, (o12 r)))]) (va_A (w0_c_X12_isRow cI h0 r p0) sz)) 0 0 (va_A (w0_c_X12_isRow cI h0 r p0) sz) := by
  refine Met.ofW (cc := cX12_isRow) (maxL := 2) (ret := (some .boolean)) (by decide) rfl ?_
  intro p e s m args below meth c s₁ B hml hv
  obtain ⟨rfl, hsz, hP, hK, hD0, hN⟩ := hv
  have hx := B.exec
  have hb := B.bytes
  have hr := B.returns
  have hts := atoms_spec (ws := wsX12_isRow) B.pre
  have hown : s.vm.findClass RX12 = some m.cls := findClass_of_methodNamed B.named
  have hlocks := B.notSynchronized
  have h_in_X12 : ∀ w ∈ wsX120, w ∈ wsX12_isRow := fun w h => List.mem_cons_of_mem _ (List.mem_append_right _ h)
  subst hsz
  have hD := hD0.self (sz := s.heap.size)
  generalize hAe : va_A (w0_c_X12_isRow cI h0 r p0) s.heap.size = A at hD ⊢
  have hA : ∀ q : Nat, s.heap.size ≤ q → A q := fun q h => by rw [← hAe]; exact Or.inr h
  have hS : va_S A s.heap s.heap [] := va_S.rf
  have hP : va_P (dC, dI) vwCl [(h0, .inr (12, (o12 r)))] s.heap := hP
  have hD : va_D A [(h0, .inr (12, (o12 r)))] := hD
  have hl := lv_entry ([.ref h0, .int p0]) (n := 2) (Nat.le_of_ble_eq_true rfl)
  rw [lg_entry_eq]
  generalize (lg_sl ([.ref h0, .int p0]) ++ List.replicate (2 - (lg_sl ([.ref h0, .int p0])).length) Slot.unset).toArray = ls at hl ⊢
  have hl : lv_has ls 2 [(0, .ref h0), (1, .int p0)] := hl
  refine lv_aload_n hx hb dX12_isRow_0 rfl (lv_at hl 0 rfl) ?_
  refine va_get (D := (dC, dI)) (ci := 12) (v := .int 0) (C := RX12) (T := TX12) (N := 98) hx hb hts h_in_X12 hown hK hP 0 rfl rfl 44 (by decide) (hts (.fieldLink RX12 146 "MatchTreesModel" "isMatch" "Z") (by decide +kernel)) (fun _ h9 => h9) rfl dX12_isRow_1 ?_
  refine lv_if_eq (tgt := 25) hx hb dX12_isRow_4 (by decide) (fun _ => ?_) (fun c => absurd (by decide) c)
  refine lv_iconst (v := 0) hx hb dX12_isRow_25 (by decide) ?_
  have hP9 := hP.sub (ws' := [(h0, .inr (12, (o12 r)))]) [0] rfl
  have hD9 := hD.sub (ws' := [(h0, .inr (12, (o12 r)))]) [0] (by decide) rfl
  exact W.zret (v := 0) hx hb hr rfl (fun t ht hW => ⟨⟨0, (), rfl, rfl, by rw [ht]; exact hP9, hD9⟩, hS.F ht⟩) hS.2.2 dX12_isRow_26
abbrev w0_c_X12_taken (cI : ClassId) (h0 : Nat) (r : Nat → Nat) (p0 : Int32) : va_W := [(h0, .inr (12, (o12 r)))]
set_option maxHeartbeats 4000000 in
set_option maxRecDepth 100000 in
theorem c_X12_taken (l : Launch) (dC : Nat → ClassId) (dI : Nat → Nat → Nat) (cI cJ : ClassId) (h0 : Nat) (r : Nat → Nat) (p0 : Int32) (sz : Nat) : Met l yX12_taken wsX12_taken ({ frames := 2, cells := 0, slots := 0, locals := 81 }) (va_Pc [.ref h0, .int p0] (mPre dC dI cI cJ sz (w0_c_X12_taken cI h0 r p0))) (va_Qi (fun (r : Int32) (u : Unit) => r = -1) (fun _ _ => True) (va_A (w0_c_X12_taken cI h0 r p0) sz)) 0 0 (va_A (w0_c_X12_taken cI h0 r p0) sz) := by
  refine Met.ofW (cc := cX12_taken) (maxL := 2) (ret := (some .int)) (by decide) rfl ?_
  intro p e s m args below meth c s₁ B hml hv
  obtain ⟨rfl, hsz, hP, hK, hD0, hN⟩ := hv
  have hx := B.exec
  have hb := B.bytes
  have hr := B.returns
  have hts := atoms_spec (ws := wsX12_taken) B.pre
  have hown : s.vm.findClass RX12 = some m.cls := findClass_of_methodNamed B.named
  have hlocks := B.notSynchronized
  have h_in_X12 : ∀ w ∈ wsX120, w ∈ wsX12_taken := fun w h => List.mem_cons_of_mem _ (List.mem_append_right _ h)
  subst hsz
  have hD := hD0.self (sz := s.heap.size)
  generalize hAe : va_A (w0_c_X12_taken cI h0 r p0) s.heap.size = A at hD ⊢
  have hA : ∀ q : Nat, s.heap.size ≤ q → A q := fun q h => by rw [← hAe]; exact Or.inr h
  have hS : va_S A s.heap s.heap [] := va_S.rf
  have hP : va_P (dC, dI) vwCl [(h0, .inr (12, (o12 r)))] s.heap := hP
  have hD : va_D A [(h0, .inr (12, (o12 r)))] := hD
  have hl := lv_entry ([.ref h0, .int p0]) (n := 2) (Nat.le_of_ble_eq_true rfl)
  rw [lg_entry_eq]
  generalize (lg_sl ([.ref h0, .int p0]) ++ List.replicate (2 - (lg_sl ([.ref h0, .int p0])).length) Slot.unset).toArray = ls at hl ⊢
  have hl : lv_has ls 2 [(0, .ref h0), (1, .int p0)] := hl
  refine lv_aload_n hx hb dX12_taken_0 rfl (lv_at hl 0 rfl) ?_
  refine lv_iload_n hx hb dX12_taken_1 rfl (lv_at hl 1 rfl) ?_
  have hPc := hP.sub (ws' := [(h0, .inr (12, (o12 r)))]) [0] rfl
  have hDc := hD.sub (ws' := [(h0, .inr (12, (o12 r)))]) [0] (by decide) rfl
  have hFc := va_free (wc := [(h0, .inr (12, (o12 r)))]) hD hS hA [0] rfl
  refine va_calli (va_runV (As := [.int p0]) (rest := []) ⟨hx, hb, hml, hown, hts⟩ (c_X12_isRow l dC dI cI cJ h0 r p0 s.heap.size) (cwV 1 hts gX12_taken_X12_isRow rfl rfl rfl (by decide +kernel) ⟨Nat.le_of_ble_eq_true rfl, Nat.le_of_ble_eq_true rfl⟩) ⟨mBlind, va_recv hK hPc (ci := 12) (q0 := 0) rfl rfl, mGo hPc hK hDc hN⟩ rfl rfl hl.1 rfl (lv_room (Nat.le_of_ble_eq_true rfl)) dX12_taken_2 ⟨Nat.le_of_ble_eq_true rfl, Nat.le_of_ble_eq_true rfl⟩) hS (fun q _ h => hFc q h) hFc (fun r_1 u t H1 locs ht hvm hw hB hz1 hk1 hS => ?_)
  obtain ⟨hP1, hD1⟩ := hB
  obtain rfl : r_1 = 0 := hw
  rw [ht] at hP1
  obtain ⟨hP, hD⟩ := va_join (wr := []) (w1 := [(h0, .inr (12, (o12 r)))]) hP hD [0] [] rfl rfl (by decide) (by decide) hk1 hFc hP1 hD1
  generalize H1 = H at hP hS ⊢
  have hP : va_P (dC, dI) vwCl [(h0, .inr (12, (o12 r)))] H := hP
  have hD : va_D A [(h0, .inr (12, (o12 r)))] := hD
  refine lv_if_ne (tgt := 10) hx hb dX12_taken_5 (by decide) (fun c => absurd c (by decide)) (fun _ => ?_)
  refine lv_iconst (v := (-1)) hx hb dX12_taken_8 (by decide) ?_
  exact W.iret (v := (-1)) hx hb hr (fun t ht hW => ⟨⟨(-1), (), rfl, rfl, trivial⟩, hS.F ht⟩) hS.2.2 dX12_taken_9
abbrev w0_c_X12_text (cI : ClassId) (h0 : Nat) (r : Nat → Nat) (p0 : Int32) : va_W := [(h0, .inr (12, (o12 r)))]
set_option maxHeartbeats 4000000 in
set_option maxRecDepth 100000 in
theorem c_X12_text (l : Launch) (dC : Nat → ClassId) (dI : Nat → Nat → Nat) (cI cJ : ClassId) (h0 : Nat) (r : Nat → Nat) (p0 : Int32) (sz : Nat) : Met l yX12_text wsX12_text ({ frames := 2, cells := 0, slots := 0, locals := 81 }) (va_Pc [.ref h0, .int p0] (mPre dC dI cI cJ sz (w0_c_X12_text cI h0 r p0))) (va_Qi (fun (r : Int32) (u : Unit) => r = -1) (fun _ _ => True) (va_A (w0_c_X12_text cI h0 r p0) sz)) 0 0 (va_A (w0_c_X12_text cI h0 r p0) sz) := by
  refine Met.ofW (cc := cX12_text) (maxL := 4) (ret := (some .int)) (by decide) rfl ?_
  intro p e s m args below meth c s₁ B hml hv
  obtain ⟨rfl, hsz, hP, hK, hD0, hN⟩ := hv
  have hx := B.exec
  have hb := B.bytes
  have hr := B.returns
  have hts := atoms_spec (ws := wsX12_text) B.pre
  have hown : s.vm.findClass RX12 = some m.cls := findClass_of_methodNamed B.named
  have hlocks := B.notSynchronized
  have h_in_X12 : ∀ w ∈ wsX120, w ∈ wsX12_text := fun w h => List.mem_cons_of_mem _ (List.mem_append_right _ h)
  subst hsz
  have hD := hD0.self (sz := s.heap.size)
  generalize hAe : va_A (w0_c_X12_text cI h0 r p0) s.heap.size = A at hD ⊢
  have hA : ∀ q : Nat, s.heap.size ≤ q → A q := fun q h => by rw [← hAe]; exact Or.inr h
  have hS : va_S A s.heap s.heap [] := va_S.rf
  have hP : va_P (dC, dI) vwCl [(h0, .inr (12, (o12 r)))] s.heap := hP
  have hD : va_D A [(h0, .inr (12, (o12 r)))] := hD
  have hl := lv_entry ([.ref h0, .int p0]) (n := 4) (Nat.le_of_ble_eq_true rfl)
  rw [lg_entry_eq]
  generalize (lg_sl ([.ref h0, .int p0]) ++ List.replicate (4 - (lg_sl ([.ref h0, .int p0])).length) Slot.unset).toArray = ls at hl ⊢
  have hl : lv_has ls 4 [(0, .ref h0), (1, .int p0)] := hl
  refine lv_aload_n hx hb dX12_text_0 rfl (lv_at hl 0 rfl) ?_
  refine lv_iload_n hx hb dX12_text_1 rfl (lv_at hl 1 rfl) ?_
  have hPc := hP.sub (ws' := [(h0, .inr (12, (o12 r)))]) [0] rfl
  have hDc := hD.sub (ws' := [(h0, .inr (12, (o12 r)))]) [0] (by decide) rfl
  have hFc := va_free (wc := [(h0, .inr (12, (o12 r)))]) hD hS hA [0] rfl
  refine va_calli (va_runV (As := [.int p0]) (rest := []) ⟨hx, hb, hml, hown, hts⟩ (c_X12_isRow l dC dI cI cJ h0 r p0 s.heap.size) (cwV 1 hts gX12_text_X12_isRow rfl rfl rfl (by decide +kernel) ⟨Nat.le_of_ble_eq_true rfl, Nat.le_of_ble_eq_true rfl⟩) ⟨mBlind, va_recv hK hPc (ci := 12) (q0 := 0) rfl rfl, mGo hPc hK hDc hN⟩ rfl rfl hl.1 rfl (lv_room (Nat.le_of_ble_eq_true rfl)) dX12_text_2 ⟨Nat.le_of_ble_eq_true rfl, Nat.le_of_ble_eq_true rfl⟩) hS (fun q _ h => hFc q h) hFc (fun r_1 u t H1 locs ht hvm hw hB hz1 hk1 hS => ?_)
  obtain ⟨hP1, hD1⟩ := hB
  obtain rfl : r_1 = 0 := hw
  rw [ht] at hP1
  obtain ⟨hP, hD⟩ := va_join (wr := []) (w1 := [(h0, .inr (12, (o12 r)))]) hP hD [0] [] rfl rfl (by decide) (by decide) hk1 hFc hP1 hD1
  generalize H1 = H at hP hS ⊢
  have hP : va_P (dC, dI) vwCl [(h0, .inr (12, (o12 r)))] H := hP
  have hD : va_D A [(h0, .inr (12, (o12 r)))] := hD
  refine lv_if_ne (tgt := 10) hx hb dX12_text_5 (by decide) (fun c => absurd c (by decide)) (fun _ => ?_)
  refine lv_iconst (v := (-1)) hx hb dX12_text_8 (by decide) ?_
  exact W.iret (v := (-1)) hx hb hr (fun t ht hW => ⟨⟨(-1), (), rfl, rfl, trivial⟩, hS.F ht⟩) hS.2.2 dX12_text_9
abbrev w0_c_X12_octet (cI : ClassId) (h0 : Nat) (r : Nat → Nat) (p0 : Int32) : va_W := [(h0, .inr (12, (o12 r)))]
set_option maxHeartbeats 4000000 in
set_option maxRecDepth 100000 in
theorem c_X12_octet (l : Launch) (dC : Nat → ClassId) (dI : Nat → Nat → Nat) (cI cJ : ClassId) (h0 : Nat) (r : Nat → Nat) (p0 : Int32) (sz : Nat) : Met l yX12_octet wsX12_octet ({ frames := 2, cells := 0, slots := 0, locals := 82 }) (va_Pc [.ref h0, .int p0] (mPre dC dI cI cJ sz (w0_c_X12_octet cI h0 r p0))) (va_Qi (fun (r : Int32) (u : Unit) => r = -1) (fun _ _ => True) (va_A (w0_c_X12_octet cI h0 r p0) sz)) 0 0 (va_A (w0_c_X12_octet cI h0 r p0) sz) := by
  refine Met.ofW (cc := cX12_octet) (maxL := 2) (ret := (some .int)) (by decide) rfl ?_
  intro p e s m args below meth c s₁ B hml hv
  obtain ⟨rfl, hsz, hP, hK, hD0, hN⟩ := hv
  have hx := B.exec
  have hb := B.bytes
  have hr := B.returns
  have hts := atoms_spec (ws := wsX12_octet) B.pre
  have hown : s.vm.findClass RX12 = some m.cls := findClass_of_methodNamed B.named
  have hlocks := B.notSynchronized
  have h_in_X12 : ∀ w ∈ wsX120, w ∈ wsX12_octet := fun w h => List.mem_cons_of_mem _ (List.mem_append_right _ h)
  subst hsz
  have hD := hD0.self (sz := s.heap.size)
  generalize hAe : va_A (w0_c_X12_octet cI h0 r p0) s.heap.size = A at hD ⊢
  have hA : ∀ q : Nat, s.heap.size ≤ q → A q := fun q h => by rw [← hAe]; exact Or.inr h
  have hS : va_S A s.heap s.heap [] := va_S.rf
  have hP : va_P (dC, dI) vwCl [(h0, .inr (12, (o12 r)))] s.heap := hP
  have hD : va_D A [(h0, .inr (12, (o12 r)))] := hD
  have hl := lv_entry ([.ref h0, .int p0]) (n := 2) (Nat.le_of_ble_eq_true rfl)
  rw [lg_entry_eq]
  generalize (lg_sl ([.ref h0, .int p0]) ++ List.replicate (2 - (lg_sl ([.ref h0, .int p0])).length) Slot.unset).toArray = ls at hl ⊢
  have hl : lv_has ls 2 [(0, .ref h0), (1, .int p0)] := hl
  refine lv_iload_n hx hb dX12_octet_0 rfl (lv_at hl 1 rfl) ?_
  refine lv_iconst (v := 0) hx hb dX12_octet_1 (by decide) ?_
  refine lv_aload_n hx hb dX12_octet_2 rfl (lv_at hl 0 rfl) ?_
  refine va_get (D := (dC, dI)) (ci := 12) (v := .int 0) (C := RX12) (T := TX12) (N := 98) hx hb hts h_in_X12 hown hK hP 0 rfl rfl 70 (by decide) (hts (.fieldLink RX12 224 "MatchTreesModel" "outs" "I") (by decide +kernel)) (fun _ h9 => h9) rfl dX12_octet_3 ?_
  refine lv_iconst (v := 1) hx hb dX12_octet_6 (by decide) ?_
  refine k_isub (v := (-1)) hx hb (by decide) dX12_octet_7 ?_
  have hPc := hP.sub (ws' := []) [] rfl
  have hDc := hD.sub (ws' := []) [] (by decide) rfl
  have hFc := va_free (wc := []) hD hS hA [] rfl
  refine va_calli (va_runS (As := [.int p0, .int 0, .int (-1)]) (rest := []) ⟨hx, hb, hml, hown, hts⟩ (c_X12_is_0_m1 l dC dI cI cJ p0 s.heap.size) (va_cwS 3 hts gX12_octet_X12_is rfl rfl rfl (by decide +kernel) ⟨Nat.le_of_ble_eq_true rfl, Nat.le_of_ble_eq_true rfl⟩) ⟨mBlind, mGo hPc hK hDc hN⟩ rfl rfl hl.1 rfl (lv_room (Nat.le_of_ble_eq_true rfl)) dX12_octet_8 ⟨Nat.le_of_ble_eq_true rfl, Nat.le_of_ble_eq_true rfl⟩) hS (fun q _ h => hFc q h) hFc (fun r_1 u t H1 locs ht hvm hw hB hz1 hk1 hS => ?_)
  obtain rfl : r_1 = 0 := hw.trans (if_neg (fun q => by have h1 := Int32.le_iff_toInt_le.mp q.1; have h2 := Int32.le_iff_toInt_le.mp q.2; have e1 : (0 : Int32).toInt = 0 := (by decide); have e2 : ((-1) : Int32).toInt = -1 := (by decide); omega))
  obtain ⟨hP, hD⟩ := va_join (wr := [(h0, .inr (12, (o12 r)))]) (w1 := []) hP hD [] [0] rfl rfl (by decide) (by decide) hk1 hFc va_P0 va_D0
  generalize H1 = H at hP hS ⊢
  have hP : va_P (dC, dI) vwCl [(h0, .inr (12, (o12 r)))] H := hP
  have hD : va_D A [(h0, .inr (12, (o12 r)))] := hD
  refine lv_if_eq (tgt := 23) hx hb dX12_octet_11 (by decide) (fun _ => ?_) (fun c => absurd (by decide) c)
  refine lv_iconst (v := (-1)) hx hb dX12_octet_23 (by decide) ?_
  exact W.iret (v := (-1)) hx hb hr (fun t ht hW => ⟨⟨(-1), (), rfl, rfl, trivial⟩, hS.F ht⟩) hS.2.2 dX12_octet_24
abbrev w0_c_X12_tree (cI : ClassId) (h0 : Nat) (r : Nat → Nat) (p0 p1 : Int32) : va_W := [(h0, .inr (12, (o12 r)))]
set_option maxHeartbeats 4000000 in
set_option maxRecDepth 100000 in
theorem c_X12_tree (l : Launch) (dC : Nat → ClassId) (dI : Nat → Nat → Nat) (cI cJ : ClassId) (h0 : Nat) (r : Nat → Nat) (p0 p1 : Int32) (sz : Nat) : Met l yX12_tree wsX12_tree ({ frames := 1, cells := 0, slots := 0, locals := 60 }) (va_Pc [.ref h0, .int p0, .int p1] (mPre dC dI cI cJ sz (w0_c_X12_tree cI h0 r p0 p1))) (va_Qi (fun (r : Int32) (u : Unit) => r = -1) (fun _ _ => True) (va_A (w0_c_X12_tree cI h0 r p0 p1) sz)) 0 0 (va_A (w0_c_X12_tree cI h0 r p0 p1) sz) := by
  refine Met.ofW (cc := cX12_tree) (maxL := 5) (ret := (some .int)) (by decide) rfl ?_
  intro p e s m args below meth c s₁ B hml hv
  obtain ⟨rfl, hsz, hP, hK, hD0, hN⟩ := hv
  have hx := B.exec
  have hb := B.bytes
  have hr := B.returns
  have hts := atoms_spec (ws := wsX12_tree) B.pre
  have hown : s.vm.findClass RX12 = some m.cls := findClass_of_methodNamed B.named
  have hlocks := B.notSynchronized
  have h_in_X12 : ∀ w ∈ wsX120, w ∈ wsX12_tree := fun w h => List.mem_cons_of_mem _ (List.mem_append_right _ h)
  subst hsz
  have hD := hD0.self (sz := s.heap.size)
  generalize hAe : va_A (w0_c_X12_tree cI h0 r p0 p1) s.heap.size = A at hD ⊢
  have hA : ∀ q : Nat, s.heap.size ≤ q → A q := fun q h => by rw [← hAe]; exact Or.inr h
  have hS : va_S A s.heap s.heap [] := va_S.rf
  have hP : va_P (dC, dI) vwCl [(h0, .inr (12, (o12 r)))] s.heap := hP
  have hD : va_D A [(h0, .inr (12, (o12 r)))] := hD
  have hl := lv_entry ([.ref h0, .int p0, .int p1]) (n := 5) (Nat.le_of_ble_eq_true rfl)
  rw [lg_entry_eq]
  generalize (lg_sl ([.ref h0, .int p0, .int p1]) ++ List.replicate (5 - (lg_sl ([.ref h0, .int p0, .int p1])).length) Slot.unset).toArray = ls at hl ⊢
  have hl : lv_has ls 5 [(0, .ref h0), (1, .int p0), (2, .int p1)] := hl
  refine lv_aload_n hx hb dX12_tree_0 rfl (lv_at hl 0 rfl) ?_
  refine va_get (D := (dC, dI)) (ci := 12) (v := .int 0) (C := RX12) (T := TX12) (N := 98) hx hb hts h_in_X12 hown hK hP 0 rfl rfl 44 (by decide) (hts (.fieldLink RX12 146 "MatchTreesModel" "isMatch" "Z") (by decide +kernel)) (fun _ h9 => h9) rfl dX12_tree_1 ?_
  refine lv_if_eq (tgt := 25) hx hb dX12_tree_4 (by decide) (fun _ => ?_) (fun c => absurd (by decide) c)
  refine lv_iconst (v := (-1)) hx hb dX12_tree_25 (by decide) ?_
  exact W.iret (v := (-1)) hx hb hr (fun t ht hW => ⟨⟨(-1), (), rfl, rfl, trivial⟩, hS.F ht⟩) hS.2.2 dX12_tree_26
abbrev w0_c_X12_first (cI : ClassId) (h0 : Nat) (r : Nat → Nat) (p0 : Int32) : va_W := [(h0, .inr (12, (o12 r)))]
set_option maxHeartbeats 4000000 in
set_option maxRecDepth 100000 in
theorem c_X12_first (l : Launch) (dC : Nat → ClassId) (dI : Nat → Nat → Nat) (cI cJ : ClassId) (h0 : Nat) (r : Nat → Nat) (p0 : Int32) (sz : Nat) : Met l yX12_first wsX12_first ({ frames := 1, cells := 0, slots := 0, locals := 60 }) (va_Pc [.ref h0, .int p0] (mPre dC dI cI cJ sz (w0_c_X12_first cI h0 r p0))) (va_Qi (fun (r : Int32) (u : Unit) => r = -1) (fun _ _ => True) (va_A (w0_c_X12_first cI h0 r p0) sz)) 0 0 (va_A (w0_c_X12_first cI h0 r p0) sz) := by
  refine Met.ofW (cc := cX12_first) (maxL := 4) (ret := (some .int)) (by decide) rfl ?_
  intro p e s m args below meth c s₁ B hml hv
  obtain ⟨rfl, hsz, hP, hK, hD0, hN⟩ := hv
  have hx := B.exec
  have hb := B.bytes
  have hr := B.returns
  have hts := atoms_spec (ws := wsX12_first) B.pre
  have hown : s.vm.findClass RX12 = some m.cls := findClass_of_methodNamed B.named
  have hlocks := B.notSynchronized
  have h_in_X12 : ∀ w ∈ wsX120, w ∈ wsX12_first := fun w h => List.mem_cons_of_mem _ (List.mem_append_right _ h)
  subst hsz
  have hD := hD0.self (sz := s.heap.size)
  generalize hAe : va_A (w0_c_X12_first cI h0 r p0) s.heap.size = A at hD ⊢
  have hA : ∀ q : Nat, s.heap.size ≤ q → A q := fun q h => by rw [← hAe]; exact Or.inr h
  have hS : va_S A s.heap s.heap [] := va_S.rf
  have hP : va_P (dC, dI) vwCl [(h0, .inr (12, (o12 r)))] s.heap := hP
  have hD : va_D A [(h0, .inr (12, (o12 r)))] := hD
  have hl := lv_entry ([.ref h0, .int p0]) (n := 4) (Nat.le_of_ble_eq_true rfl)
  rw [lg_entry_eq]
  generalize (lg_sl ([.ref h0, .int p0]) ++ List.replicate (4 - (lg_sl ([.ref h0, .int p0])).length) Slot.unset).toArray = ls at hl ⊢
  have hl : lv_has ls 4 [(0, .ref h0), (1, .int p0)] := hl
  refine lv_aload_n hx hb dX12_first_0 rfl (lv_at hl 0 rfl) ?_
  refine va_get (D := (dC, dI)) (ci := 12) (v := .int 0) (C := RX12) (T := TX12) (N := 98) hx hb hts h_in_X12 hown hK hP 0 rfl rfl 44 (by decide) (hts (.fieldLink RX12 146 "MatchTreesModel" "isMatch" "Z") (by decide +kernel)) (fun _ h9 => h9) rfl dX12_first_1 ?_
  refine lv_if_eq (tgt := 16) hx hb dX12_first_4 (by decide) (fun _ => ?_) (fun c => absurd (by decide) c)
  refine lv_iconst (v := (-1)) hx hb dX12_first_16 (by decide) ?_
  exact W.iret (v := (-1)) hx hb hr (fun t ht hW => ⟨⟨(-1), (), rfl, rfl, trivial⟩, hS.F ht⟩) hS.2.2 dX12_first_17
abbrev w0_c_X12_scopes (cI : ClassId) (h0 : Nat) (r : Nat → Nat) (p0 p1 p2 : Int32) : va_W := [(h0, .inr (12, (o12 r)))]
set_option maxHeartbeats 4000000 in
set_option maxRecDepth 100000 in
theorem c_X12_scopes (l : Launch) (dC : Nat → ClassId) (dI : Nat → Nat → Nat) (cI cJ : ClassId) (h0 : Nat) (r : Nat → Nat) (p0 p1 p2 : Int32) (sz : Nat) : Met l yX12_scopes wsX12_scopes ({ frames := 1, cells := 0, slots := 0, locals := 60 }) (va_Pc [.ref h0, .int p0, .int p1, .int p2] (mPre dC dI cI cJ sz (w0_c_X12_scopes cI h0 r p0 p1 p2))) (va_Qi (fun (r : Int32) (u : Unit) => r = -1) (fun _ _ => True) (va_A (w0_c_X12_scopes cI h0 r p0 p1 p2) sz)) 0 0 (va_A (w0_c_X12_scopes cI h0 r p0 p1 p2) sz) := by
  refine Met.ofW (cc := cX12_scopes) (maxL := 4) (ret := (some .int)) (by decide) rfl ?_
  intro p e s m args below meth c s₁ B hml hv
  obtain ⟨rfl, hsz, hP, hK, hD0, hN⟩ := hv
  have hx := B.exec
  have hb := B.bytes
  have hr := B.returns
  have hts := atoms_spec (ws := wsX12_scopes) B.pre
  have hown : s.vm.findClass RX12 = some m.cls := findClass_of_methodNamed B.named
  have hlocks := B.notSynchronized
  have h_in_X12 : ∀ w ∈ wsX120, w ∈ wsX12_scopes := fun w h => List.mem_cons_of_mem _ (List.mem_append_right _ h)
  subst hsz
  have hD := hD0.self (sz := s.heap.size)
  generalize hAe : va_A (w0_c_X12_scopes cI h0 r p0 p1 p2) s.heap.size = A at hD ⊢
  have hA : ∀ q : Nat, s.heap.size ≤ q → A q := fun q h => by rw [← hAe]; exact Or.inr h
  have hS : va_S A s.heap s.heap [] := va_S.rf
  have hP : va_P (dC, dI) vwCl [(h0, .inr (12, (o12 r)))] s.heap := hP
  have hD : va_D A [(h0, .inr (12, (o12 r)))] := hD
  have hl := lv_entry ([.ref h0, .int p0, .int p1, .int p2]) (n := 4) (Nat.le_of_ble_eq_true rfl)
  rw [lg_entry_eq]
  generalize (lg_sl ([.ref h0, .int p0, .int p1, .int p2]) ++ List.replicate (4 - (lg_sl ([.ref h0, .int p0, .int p1, .int p2])).length) Slot.unset).toArray = ls at hl ⊢
  have hl : lv_has ls 4 [(0, .ref h0), (1, .int p0), (2, .int p1), (3, .int p2)] := hl
  refine lv_aload_n hx hb dX12_scopes_0 rfl (lv_at hl 0 rfl) ?_
  refine va_get (D := (dC, dI)) (ci := 12) (v := .int 0) (C := RX12) (T := TX12) (N := 98) hx hb hts h_in_X12 hown hK hP 0 rfl rfl 44 (by decide) (hts (.fieldLink RX12 146 "MatchTreesModel" "isMatch" "Z") (by decide +kernel)) (fun _ h9 => h9) rfl dX12_scopes_1 ?_
  refine lv_if_eq (tgt := 25) hx hb dX12_scopes_4 (by decide) (fun _ => ?_) (fun c => absurd (by decide) c)
  refine lv_iconst (v := (-1)) hx hb dX12_scopes_25 (by decide) ?_
  exact W.iret (v := (-1)) hx hb hr (fun t ht hW => ⟨⟨(-1), (), rfl, rfl, trivial⟩, hS.F ht⟩) hS.2.2 dX12_scopes_26
abbrev w0_c_X12_safe (cI : ClassId) (h0 : Nat) (r : Nat → Nat) (p0 p1 : Int32) : va_W := [(h0, .inr (12, (o12 r)))]
set_option maxHeartbeats 4000000 in
set_option maxRecDepth 100000 in
theorem c_X12_safe (l : Launch) (dC : Nat → ClassId) (dI : Nat → Nat → Nat) (cI cJ : ClassId) (h0 : Nat) (r : Nat → Nat) (p0 p1 : Int32) (sz : Nat) : Met l yX12_safe wsX12_safe ({ frames := 2, cells := 0, slots := 0, locals := 81 }) (va_Pc [.ref h0, .int p0, .int p1] (mPre dC dI cI cJ sz (w0_c_X12_safe cI h0 r p0 p1))) (va_Qi (fun (r : Int32) (u : Unit) => r = -1) (fun _ _ => True) (va_A (w0_c_X12_safe cI h0 r p0 p1) sz)) 0 0 (va_A (w0_c_X12_safe cI h0 r p0 p1) sz) := by
  refine Met.ofW (cc := cX12_safe) (maxL := 3) (ret := (some .int)) (by decide) rfl ?_
  intro p e s m args below meth c s₁ B hml hv
  obtain ⟨rfl, hsz, hP, hK, hD0, hN⟩ := hv
  have hx := B.exec
  have hb := B.bytes
  have hr := B.returns
  have hts := atoms_spec (ws := wsX12_safe) B.pre
  have hown : s.vm.findClass RX12 = some m.cls := findClass_of_methodNamed B.named
  have hlocks := B.notSynchronized
  have h_in_X12 : ∀ w ∈ wsX120, w ∈ wsX12_safe := fun w h => List.mem_cons_of_mem _ (List.mem_append_right _ h)
  subst hsz
  have hD := hD0.self (sz := s.heap.size)
  generalize hAe : va_A (w0_c_X12_safe cI h0 r p0 p1) s.heap.size = A at hD ⊢
  have hA : ∀ q : Nat, s.heap.size ≤ q → A q := fun q h => by rw [← hAe]; exact Or.inr h
  have hS : va_S A s.heap s.heap [] := va_S.rf
  have hP : va_P (dC, dI) vwCl [(h0, .inr (12, (o12 r)))] s.heap := hP
  have hD : va_D A [(h0, .inr (12, (o12 r)))] := hD
  have hl := lv_entry ([.ref h0, .int p0, .int p1]) (n := 3) (Nat.le_of_ble_eq_true rfl)
  rw [lg_entry_eq]
  generalize (lg_sl ([.ref h0, .int p0, .int p1]) ++ List.replicate (3 - (lg_sl ([.ref h0, .int p0, .int p1])).length) Slot.unset).toArray = ls at hl ⊢
  have hl : lv_has ls 3 [(0, .ref h0), (1, .int p0), (2, .int p1)] := hl
  refine lv_aload_n hx hb dX12_safe_0 rfl (lv_at hl 0 rfl) ?_
  refine lv_iload_n hx hb dX12_safe_1 rfl (lv_at hl 1 rfl) ?_
  have hPc := hP.sub (ws' := [(h0, .inr (12, (o12 r)))]) [0] rfl
  have hDc := hD.sub (ws' := [(h0, .inr (12, (o12 r)))]) [0] (by decide) rfl
  have hFc := va_free (wc := [(h0, .inr (12, (o12 r)))]) hD hS hA [0] rfl
  refine va_calli (va_runV (As := [.int p0]) (rest := []) ⟨hx, hb, hml, hown, hts⟩ (c_X12_isPlace l dC dI cI cJ h0 r p0 s.heap.size) (cwV 1 hts gX12_safe_X12_isPlace rfl rfl rfl (by decide +kernel) ⟨Nat.le_of_ble_eq_true rfl, Nat.le_of_ble_eq_true rfl⟩) ⟨mBlind, va_recv hK hPc (ci := 12) (q0 := 0) rfl rfl, mGo hPc hK hDc hN⟩ rfl rfl hl.1 rfl (lv_room (Nat.le_of_ble_eq_true rfl)) dX12_safe_2 ⟨Nat.le_of_ble_eq_true rfl, Nat.le_of_ble_eq_true rfl⟩) hS (fun q _ h => hFc q h) hFc (fun r_1 u t H1 locs ht hvm hw hB hz1 hk1 hS => ?_)
  obtain ⟨hP1, hD1⟩ := hB
  obtain rfl : r_1 = 0 := hw
  rw [ht] at hP1
  obtain ⟨hP, hD⟩ := va_join (wr := []) (w1 := [(h0, .inr (12, (o12 r)))]) hP hD [0] [] rfl rfl (by decide) (by decide) hk1 hFc hP1 hD1
  generalize H1 = H at hP hS ⊢
  have hP : va_P (dC, dI) vwCl [(h0, .inr (12, (o12 r)))] H := hP
  have hD : va_D A [(h0, .inr (12, (o12 r)))] := hD
  refine lv_if_eq (tgt := 16) hx hb dX12_safe_5 (by decide) (fun _ => ?_) (fun c => absurd (by decide) c)
  refine lv_iconst (v := (-1)) hx hb dX12_safe_16 (by decide) ?_
  exact W.iret (v := (-1)) hx hb hr (fun t ht hW => ⟨⟨(-1), (), rfl, rfl, trivial⟩, hS.F ht⟩) hS.2.2 dX12_safe_17
abbrev w0_c_X12_best (cI : ClassId) (h0 : Nat) (r : Nat → Nat) (p0 : Int32) : va_W := [(h0, .inr (12, (o12 r)))]
set_option maxHeartbeats 4000000 in
set_option maxRecDepth 100000 in
theorem c_X12_best (l : Launch) (dC : Nat → ClassId) (dI : Nat → Nat → Nat) (cI cJ : ClassId) (h0 : Nat) (r : Nat → Nat) (p0 : Int32) (sz : Nat) : Met l yX12_best wsX12_best ({ frames := 1, cells := 0, slots := 0, locals := 60 }) (va_Pc [.ref h0, .int p0] (mPre dC dI cI cJ sz (w0_c_X12_best cI h0 r p0))) (va_Qi (fun (r : Int32) (u : Unit) => r = -1) (fun _ _ => True) (va_A (w0_c_X12_best cI h0 r p0) sz)) 0 0 (va_A (w0_c_X12_best cI h0 r p0) sz) := by
  refine Met.ofW (cc := cX12_best) (maxL := 6) (ret := (some .int)) (by decide) rfl ?_
  intro p e s m args below meth c s₁ B hml hv
  obtain ⟨rfl, hsz, hP, hK, hD0, hN⟩ := hv
  have hx := B.exec
  have hb := B.bytes
  have hr := B.returns
  have hts := atoms_spec (ws := wsX12_best) B.pre
  have hown : s.vm.findClass RX12 = some m.cls := findClass_of_methodNamed B.named
  have hlocks := B.notSynchronized
  have h_in_X12 : ∀ w ∈ wsX120, w ∈ wsX12_best := fun w h => List.mem_cons_of_mem _ (List.mem_append_right _ h)
  subst hsz
  have hD := hD0.self (sz := s.heap.size)
  generalize hAe : va_A (w0_c_X12_best cI h0 r p0) s.heap.size = A at hD ⊢
  have hA : ∀ q : Nat, s.heap.size ≤ q → A q := fun q h => by rw [← hAe]; exact Or.inr h
  have hS : va_S A s.heap s.heap [] := va_S.rf
  have hP : va_P (dC, dI) vwCl [(h0, .inr (12, (o12 r)))] s.heap := hP
  have hD : va_D A [(h0, .inr (12, (o12 r)))] := hD
  have hl := lv_entry ([.ref h0, .int p0]) (n := 6) (Nat.le_of_ble_eq_true rfl)
  rw [lg_entry_eq]
  generalize (lg_sl ([.ref h0, .int p0]) ++ List.replicate (6 - (lg_sl ([.ref h0, .int p0])).length) Slot.unset).toArray = ls at hl ⊢
  have hl : lv_has ls 6 [(0, .ref h0), (1, .int p0)] := hl
  refine lv_aload_n hx hb dX12_best_0 rfl (lv_at hl 0 rfl) ?_
  refine va_get (D := (dC, dI)) (ci := 12) (v := .int 0) (C := RX12) (T := TX12) (N := 98) hx hb hts h_in_X12 hown hK hP 0 rfl rfl 44 (by decide) (hts (.fieldLink RX12 146 "MatchTreesModel" "isMatch" "Z") (by decide +kernel)) (fun _ h9 => h9) rfl dX12_best_1 ?_
  refine lv_if_eq (tgt := 16) hx hb dX12_best_4 (by decide) (fun _ => ?_) (fun c => absurd (by decide) c)
  refine lv_iconst (v := (-1)) hx hb dX12_best_16 (by decide) ?_
  exact W.iret (v := (-1)) hx hb hr (fun t ht hW => ⟨⟨(-1), (), rfl, rfl, trivial⟩, hS.F ht⟩) hS.2.2 dX12_best_17
abbrev w0_c_X12_refuses_5 (cI : ClassId) (h0 : Nat) (r : Nat → Nat) : va_W := [(h0, .inr (12, (o12 r))), ((r 27), .inl (cI, 6, .inl (fun _ => 0)))]
set_option maxHeartbeats 4000000 in
set_option maxRecDepth 100000 in
theorem c_X12_refuses_5 (l : Launch) (dC : Nat → ClassId) (dI : Nat → Nat → Nat) (cI cJ : ClassId) (h0 : Nat) (r : Nat → Nat) (sz : Nat) : Met l yX12_refuses wsX12_refuses ({ frames := 1, cells := 0, slots := 0, locals := 60 }) (va_Pc [.ref h0, .int 5] (mPre dC dI cI cJ sz (w0_c_X12_refuses_5 cI h0 r))) (va_Qi (fun (r : Int32) (u : Unit) => r = -1) (fun (u : Unit) (t : State) => ∃ (g : Nat → Int32), va_P (dC, dI) vwCl [(h0, .inr (12, (o12 r))), ((r 27), .inl (cI, 6, .inl g))] t.heap ∧ va_D (va_A (w0_c_X12_refuses_5 cI h0 r) sz) [(h0, .inr (12, (o12 r))), ((r 27), .inl (cI, 6, .inl g))]) (va_A (w0_c_X12_refuses_5 cI h0 r) sz)) 0 0 (va_A (w0_c_X12_refuses_5 cI h0 r) sz) := by
  refine Met.ofW (cc := cX12_refuses) (maxL := 2) (ret := (some .int)) (by decide) rfl ?_
  intro p e s m args below meth c s₁ B hml hv
  obtain ⟨rfl, hsz, hP, hK, hD0, hN⟩ := hv
  have hx := B.exec
  have hb := B.bytes
  have hr := B.returns
  have hts := atoms_spec (ws := wsX12_refuses) B.pre
  have hown : s.vm.findClass RX12 = some m.cls := findClass_of_methodNamed B.named
  have hlocks := B.notSynchronized
  have h_in_X12 : ∀ w ∈ wsX120, w ∈ wsX12_refuses := fun w h => List.mem_cons_of_mem _ (List.mem_append_right _ h)
  subst hsz
  have hD := hD0.self (sz := s.heap.size)
  generalize hAe : va_A (w0_c_X12_refuses_5 cI h0 r) s.heap.size = A at hD ⊢
  have hA : ∀ q : Nat, s.heap.size ≤ q → A q := fun q h => by rw [← hAe]; exact Or.inr h
  have hS : va_S A s.heap s.heap [] := va_S.rf
  have hP : va_P (dC, dI) vwCl [(h0, .inr (12, (o12 r))), ((r 27), .inl (cI, 6, .inl (fun _ => 0)))] s.heap := hP
  have hD : va_D A [(h0, .inr (12, (o12 r))), ((r 27), .inl (cI, 6, .inl (fun _ => 0)))] := hD
  have hl := lv_entry ([.ref h0, .int 5]) (n := 2) (Nat.le_of_ble_eq_true rfl)
  rw [lg_entry_eq]
  generalize (lg_sl ([.ref h0, .int 5]) ++ List.replicate (2 - (lg_sl ([.ref h0, .int 5])).length) Slot.unset).toArray = ls at hl ⊢
  have hl : lv_has ls 2 [(0, .ref h0), (1, .int 5)] := hl
  refine lv_aload_n hx hb dX12_refuses_0 rfl (lv_at hl 0 rfl) ?_
  refine va_get (D := (dC, dI)) (ci := 12) (v := .ref (r 27)) (C := RX12) (T := TX12) (N := 98) hx hb hts h_in_X12 hown hK hP 0 rfl rfl 45 (by decide) (hts (.fieldLink RX12 149 "MatchTreesModel" "refused" "[I") (by decide +kernel)) (fun _ h9 => h9) rfl dX12_refuses_1 ?_
  refine lv_iload_n hx hb dX12_refuses_4 rfl (lv_at hl 1 rfl) ?_
  refine lv_dup2_11 hx hb dX12_refuses_5 rfl rfl ?_
  refine va_iald hx hb hK hP 1 0 rfl rfl (vpd (by decide)) dX12_refuses_6 ?_
  refine lv_topi (fun t9 e9 => ?_)
  obtain rfl : t9 = 0 := e9
  refine lv_iconst (v := 1) hx hb dX12_refuses_7 (by decide) ?_
  refine k_iadd (v := 1) hx hb (by decide) dX12_refuses_8 ?_
  refine va_iast hx hb hK hP hD hS 1 0 rfl rfl (vpd (by decide)) dX12_refuses_9 (fun H locs hP hD hS => ?_)
  obtain ⟨g_1, e_g_1⟩ : ∃ y : Nat → Int32, y = upd (fun _ => 0) (5 : Int32).toNatClampNeg 1 := ⟨_, rfl⟩
  have hP : va_P (dC, dI) vwCl [(h0, .inr (12, (o12 r))), ((r 27), .inl (cI, 6, .inl g_1))] H := by rw [e_g_1]; exact hP
  have hD : va_D A [(h0, .inr (12, (o12 r))), ((r 27), .inl (cI, 6, .inl g_1))] := by rw [e_g_1]; exact hD
  refine lv_iconst (v := (-1)) hx hb dX12_refuses_10 (by decide) ?_
  have hP9 := hP.sub (ws' := [(h0, .inr (12, (o12 r))), ((r 27), .inl (cI, 6, .inl g_1))]) [0, 1] rfl
  have hD9 := hD.sub (ws' := [(h0, .inr (12, (o12 r))), ((r 27), .inl (cI, 6, .inl g_1))]) [0, 1] (by decide) rfl
  exact W.iret (v := (-1)) hx hb hr (fun t ht hW => ⟨⟨(-1), (), rfl, rfl, g_1, by rw [ht]; exact hP9, hD9⟩, hS.F ht⟩) hS.2.2 dX12_refuses_11
abbrev w0_c_X12_see (cI : ClassId) (h0 : Nat) (r : Nat → Nat) : va_W := [(h0, .inr (12, (o12 r))), ((r 27), .inl (cI, 6, .inl (fun _ => 0)))]
set_option maxHeartbeats 4000000 in
set_option maxRecDepth 100000 in
theorem c_X12_see (l : Launch) (dC : Nat → ClassId) (dI : Nat → Nat → Nat) (cI cJ : ClassId) (h0 : Nat) (r : Nat → Nat) (sz : Nat) : Met l yX12_see wsX12_see ({ frames := 2, cells := 0, slots := 0, locals := 81 }) (va_Pc [.ref h0] (mPre dC dI cI cJ sz (w0_c_X12_see cI h0 r))) (va_Qi (fun (r : Int32) (u : Unit) => r = -1) (fun _ _ => True) (va_A (w0_c_X12_see cI h0 r) sz)) 0 0 (va_A (w0_c_X12_see cI h0 r) sz) := by
  refine Met.ofW (cc := cX12_see) (maxL := 4) (ret := (some .int)) (by decide) rfl ?_
  intro p e s m args below meth c s₁ B hml hv
  obtain ⟨rfl, hsz, hP, hK, hD0, hN⟩ := hv
  have hx := B.exec
  have hb := B.bytes
  have hr := B.returns
  have hts := atoms_spec (ws := wsX12_see) B.pre
  have hown : s.vm.findClass RX12 = some m.cls := findClass_of_methodNamed B.named
  have hlocks := B.notSynchronized
  have h_in_X12 : ∀ w ∈ wsX120, w ∈ wsX12_see := fun w h => List.mem_cons_of_mem _ (List.mem_append_right _ h)
  subst hsz
  have hD := hD0.self (sz := s.heap.size)
  generalize hAe : va_A (w0_c_X12_see cI h0 r) s.heap.size = A at hD ⊢
  have hA : ∀ q : Nat, s.heap.size ≤ q → A q := fun q h => by rw [← hAe]; exact Or.inr h
  have hS : va_S A s.heap s.heap [] := va_S.rf
  have hP : va_P (dC, dI) vwCl [(h0, .inr (12, (o12 r))), ((r 27), .inl (cI, 6, .inl (fun _ => 0)))] s.heap := hP
  have hD : va_D A [(h0, .inr (12, (o12 r))), ((r 27), .inl (cI, 6, .inl (fun _ => 0)))] := hD
  have hl := lv_entry ([.ref h0]) (n := 4) (Nat.le_of_ble_eq_true rfl)
  rw [lg_entry_eq]
  generalize (lg_sl ([.ref h0]) ++ List.replicate (4 - (lg_sl ([.ref h0])).length) Slot.unset).toArray = ls at hl ⊢
  have hl : lv_has ls 4 [(0, .ref h0)] := hl
  refine lv_aload_n hx hb dX12_see_0 rfl (lv_at hl 0 rfl) ?_
  refine va_get (D := (dC, dI)) (ci := 12) (v := .int 0) (C := RX12) (T := TX12) (N := 98) hx hb hts h_in_X12 hown hK hP 0 rfl rfl 1 (by decide) (hts (.fieldLink RX12 13 "MatchTreesModel" "taped" "I") (by decide +kernel)) (fun _ h9 => h9) rfl dX12_see_1 ?_
  refine lv_istore_n (lv' := [(1, .int 0), (0, .ref h0)]) hx hb dX12_see_4 rfl hl (by decide) rfl (fun ls hl => ?_)
  refine lv_aload_n hx hb dX12_see_5 rfl (lv_at hl 1 rfl) ?_
  refine lv_iconst (v := 0) hx hb dX12_see_6 (by decide) ?_
  refine va_put (D := (dC, dI)) (ci := 12) (v := .int 0) (ty := .int) (C := RX12) (T := TX12) (N := 98) hx hb hts h_in_X12 tyX12 tyX12_ok nmX12 hown hK hP hD hS 0 rfl rfl 1 (by decide) (hts (.fieldLink RX12 13 "MatchTreesModel" "taped" "I") (by decide +kernel)) (fun _ h9 => h9) rfl (by decide +kernel) rfl rfl (Nat.le_of_ble_eq_true rfl) dX12_see_7 (fun H locs hP hD hS => ?_)
  have hP : va_P (dC, dI) vwCl [(h0, .inr (12, (o12 r))), ((r 27), .inl (cI, 6, .inl (fun _ => 0)))] H := hP
  have hD : va_D A [(h0, .inr (12, (o12 r))), ((r 27), .inl (cI, 6, .inl (fun _ => 0)))] := hD
  refine lv_aload_n hx hb dX12_see_10 rfl (lv_at hl 1 rfl) ?_
  refine va_get (D := (dC, dI)) (ci := 12) (v := .int 0) (C := RX12) (T := TX12) (N := 98) hx hb hts h_in_X12 hown hK hP 0 rfl rfl 44 (by decide) (hts (.fieldLink RX12 146 "MatchTreesModel" "isMatch" "Z") (by decide +kernel)) (fun _ h9 => h9) rfl dX12_see_11 ?_
  refine lv_if_eq (tgt := 37) hx hb dX12_see_14 (by decide) (fun _ => ?_) (fun c => absurd (by decide) c)
  refine lv_iconst (v := 0) hx hb dX12_see_37 (by decide) ?_
  refine lv_istore_n (lv' := [(2, .int 0), (1, .int 0), (0, .ref h0)]) hx hb dX12_see_38 rfl hl (by decide) rfl (fun ls hl => ?_)
  refine lv_iconst (v := 0) hx hb dX12_see_39 (by decide) ?_
  refine lv_istore_n (lv' := [(3, .int 0), (2, .int 0), (1, .int 0), (0, .ref h0)]) hx hb dX12_see_40 rfl hl (by decide) rfl (fun ls hl => ?_)
  refine lv_iload_n hx hb dX12_see_41 rfl (lv_at hl 0 rfl) ?_
  refine lv_iload_n hx hb dX12_see_42 rfl (lv_at hl 2 rfl) ?_
  refine lv_icmp_ge (tgt := 118) hx hb dX12_see_43 (by decide) (fun _ => ?_) (fun c => absurd (by decide) c)
  refine lv_iload_n hx hb dX12_see_118 rfl (lv_at hl 1 rfl) ?_
  refine lv_if_ne (tgt := 128) hx hb dX12_see_119 (by decide) (fun c => absurd c (by decide)) (fun _ => ?_)
  refine lv_aload_n hx hb dX12_see_122 rfl (lv_at hl 3 rfl) ?_
  refine lv_iconst (v := 5) hx hb dX12_see_123 (by decide) ?_
  have hPc := hP.sub (ws' := [(h0, .inr (12, (o12 r))), ((r 27), .inl (cI, 6, .inl (fun _ => 0)))]) [0, 1] rfl
  have hDc := hD.sub (ws' := [(h0, .inr (12, (o12 r))), ((r 27), .inl (cI, 6, .inl (fun _ => 0)))]) [0, 1] (by decide) rfl
  have hFc := va_free (wc := [(h0, .inr (12, (o12 r))), ((r 27), .inl (cI, 6, .inl (fun _ => 0)))]) hD hS hA [0, 1] rfl
  refine va_calli (va_runV (As := [.int 5]) (rest := []) ⟨hx, hb, hml, hown, hts⟩ (c_X12_refuses_5 l dC dI cI cJ h0 r H.size) (cwV 1 hts gX12_see_X12_refuses rfl rfl rfl (by decide +kernel) ⟨Nat.le_of_ble_eq_true rfl, Nat.le_of_ble_eq_true rfl⟩) ⟨mBlind, va_recv hK hPc (ci := 12) (q0 := 0) rfl rfl, mGo hPc hK hDc hN⟩ rfl rfl hl.1 rfl (lv_room (Nat.le_of_ble_eq_true rfl)) dX12_see_124 ⟨Nat.le_of_ble_eq_true rfl, Nat.le_of_ble_eq_true rfl⟩) hS (fun q _ h => hFc q h) hFc (fun r_1 u t H1 locs ht hvm hw hB hz1 hk1 hS => ?_)
  obtain ⟨g_2, hP1, hD1⟩ := hB
  obtain rfl : r_1 = (-1) := hw
  rw [ht] at hP1
  obtain ⟨hP, hD⟩ := va_join (wr := []) (w1 := [(h0, .inr (12, (o12 r))), ((r 27), .inl (cI, 6, .inl g_2))]) hP hD [0, 1] [] rfl rfl (by decide) (by decide) hk1 hFc hP1 hD1
  generalize H1 = H at hP hS ⊢
  have hP : va_P (dC, dI) vwCl [(h0, .inr (12, (o12 r))), ((r 27), .inl (cI, 6, .inl g_2))] H := hP
  have hD : va_D A [(h0, .inr (12, (o12 r))), ((r 27), .inl (cI, 6, .inl g_2))] := hD
  exact W.iret (v := (-1)) hx hb hr (fun t ht hW => ⟨⟨(-1), (), rfl, rfl, trivial⟩, hS.F ht⟩) hS.2.2 dX12_see_127
abbrev w0_c_X12_sets (cI : ClassId) (h0 : Nat) (r : Nat → Nat) (p0 : Int32) : va_W := [(h0, .inr (12, (o12 r)))]
set_option maxHeartbeats 4000000 in
set_option maxRecDepth 100000 in
theorem c_X12_sets (l : Launch) (dC : Nat → ClassId) (dI : Nat → Nat → Nat) (cI cJ : ClassId) (h0 : Nat) (r : Nat → Nat) (p0 : Int32) (sz : Nat) : Met l yX12_sets wsX12_sets ({ frames := 1, cells := 0, slots := 0, locals := 60 }) (va_Pc [.ref h0, .int p0] (mPre dC dI cI cJ sz (w0_c_X12_sets cI h0 r p0))) (va_Qi (fun (r : Int32) (u : Unit) => r = -1) (fun _ _ => True) (va_A (w0_c_X12_sets cI h0 r p0) sz)) 0 0 (va_A (w0_c_X12_sets cI h0 r p0) sz) := by
  refine Met.ofW (cc := cX12_sets) (maxL := 5) (ret := (some .int)) (by decide) rfl ?_
  intro p e s m args below meth c s₁ B hml hv
  obtain ⟨rfl, hsz, hP, hK, hD0, hN⟩ := hv
  have hx := B.exec
  have hb := B.bytes
  have hr := B.returns
  have hts := atoms_spec (ws := wsX12_sets) B.pre
  have hown : s.vm.findClass RX12 = some m.cls := findClass_of_methodNamed B.named
  have hlocks := B.notSynchronized
  have h_in_X12 : ∀ w ∈ wsX120, w ∈ wsX12_sets := fun w h => List.mem_cons_of_mem _ (List.mem_append_right _ h)
  subst hsz
  have hD := hD0.self (sz := s.heap.size)
  generalize hAe : va_A (w0_c_X12_sets cI h0 r p0) s.heap.size = A at hD ⊢
  have hA : ∀ q : Nat, s.heap.size ≤ q → A q := fun q h => by rw [← hAe]; exact Or.inr h
  have hS : va_S A s.heap s.heap [] := va_S.rf
  have hP : va_P (dC, dI) vwCl [(h0, .inr (12, (o12 r)))] s.heap := hP
  have hD : va_D A [(h0, .inr (12, (o12 r)))] := hD
  have hl := lv_entry ([.ref h0, .int p0]) (n := 5) (Nat.le_of_ble_eq_true rfl)
  rw [lg_entry_eq]
  generalize (lg_sl ([.ref h0, .int p0]) ++ List.replicate (5 - (lg_sl ([.ref h0, .int p0])).length) Slot.unset).toArray = ls at hl ⊢
  have hl : lv_has ls 5 [(0, .ref h0), (1, .int p0)] := hl
  refine lv_aload_n hx hb dX12_sets_0 rfl (lv_at hl 0 rfl) ?_
  refine va_get (D := (dC, dI)) (ci := 12) (v := .int 0) (C := RX12) (T := TX12) (N := 98) hx hb hts h_in_X12 hown hK hP 0 rfl rfl 44 (by decide) (hts (.fieldLink RX12 146 "MatchTreesModel" "isMatch" "Z") (by decide +kernel)) (fun _ h9 => h9) rfl dX12_sets_1 ?_
  refine lv_if_eq (tgt := 12) hx hb dX12_sets_4 (by decide) (fun _ => ?_) (fun c => absurd (by decide) c)
  refine lv_iconst (v := (-1)) hx hb dX12_sets_12 (by decide) ?_
  exact W.iret (v := (-1)) hx hb hr (fun t ht hW => ⟨⟨(-1), (), rfl, rfl, trivial⟩, hS.F ht⟩) hS.2.2 dX12_sets_13
abbrev w0_c_X12_tells (cI : ClassId) (h0 : Nat) (r : Nat → Nat) (p0 : Int32) : va_W := [(h0, .inr (12, (o12 r)))]
set_option maxHeartbeats 4000000 in
set_option maxRecDepth 100000 in
theorem c_X12_tells (l : Launch) (dC : Nat → ClassId) (dI : Nat → Nat → Nat) (cI cJ : ClassId) (h0 : Nat) (r : Nat → Nat) (p0 : Int32) (sz : Nat) : Met l yX12_tells wsX12_tells ({ frames := 1, cells := 0, slots := 0, locals := 60 }) (va_Pc [.ref h0, .int p0] (mPre dC dI cI cJ sz (w0_c_X12_tells cI h0 r p0))) (va_Qi (fun (r : Int32) (u : Unit) => r = -1) (fun _ _ => True) (va_A (w0_c_X12_tells cI h0 r p0) sz)) 0 0 (va_A (w0_c_X12_tells cI h0 r p0) sz) := by
  refine Met.ofW (cc := cX12_tells) (maxL := 7) (ret := (some .int)) (by decide) rfl ?_
  intro p e s m args below meth c s₁ B hml hv
  obtain ⟨rfl, hsz, hP, hK, hD0, hN⟩ := hv
  have hx := B.exec
  have hb := B.bytes
  have hr := B.returns
  have hts := atoms_spec (ws := wsX12_tells) B.pre
  have hown : s.vm.findClass RX12 = some m.cls := findClass_of_methodNamed B.named
  have hlocks := B.notSynchronized
  have h_in_X12 : ∀ w ∈ wsX120, w ∈ wsX12_tells := fun w h => List.mem_cons_of_mem _ (List.mem_append_right _ h)
  subst hsz
  have hD := hD0.self (sz := s.heap.size)
  generalize hAe : va_A (w0_c_X12_tells cI h0 r p0) s.heap.size = A at hD ⊢
  have hA : ∀ q : Nat, s.heap.size ≤ q → A q := fun q h => by rw [← hAe]; exact Or.inr h
  have hS : va_S A s.heap s.heap [] := va_S.rf
  have hP : va_P (dC, dI) vwCl [(h0, .inr (12, (o12 r)))] s.heap := hP
  have hD : va_D A [(h0, .inr (12, (o12 r)))] := hD
  have hl := lv_entry ([.ref h0, .int p0]) (n := 7) (Nat.le_of_ble_eq_true rfl)
  rw [lg_entry_eq]
  generalize (lg_sl ([.ref h0, .int p0]) ++ List.replicate (7 - (lg_sl ([.ref h0, .int p0])).length) Slot.unset).toArray = ls at hl ⊢
  have hl : lv_has ls 7 [(0, .ref h0), (1, .int p0)] := hl
  refine lv_aload_n hx hb dX12_tells_0 rfl (lv_at hl 0 rfl) ?_
  refine va_get (D := (dC, dI)) (ci := 12) (v := .int 0) (C := RX12) (T := TX12) (N := 98) hx hb hts h_in_X12 hown hK hP 0 rfl rfl 44 (by decide) (hts (.fieldLink RX12 146 "MatchTreesModel" "isMatch" "Z") (by decide +kernel)) (fun _ h9 => h9) rfl dX12_tells_1 ?_
  refine lv_if_eq (tgt := 16) hx hb dX12_tells_4 (by decide) (fun _ => ?_) (fun c => absurd (by decide) c)
  refine lv_iconst (v := (-1)) hx hb dX12_tells_16 (by decide) ?_
  exact W.iret (v := (-1)) hx hb hr (fun t ht hW => ⟨⟨(-1), (), rfl, rfl, trivial⟩, hS.F ht⟩) hS.2.2 dX12_tells_17
abbrev w0_c_X12_refuses_2 (cI : ClassId) (h0 : Nat) (r : Nat → Nat) : va_W := [(h0, .inr (12, (o12 r))), ((r 27), .inl (cI, 6, .inl (fun _ => 0)))]
set_option maxHeartbeats 4000000 in
set_option maxRecDepth 100000 in
theorem c_X12_refuses_2 (l : Launch) (dC : Nat → ClassId) (dI : Nat → Nat → Nat) (cI cJ : ClassId) (h0 : Nat) (r : Nat → Nat) (sz : Nat) : Met l yX12_refuses wsX12_refuses ({ frames := 1, cells := 0, slots := 0, locals := 60 }) (va_Pc [.ref h0, .int 2] (mPre dC dI cI cJ sz (w0_c_X12_refuses_2 cI h0 r))) (va_Qi (fun (r : Int32) (u : Unit) => r = -1) (fun (u : Unit) (t : State) => ∃ (g : Nat → Int32), va_P (dC, dI) vwCl [(h0, .inr (12, (o12 r))), ((r 27), .inl (cI, 6, .inl g))] t.heap ∧ va_D (va_A (w0_c_X12_refuses_2 cI h0 r) sz) [(h0, .inr (12, (o12 r))), ((r 27), .inl (cI, 6, .inl g))]) (va_A (w0_c_X12_refuses_2 cI h0 r) sz)) 0 0 (va_A (w0_c_X12_refuses_2 cI h0 r) sz) := by
  refine Met.ofW (cc := cX12_refuses) (maxL := 2) (ret := (some .int)) (by decide) rfl ?_
  intro p e s m args below meth c s₁ B hml hv
  obtain ⟨rfl, hsz, hP, hK, hD0, hN⟩ := hv
  have hx := B.exec
  have hb := B.bytes
  have hr := B.returns
  have hts := atoms_spec (ws := wsX12_refuses) B.pre
  have hown : s.vm.findClass RX12 = some m.cls := findClass_of_methodNamed B.named
  have hlocks := B.notSynchronized
  have h_in_X12 : ∀ w ∈ wsX120, w ∈ wsX12_refuses := fun w h => List.mem_cons_of_mem _ (List.mem_append_right _ h)
  subst hsz
  have hD := hD0.self (sz := s.heap.size)
  generalize hAe : va_A (w0_c_X12_refuses_2 cI h0 r) s.heap.size = A at hD ⊢
  have hA : ∀ q : Nat, s.heap.size ≤ q → A q := fun q h => by rw [← hAe]; exact Or.inr h
  have hS : va_S A s.heap s.heap [] := va_S.rf
  have hP : va_P (dC, dI) vwCl [(h0, .inr (12, (o12 r))), ((r 27), .inl (cI, 6, .inl (fun _ => 0)))] s.heap := hP
  have hD : va_D A [(h0, .inr (12, (o12 r))), ((r 27), .inl (cI, 6, .inl (fun _ => 0)))] := hD
  have hl := lv_entry ([.ref h0, .int 2]) (n := 2) (Nat.le_of_ble_eq_true rfl)
  rw [lg_entry_eq]
  generalize (lg_sl ([.ref h0, .int 2]) ++ List.replicate (2 - (lg_sl ([.ref h0, .int 2])).length) Slot.unset).toArray = ls at hl ⊢
  have hl : lv_has ls 2 [(0, .ref h0), (1, .int 2)] := hl
  refine lv_aload_n hx hb dX12_refuses_0 rfl (lv_at hl 0 rfl) ?_
  refine va_get (D := (dC, dI)) (ci := 12) (v := .ref (r 27)) (C := RX12) (T := TX12) (N := 98) hx hb hts h_in_X12 hown hK hP 0 rfl rfl 45 (by decide) (hts (.fieldLink RX12 149 "MatchTreesModel" "refused" "[I") (by decide +kernel)) (fun _ h9 => h9) rfl dX12_refuses_1 ?_
  refine lv_iload_n hx hb dX12_refuses_4 rfl (lv_at hl 1 rfl) ?_
  refine lv_dup2_11 hx hb dX12_refuses_5 rfl rfl ?_
  refine va_iald hx hb hK hP 1 0 rfl rfl (vpd (by decide)) dX12_refuses_6 ?_
  refine lv_topi (fun t9 e9 => ?_)
  obtain rfl : t9 = 0 := e9
  refine lv_iconst (v := 1) hx hb dX12_refuses_7 (by decide) ?_
  refine k_iadd (v := 1) hx hb (by decide) dX12_refuses_8 ?_
  refine va_iast hx hb hK hP hD hS 1 0 rfl rfl (vpd (by decide)) dX12_refuses_9 (fun H locs hP hD hS => ?_)
  obtain ⟨g_1, e_g_1⟩ : ∃ y : Nat → Int32, y = upd (fun _ => 0) (2 : Int32).toNatClampNeg 1 := ⟨_, rfl⟩
  have hP : va_P (dC, dI) vwCl [(h0, .inr (12, (o12 r))), ((r 27), .inl (cI, 6, .inl g_1))] H := by rw [e_g_1]; exact hP
  have hD : va_D A [(h0, .inr (12, (o12 r))), ((r 27), .inl (cI, 6, .inl g_1))] := by rw [e_g_1]; exact hD
  refine lv_iconst (v := (-1)) hx hb dX12_refuses_10 (by decide) ?_
  have hP9 := hP.sub (ws' := [(h0, .inr (12, (o12 r))), ((r 27), .inl (cI, 6, .inl g_1))]) [0, 1] rfl
  have hD9 := hD.sub (ws' := [(h0, .inr (12, (o12 r))), ((r 27), .inl (cI, 6, .inl g_1))]) [0, 1] (by decide) rfl
  exact W.iret (v := (-1)) hx hb hr (fun t ht hW => ⟨⟨(-1), (), rfl, rfl, g_1, by rw [ht]; exact hP9, hD9⟩, hS.F ht⟩) hS.2.2 dX12_refuses_11
abbrev w0_c_X12_run (cI : ClassId) (h0 : Nat) (r : Nat → Nat) (p0 : Int32) : va_W := [(h0, .inr (12, (o12 r))), ((r 27), .inl (cI, 6, .inl (fun _ => 0)))]
set_option maxHeartbeats 4000000 in
set_option maxRecDepth 100000 in
theorem c_X12_run (l : Launch) (dC : Nat → ClassId) (dI : Nat → Nat → Nat) (cI cJ : ClassId) (h0 : Nat) (r : Nat → Nat) (p0 : Int32) (sz : Nat) : Met l yX12_run wsX12_run ({ frames := 2, cells := 0, slots := 0, locals := 81 }) (va_Pc [.ref h0, .int p0] (mPre dC dI cI cJ sz (w0_c_X12_run cI h0 r p0))) (va_Qi (fun (r : Int32) (u : Unit) => r = -1) (fun _ _ => True) (va_A (w0_c_X12_run cI h0 r p0) sz)) 0 0 (va_A (w0_c_X12_run cI h0 r p0) sz) := by
  refine Met.ofW (cc := cX12_run) (maxL := 2) (ret := (some .int)) (by decide) rfl ?_
  intro p e s m args below meth c s₁ B hml hv
  obtain ⟨rfl, hsz, hP, hK, hD0, hN⟩ := hv
  have hx := B.exec
  have hb := B.bytes
  have hr := B.returns
  have hts := atoms_spec (ws := wsX12_run) B.pre
  have hown : s.vm.findClass RX12 = some m.cls := findClass_of_methodNamed B.named
  have hlocks := B.notSynchronized
  have h_in_X12 : ∀ w ∈ wsX120, w ∈ wsX12_run := fun w h => List.mem_cons_of_mem _ (List.mem_append_right _ h)
  subst hsz
  have hD := hD0.self (sz := s.heap.size)
  generalize hAe : va_A (w0_c_X12_run cI h0 r p0) s.heap.size = A at hD ⊢
  have hA : ∀ q : Nat, s.heap.size ≤ q → A q := fun q h => by rw [← hAe]; exact Or.inr h
  have hS : va_S A s.heap s.heap [] := va_S.rf
  have hP : va_P (dC, dI) vwCl [(h0, .inr (12, (o12 r))), ((r 27), .inl (cI, 6, .inl (fun _ => 0)))] s.heap := hP
  have hD : va_D A [(h0, .inr (12, (o12 r))), ((r 27), .inl (cI, 6, .inl (fun _ => 0)))] := hD
  have hl := lv_entry ([.ref h0, .int p0]) (n := 2) (Nat.le_of_ble_eq_true rfl)
  rw [lg_entry_eq]
  generalize (lg_sl ([.ref h0, .int p0]) ++ List.replicate (2 - (lg_sl ([.ref h0, .int p0])).length) Slot.unset).toArray = ls at hl ⊢
  have hl : lv_has ls 2 [(0, .ref h0), (1, .int p0)] := hl
  refine lv_aload_n hx hb dX12_run_0 rfl (lv_at hl 0 rfl) ?_
  refine lv_iload_n hx hb dX12_run_1 rfl (lv_at hl 1 rfl) ?_
  have hPc := hP.sub (ws' := [(h0, .inr (12, (o12 r)))]) [0] rfl
  have hDc := hD.sub (ws' := [(h0, .inr (12, (o12 r)))]) [0] (by decide) rfl
  have hFc := va_free (wc := [(h0, .inr (12, (o12 r)))]) hD hS hA [0] rfl
  refine va_calli (va_runV (As := [.int p0]) (rest := []) ⟨hx, hb, hml, hown, hts⟩ (c_X12_isRow l dC dI cI cJ h0 r p0 s.heap.size) (cwV 1 hts gX12_run_X12_isRow rfl rfl rfl (by decide +kernel) ⟨Nat.le_of_ble_eq_true rfl, Nat.le_of_ble_eq_true rfl⟩) ⟨mBlind, va_recv hK hPc (ci := 12) (q0 := 0) rfl rfl, mGo hPc hK hDc hN⟩ rfl rfl hl.1 rfl (lv_room (Nat.le_of_ble_eq_true rfl)) dX12_run_2 ⟨Nat.le_of_ble_eq_true rfl, Nat.le_of_ble_eq_true rfl⟩) hS (fun q _ h => hFc q h) hFc (fun r_1 u t H1 locs ht hvm hw hB hz1 hk1 hS => ?_)
  obtain ⟨hP1, hD1⟩ := hB
  obtain rfl : r_1 = 0 := hw
  rw [ht] at hP1
  obtain ⟨hP, hD⟩ := va_join (wr := [((r 27), .inl (cI, 6, .inl (fun _ => 0)))]) (w1 := [(h0, .inr (12, (o12 r)))]) hP hD [0] [1] rfl rfl (by decide) (by decide) hk1 hFc hP1 hD1
  generalize H1 = H at hP hS ⊢
  have hP : va_P (dC, dI) vwCl [((r 27), .inl (cI, 6, .inl (fun _ => 0))), (h0, .inr (12, (o12 r)))] H := hP
  have hD : va_D A [((r 27), .inl (cI, 6, .inl (fun _ => 0))), (h0, .inr (12, (o12 r)))] := hD
  refine lv_if_ne (tgt := 14) hx hb dX12_run_5 (by decide) (fun c => absurd c (by decide)) (fun _ => ?_)
  refine lv_aload_n hx hb dX12_run_8 rfl (lv_at hl 0 rfl) ?_
  refine lv_iconst (v := 2) hx hb dX12_run_9 (by decide) ?_
  have hPc := hP.sub (ws' := [(h0, .inr (12, (o12 r))), ((r 27), .inl (cI, 6, .inl (fun _ => 0)))]) [1, 0] rfl
  have hDc := hD.sub (ws' := [(h0, .inr (12, (o12 r))), ((r 27), .inl (cI, 6, .inl (fun _ => 0)))]) [1, 0] (by decide) rfl
  have hFc := va_free (wc := [(h0, .inr (12, (o12 r))), ((r 27), .inl (cI, 6, .inl (fun _ => 0)))]) hD hS hA [1, 0] rfl
  refine va_calli (va_runV (As := [.int 2]) (rest := []) ⟨hx, hb, hml, hown, hts⟩ (c_X12_refuses_2 l dC dI cI cJ h0 r H.size) (cwV 1 hts gX12_run_X12_refuses rfl rfl rfl (by decide +kernel) ⟨Nat.le_of_ble_eq_true rfl, Nat.le_of_ble_eq_true rfl⟩) ⟨mBlind, va_recv hK hPc (ci := 12) (q0 := 0) rfl rfl, mGo hPc hK hDc hN⟩ rfl rfl hl.1 rfl (lv_room (Nat.le_of_ble_eq_true rfl)) dX12_run_10 ⟨Nat.le_of_ble_eq_true rfl, Nat.le_of_ble_eq_true rfl⟩) hS (fun q _ h => hFc q h) hFc (fun r_2 u t H1 locs ht hvm hw hB hz1 hk1 hS => ?_)
  obtain ⟨g_3, hP1, hD1⟩ := hB
  obtain rfl : r_2 = (-1) := hw
  rw [ht] at hP1
  obtain ⟨hP, hD⟩ := va_join (wr := []) (w1 := [(h0, .inr (12, (o12 r))), ((r 27), .inl (cI, 6, .inl g_3))]) hP hD [1, 0] [] rfl rfl (by decide) (by decide) hk1 hFc hP1 hD1
  generalize H1 = H at hP hS ⊢
  have hP : va_P (dC, dI) vwCl [(h0, .inr (12, (o12 r))), ((r 27), .inl (cI, 6, .inl g_3))] H := hP
  have hD : va_D A [(h0, .inr (12, (o12 r))), ((r 27), .inl (cI, 6, .inl g_3))] := hD
  exact W.iret (v := (-1)) hx hb hr (fun t ht hW => ⟨⟨(-1), (), rfl, rfl, trivial⟩, hS.F ht⟩) hS.2.2 dX12_run_13
abbrev w0_c_X12_chance (cI : ClassId) (h0 : Nat) (r : Nat → Nat) (p0 : Int32) : va_W := [(h0, .inr (12, (o12 r))), ((r 27), .inl (cI, 6, .inl (fun _ => 0)))]
set_option maxHeartbeats 4000000 in
set_option maxRecDepth 100000 in
theorem c_X12_chance (l : Launch) (dC : Nat → ClassId) (dI : Nat → Nat → Nat) (cI cJ : ClassId) (h0 : Nat) (r : Nat → Nat) (p0 : Int32) (sz : Nat) : Met l yX12_chance wsX12_chance ({ frames := 2, cells := 0, slots := 0, locals := 81 }) (va_Pc [.ref h0, .int p0] (mPre dC dI cI cJ sz (w0_c_X12_chance cI h0 r p0))) (va_Qi (fun (r : Int32) (u : Unit) => r = -1) (fun _ _ => True) (va_A (w0_c_X12_chance cI h0 r p0) sz)) 0 0 (va_A (w0_c_X12_chance cI h0 r p0) sz) := by
  refine Met.ofW (cc := cX12_chance) (maxL := 4) (ret := (some .int)) (by decide) rfl ?_
  intro p e s m args below meth c s₁ B hml hv
  obtain ⟨rfl, hsz, hP, hK, hD0, hN⟩ := hv
  have hx := B.exec
  have hb := B.bytes
  have hr := B.returns
  have hts := atoms_spec (ws := wsX12_chance) B.pre
  have hown : s.vm.findClass RX12 = some m.cls := findClass_of_methodNamed B.named
  have hlocks := B.notSynchronized
  have h_in_X12 : ∀ w ∈ wsX120, w ∈ wsX12_chance := fun w h => List.mem_cons_of_mem _ (List.mem_append_right _ h)
  subst hsz
  have hD := hD0.self (sz := s.heap.size)
  generalize hAe : va_A (w0_c_X12_chance cI h0 r p0) s.heap.size = A at hD ⊢
  have hA : ∀ q : Nat, s.heap.size ≤ q → A q := fun q h => by rw [← hAe]; exact Or.inr h
  have hS : va_S A s.heap s.heap [] := va_S.rf
  have hP : va_P (dC, dI) vwCl [(h0, .inr (12, (o12 r))), ((r 27), .inl (cI, 6, .inl (fun _ => 0)))] s.heap := hP
  have hD : va_D A [(h0, .inr (12, (o12 r))), ((r 27), .inl (cI, 6, .inl (fun _ => 0)))] := hD
  have hl := lv_entry ([.ref h0, .int p0]) (n := 4) (Nat.le_of_ble_eq_true rfl)
  rw [lg_entry_eq]
  generalize (lg_sl ([.ref h0, .int p0]) ++ List.replicate (4 - (lg_sl ([.ref h0, .int p0])).length) Slot.unset).toArray = ls at hl ⊢
  have hl : lv_has ls 4 [(0, .ref h0), (1, .int p0)] := hl
  refine lv_aload_n hx hb dX12_chance_0 rfl (lv_at hl 0 rfl) ?_
  refine va_get (D := (dC, dI)) (ci := 12) (v := .int 0) (C := RX12) (T := TX12) (N := 98) hx hb hts h_in_X12 hown hK hP 0 rfl rfl 44 (by decide) (hts (.fieldLink RX12 146 "MatchTreesModel" "isMatch" "Z") (by decide +kernel)) (fun _ h9 => h9) rfl dX12_chance_1 ?_
  refine lv_if_eq (tgt := 17) hx hb dX12_chance_4 (by decide) (fun _ => ?_) (fun c => absurd (by decide) c)
  refine lv_aload_n hx hb dX12_chance_17 rfl (lv_at hl 0 rfl) ?_
  refine lv_iconst (v := 2) hx hb dX12_chance_18 (by decide) ?_
  have hPc := hP.sub (ws' := [(h0, .inr (12, (o12 r))), ((r 27), .inl (cI, 6, .inl (fun _ => 0)))]) [0, 1] rfl
  have hDc := hD.sub (ws' := [(h0, .inr (12, (o12 r))), ((r 27), .inl (cI, 6, .inl (fun _ => 0)))]) [0, 1] (by decide) rfl
  have hFc := va_free (wc := [(h0, .inr (12, (o12 r))), ((r 27), .inl (cI, 6, .inl (fun _ => 0)))]) hD hS hA [0, 1] rfl
  refine va_calli (va_runV (As := [.int 2]) (rest := []) ⟨hx, hb, hml, hown, hts⟩ (c_X12_refuses_2 l dC dI cI cJ h0 r s.heap.size) (cwV 1 hts gX12_chance_X12_refuses rfl rfl rfl (by decide +kernel) ⟨Nat.le_of_ble_eq_true rfl, Nat.le_of_ble_eq_true rfl⟩) ⟨mBlind, va_recv hK hPc (ci := 12) (q0 := 0) rfl rfl, mGo hPc hK hDc hN⟩ rfl rfl hl.1 rfl (lv_room (Nat.le_of_ble_eq_true rfl)) dX12_chance_19 ⟨Nat.le_of_ble_eq_true rfl, Nat.le_of_ble_eq_true rfl⟩) hS (fun q _ h => hFc q h) hFc (fun r_1 u t H1 locs ht hvm hw hB hz1 hk1 hS => ?_)
  obtain ⟨g_2, hP1, hD1⟩ := hB
  obtain rfl : r_1 = (-1) := hw
  rw [ht] at hP1
  obtain ⟨hP, hD⟩ := va_join (wr := []) (w1 := [(h0, .inr (12, (o12 r))), ((r 27), .inl (cI, 6, .inl g_2))]) hP hD [0, 1] [] rfl rfl (by decide) (by decide) hk1 hFc hP1 hD1
  generalize H1 = H at hP hS ⊢
  have hP : va_P (dC, dI) vwCl [(h0, .inr (12, (o12 r))), ((r 27), .inl (cI, 6, .inl g_2))] H := hP
  have hD : va_D A [(h0, .inr (12, (o12 r))), ((r 27), .inl (cI, 6, .inl g_2))] := hD
  exact W.iret (v := (-1)) hx hb hr (fun t ht hW => ⟨⟨(-1), (), rfl, rfl, trivial⟩, hS.F ht⟩) hS.2.2 dX12_chance_22
abbrev w0_c_X12_refuses_3 (cI : ClassId) (h0 : Nat) (r : Nat → Nat) : va_W := [(h0, .inr (12, (o12 r))), ((r 27), .inl (cI, 6, .inl (fun _ => 0)))]
set_option maxHeartbeats 4000000 in
set_option maxRecDepth 100000 in
theorem c_X12_refuses_3 (l : Launch) (dC : Nat → ClassId) (dI : Nat → Nat → Nat) (cI cJ : ClassId) (h0 : Nat) (r : Nat → Nat) (sz : Nat) : Met l yX12_refuses wsX12_refuses ({ frames := 1, cells := 0, slots := 0, locals := 60 }) (va_Pc [.ref h0, .int 3] (mPre dC dI cI cJ sz (w0_c_X12_refuses_3 cI h0 r))) (va_Qi (fun (r : Int32) (u : Unit) => r = -1) (fun (u : Unit) (t : State) => ∃ (g : Nat → Int32), va_P (dC, dI) vwCl [(h0, .inr (12, (o12 r))), ((r 27), .inl (cI, 6, .inl g))] t.heap ∧ va_D (va_A (w0_c_X12_refuses_3 cI h0 r) sz) [(h0, .inr (12, (o12 r))), ((r 27), .inl (cI, 6, .inl g))]) (va_A (w0_c_X12_refuses_3 cI h0 r) sz)) 0 0 (va_A (w0_c_X12_refuses_3 cI h0 r) sz) := by
  refine Met.ofW (cc := cX12_refuses) (maxL := 2) (ret := (some .int)) (by decide) rfl ?_
  intro p e s m args below meth c s₁ B hml hv
  obtain ⟨rfl, hsz, hP, hK, hD0, hN⟩ := hv
  have hx := B.exec
  have hb := B.bytes
  have hr := B.returns
  have hts := atoms_spec (ws := wsX12_refuses) B.pre
  have hown : s.vm.findClass RX12 = some m.cls := findClass_of_methodNamed B.named
  have hlocks := B.notSynchronized
  have h_in_X12 : ∀ w ∈ wsX120, w ∈ wsX12_refuses := fun w h => List.mem_cons_of_mem _ (List.mem_append_right _ h)
  subst hsz
  have hD := hD0.self (sz := s.heap.size)
  generalize hAe : va_A (w0_c_X12_refuses_3 cI h0 r) s.heap.size = A at hD ⊢
  have hA : ∀ q : Nat, s.heap.size ≤ q → A q := fun q h => by rw [← hAe]; exact Or.inr h
  have hS : va_S A s.heap s.heap [] := va_S.rf
  have hP : va_P (dC, dI) vwCl [(h0, .inr (12, (o12 r))), ((r 27), .inl (cI, 6, .inl (fun _ => 0)))] s.heap := hP
  have hD : va_D A [(h0, .inr (12, (o12 r))), ((r 27), .inl (cI, 6, .inl (fun _ => 0)))] := hD
  have hl := lv_entry ([.ref h0, .int 3]) (n := 2) (Nat.le_of_ble_eq_true rfl)
  rw [lg_entry_eq]
  generalize (lg_sl ([.ref h0, .int 3]) ++ List.replicate (2 - (lg_sl ([.ref h0, .int 3])).length) Slot.unset).toArray = ls at hl ⊢
  have hl : lv_has ls 2 [(0, .ref h0), (1, .int 3)] := hl
  refine lv_aload_n hx hb dX12_refuses_0 rfl (lv_at hl 0 rfl) ?_
  refine va_get (D := (dC, dI)) (ci := 12) (v := .ref (r 27)) (C := RX12) (T := TX12) (N := 98) hx hb hts h_in_X12 hown hK hP 0 rfl rfl 45 (by decide) (hts (.fieldLink RX12 149 "MatchTreesModel" "refused" "[I") (by decide +kernel)) (fun _ h9 => h9) rfl dX12_refuses_1 ?_
  refine lv_iload_n hx hb dX12_refuses_4 rfl (lv_at hl 1 rfl) ?_
  refine lv_dup2_11 hx hb dX12_refuses_5 rfl rfl ?_
  refine va_iald hx hb hK hP 1 0 rfl rfl (vpd (by decide)) dX12_refuses_6 ?_
  refine lv_topi (fun t9 e9 => ?_)
  obtain rfl : t9 = 0 := e9
  refine lv_iconst (v := 1) hx hb dX12_refuses_7 (by decide) ?_
  refine k_iadd (v := 1) hx hb (by decide) dX12_refuses_8 ?_
  refine va_iast hx hb hK hP hD hS 1 0 rfl rfl (vpd (by decide)) dX12_refuses_9 (fun H locs hP hD hS => ?_)
  obtain ⟨g_1, e_g_1⟩ : ∃ y : Nat → Int32, y = upd (fun _ => 0) (3 : Int32).toNatClampNeg 1 := ⟨_, rfl⟩
  have hP : va_P (dC, dI) vwCl [(h0, .inr (12, (o12 r))), ((r 27), .inl (cI, 6, .inl g_1))] H := by rw [e_g_1]; exact hP
  have hD : va_D A [(h0, .inr (12, (o12 r))), ((r 27), .inl (cI, 6, .inl g_1))] := by rw [e_g_1]; exact hD
  refine lv_iconst (v := (-1)) hx hb dX12_refuses_10 (by decide) ?_
  have hP9 := hP.sub (ws' := [(h0, .inr (12, (o12 r))), ((r 27), .inl (cI, 6, .inl g_1))]) [0, 1] rfl
  have hD9 := hD.sub (ws' := [(h0, .inr (12, (o12 r))), ((r 27), .inl (cI, 6, .inl g_1))]) [0, 1] (by decide) rfl
  exact W.iret (v := (-1)) hx hb hr (fun t ht hW => ⟨⟨(-1), (), rfl, rfl, g_1, by rw [ht]; exact hP9, hD9⟩, hS.F ht⟩) hS.2.2 dX12_refuses_11
abbrev w0_c_X12_swap (cI : ClassId) (h0 : Nat) (r : Nat → Nat) (p0 p1 : Int32) : va_W := [(h0, .inr (12, (o12 r))), ((r 27), .inl (cI, 6, .inl (fun _ => 0)))]
set_option maxHeartbeats 4000000 in
set_option maxRecDepth 100000 in
theorem c_X12_swap (l : Launch) (dC : Nat → ClassId) (dI : Nat → Nat → Nat) (cI cJ : ClassId) (h0 : Nat) (r : Nat → Nat) (p0 p1 : Int32) (sz : Nat) : Met l yX12_swap wsX12_swap ({ frames := 2, cells := 0, slots := 0, locals := 81 }) (va_Pc [.ref h0, .int p0, .int p1] (mPre dC dI cI cJ sz (w0_c_X12_swap cI h0 r p0 p1))) (va_Qi (fun (r : Int32) (u : Unit) => r = 0) (fun _ _ => True) (va_A (w0_c_X12_swap cI h0 r p0 p1) sz)) 0 0 (va_A (w0_c_X12_swap cI h0 r p0 p1) sz) := by
  refine Met.ofW (cc := cX12_swap) (maxL := 3) (ret := (some .boolean)) (by decide) rfl ?_
  intro p e s m args below meth c s₁ B hml hv
  obtain ⟨rfl, hsz, hP, hK, hD0, hN⟩ := hv
  have hx := B.exec
  have hb := B.bytes
  have hr := B.returns
  have hts := atoms_spec (ws := wsX12_swap) B.pre
  have hown : s.vm.findClass RX12 = some m.cls := findClass_of_methodNamed B.named
  have hlocks := B.notSynchronized
  have h_in_X12 : ∀ w ∈ wsX120, w ∈ wsX12_swap := fun w h => List.mem_cons_of_mem _ (List.mem_append_right _ h)
  subst hsz
  have hD := hD0.self (sz := s.heap.size)
  generalize hAe : va_A (w0_c_X12_swap cI h0 r p0 p1) s.heap.size = A at hD ⊢
  have hA : ∀ q : Nat, s.heap.size ≤ q → A q := fun q h => by rw [← hAe]; exact Or.inr h
  have hS : va_S A s.heap s.heap [] := va_S.rf
  have hP : va_P (dC, dI) vwCl [(h0, .inr (12, (o12 r))), ((r 27), .inl (cI, 6, .inl (fun _ => 0)))] s.heap := hP
  have hD : va_D A [(h0, .inr (12, (o12 r))), ((r 27), .inl (cI, 6, .inl (fun _ => 0)))] := hD
  have hl := lv_entry ([.ref h0, .int p0, .int p1]) (n := 3) (Nat.le_of_ble_eq_true rfl)
  rw [lg_entry_eq]
  generalize (lg_sl ([.ref h0, .int p0, .int p1]) ++ List.replicate (3 - (lg_sl ([.ref h0, .int p0, .int p1])).length) Slot.unset).toArray = ls at hl ⊢
  have hl : lv_has ls 3 [(0, .ref h0), (1, .int p0), (2, .int p1)] := hl
  refine lv_aload_n hx hb dX12_swap_0 rfl (lv_at hl 0 rfl) ?_
  refine lv_iload_n hx hb dX12_swap_1 rfl (lv_at hl 1 rfl) ?_
  have hPc := hP.sub (ws' := [(h0, .inr (12, (o12 r)))]) [0] rfl
  have hDc := hD.sub (ws' := [(h0, .inr (12, (o12 r)))]) [0] (by decide) rfl
  have hFc := va_free (wc := [(h0, .inr (12, (o12 r)))]) hD hS hA [0] rfl
  refine va_calli (va_runV (As := [.int p0]) (rest := []) ⟨hx, hb, hml, hown, hts⟩ (c_X12_isPlace l dC dI cI cJ h0 r p0 s.heap.size) (cwV 1 hts gX12_swap_X12_isPlace rfl rfl rfl (by decide +kernel) ⟨Nat.le_of_ble_eq_true rfl, Nat.le_of_ble_eq_true rfl⟩) ⟨mBlind, va_recv hK hPc (ci := 12) (q0 := 0) rfl rfl, mGo hPc hK hDc hN⟩ rfl rfl hl.1 rfl (lv_room (Nat.le_of_ble_eq_true rfl)) dX12_swap_2 ⟨Nat.le_of_ble_eq_true rfl, Nat.le_of_ble_eq_true rfl⟩) hS (fun q _ h => hFc q h) hFc (fun r_1 u t H1 locs ht hvm hw hB hz1 hk1 hS => ?_)
  obtain ⟨hP1, hD1⟩ := hB
  obtain rfl : r_1 = 0 := hw
  rw [ht] at hP1
  obtain ⟨hP, hD⟩ := va_join (wr := [((r 27), .inl (cI, 6, .inl (fun _ => 0)))]) (w1 := [(h0, .inr (12, (o12 r)))]) hP hD [0] [1] rfl rfl (by decide) (by decide) hk1 hFc hP1 hD1
  generalize H1 = H at hP hS ⊢
  have hP : va_P (dC, dI) vwCl [((r 27), .inl (cI, 6, .inl (fun _ => 0))), (h0, .inr (12, (o12 r)))] H := hP
  have hD : va_D A [((r 27), .inl (cI, 6, .inl (fun _ => 0))), (h0, .inr (12, (o12 r)))] := hD
  refine lv_if_eq (tgt := 21) hx hb dX12_swap_5 (by decide) (fun _ => ?_) (fun c => absurd (by decide) c)
  refine lv_aload_n hx hb dX12_swap_21 rfl (lv_at hl 0 rfl) ?_
  refine lv_iconst (v := 3) hx hb dX12_swap_22 (by decide) ?_
  have hPc := hP.sub (ws' := [(h0, .inr (12, (o12 r))), ((r 27), .inl (cI, 6, .inl (fun _ => 0)))]) [1, 0] rfl
  have hDc := hD.sub (ws' := [(h0, .inr (12, (o12 r))), ((r 27), .inl (cI, 6, .inl (fun _ => 0)))]) [1, 0] (by decide) rfl
  have hFc := va_free (wc := [(h0, .inr (12, (o12 r))), ((r 27), .inl (cI, 6, .inl (fun _ => 0)))]) hD hS hA [1, 0] rfl
  refine va_calli (va_runV (As := [.int 3]) (rest := []) ⟨hx, hb, hml, hown, hts⟩ (c_X12_refuses_3 l dC dI cI cJ h0 r H.size) (cwV 1 hts gX12_swap_X12_refuses rfl rfl rfl (by decide +kernel) ⟨Nat.le_of_ble_eq_true rfl, Nat.le_of_ble_eq_true rfl⟩) ⟨mBlind, va_recv hK hPc (ci := 12) (q0 := 0) rfl rfl, mGo hPc hK hDc hN⟩ rfl rfl hl.1 rfl (lv_room (Nat.le_of_ble_eq_true rfl)) dX12_swap_23 ⟨Nat.le_of_ble_eq_true rfl, Nat.le_of_ble_eq_true rfl⟩) hS (fun q _ h => hFc q h) hFc (fun r_2 u t H1 locs ht hvm hw hB hz1 hk1 hS => ?_)
  obtain ⟨g_3, hP1, hD1⟩ := hB
  obtain rfl : r_2 = (-1) := hw
  rw [ht] at hP1
  obtain ⟨hP, hD⟩ := va_join (wr := []) (w1 := [(h0, .inr (12, (o12 r))), ((r 27), .inl (cI, 6, .inl g_3))]) hP hD [1, 0] [] rfl rfl (by decide) (by decide) hk1 hFc hP1 hD1
  generalize H1 = H at hP hS ⊢
  have hP : va_P (dC, dI) vwCl [(h0, .inr (12, (o12 r))), ((r 27), .inl (cI, 6, .inl g_3))] H := hP
  have hD : va_D A [(h0, .inr (12, (o12 r))), ((r 27), .inl (cI, 6, .inl g_3))] := hD
  refine lv_if_lt (tgt := 33) hx hb dX12_swap_26 (by decide) (fun _ => ?_) (fun c => absurd (by decide) c)
  refine lv_iconst (v := 0) hx hb dX12_swap_33 (by decide) ?_
  exact W.zret (v := 0) hx hb hr rfl (fun t ht hW => ⟨⟨0, (), rfl, rfl, trivial⟩, hS.F ht⟩) hS.2.2 dX12_swap_34
abbrev w0_c_X12_drop (cI : ClassId) (h0 : Nat) (r : Nat → Nat) (p0 : Int32) : va_W := [(h0, .inr (12, (o12 r))), ((r 27), .inl (cI, 6, .inl (fun _ => 0)))]
set_option maxHeartbeats 4000000 in
set_option maxRecDepth 100000 in
theorem c_X12_drop (l : Launch) (dC : Nat → ClassId) (dI : Nat → Nat → Nat) (cI cJ : ClassId) (h0 : Nat) (r : Nat → Nat) (p0 : Int32) (sz : Nat) : Met l yX12_drop wsX12_drop ({ frames := 2, cells := 0, slots := 0, locals := 81 }) (va_Pc [.ref h0, .int p0] (mPre dC dI cI cJ sz (w0_c_X12_drop cI h0 r p0))) (va_Qi (fun (r : Int32) (u : Unit) => r = 0) (fun _ _ => True) (va_A (w0_c_X12_drop cI h0 r p0) sz)) 0 0 (va_A (w0_c_X12_drop cI h0 r p0) sz) := by
  refine Met.ofW (cc := cX12_drop) (maxL := 3) (ret := (some .boolean)) (by decide) rfl ?_
  intro p e s m args below meth c s₁ B hml hv
  obtain ⟨rfl, hsz, hP, hK, hD0, hN⟩ := hv
  have hx := B.exec
  have hb := B.bytes
  have hr := B.returns
  have hts := atoms_spec (ws := wsX12_drop) B.pre
  have hown : s.vm.findClass RX12 = some m.cls := findClass_of_methodNamed B.named
  have hlocks := B.notSynchronized
  have h_in_X12 : ∀ w ∈ wsX120, w ∈ wsX12_drop := fun w h => List.mem_cons_of_mem _ (List.mem_append_right _ h)
  subst hsz
  have hD := hD0.self (sz := s.heap.size)
  generalize hAe : va_A (w0_c_X12_drop cI h0 r p0) s.heap.size = A at hD ⊢
  have hA : ∀ q : Nat, s.heap.size ≤ q → A q := fun q h => by rw [← hAe]; exact Or.inr h
  have hS : va_S A s.heap s.heap [] := va_S.rf
  have hP : va_P (dC, dI) vwCl [(h0, .inr (12, (o12 r))), ((r 27), .inl (cI, 6, .inl (fun _ => 0)))] s.heap := hP
  have hD : va_D A [(h0, .inr (12, (o12 r))), ((r 27), .inl (cI, 6, .inl (fun _ => 0)))] := hD
  have hl := lv_entry ([.ref h0, .int p0]) (n := 3) (Nat.le_of_ble_eq_true rfl)
  rw [lg_entry_eq]
  generalize (lg_sl ([.ref h0, .int p0]) ++ List.replicate (3 - (lg_sl ([.ref h0, .int p0])).length) Slot.unset).toArray = ls at hl ⊢
  have hl : lv_has ls 3 [(0, .ref h0), (1, .int p0)] := hl
  refine lv_aload_n hx hb dX12_drop_0 rfl (lv_at hl 0 rfl) ?_
  refine lv_iload_n hx hb dX12_drop_1 rfl (lv_at hl 1 rfl) ?_
  have hPc := hP.sub (ws' := [(h0, .inr (12, (o12 r)))]) [0] rfl
  have hDc := hD.sub (ws' := [(h0, .inr (12, (o12 r)))]) [0] (by decide) rfl
  have hFc := va_free (wc := [(h0, .inr (12, (o12 r)))]) hD hS hA [0] rfl
  refine va_calli (va_runV (As := [.int p0]) (rest := []) ⟨hx, hb, hml, hown, hts⟩ (c_X12_isPlace l dC dI cI cJ h0 r p0 s.heap.size) (cwV 1 hts gX12_drop_X12_isPlace rfl rfl rfl (by decide +kernel) ⟨Nat.le_of_ble_eq_true rfl, Nat.le_of_ble_eq_true rfl⟩) ⟨mBlind, va_recv hK hPc (ci := 12) (q0 := 0) rfl rfl, mGo hPc hK hDc hN⟩ rfl rfl hl.1 rfl (lv_room (Nat.le_of_ble_eq_true rfl)) dX12_drop_2 ⟨Nat.le_of_ble_eq_true rfl, Nat.le_of_ble_eq_true rfl⟩) hS (fun q _ h => hFc q h) hFc (fun r_1 u t H1 locs ht hvm hw hB hz1 hk1 hS => ?_)
  obtain ⟨hP1, hD1⟩ := hB
  obtain rfl : r_1 = 0 := hw
  rw [ht] at hP1
  obtain ⟨hP, hD⟩ := va_join (wr := [((r 27), .inl (cI, 6, .inl (fun _ => 0)))]) (w1 := [(h0, .inr (12, (o12 r)))]) hP hD [0] [1] rfl rfl (by decide) (by decide) hk1 hFc hP1 hD1
  generalize H1 = H at hP hS ⊢
  have hP : va_P (dC, dI) vwCl [((r 27), .inl (cI, 6, .inl (fun _ => 0))), (h0, .inr (12, (o12 r)))] H := hP
  have hD : va_D A [((r 27), .inl (cI, 6, .inl (fun _ => 0))), (h0, .inr (12, (o12 r)))] := hD
  refine lv_if_ne (tgt := 22) hx hb dX12_drop_5 (by decide) (fun c => absurd c (by decide)) (fun _ => ?_)
  refine lv_aload_n hx hb dX12_drop_8 rfl (lv_at hl 0 rfl) ?_
  refine lv_iconst (v := 3) hx hb dX12_drop_9 (by decide) ?_
  have hPc := hP.sub (ws' := [(h0, .inr (12, (o12 r))), ((r 27), .inl (cI, 6, .inl (fun _ => 0)))]) [1, 0] rfl
  have hDc := hD.sub (ws' := [(h0, .inr (12, (o12 r))), ((r 27), .inl (cI, 6, .inl (fun _ => 0)))]) [1, 0] (by decide) rfl
  have hFc := va_free (wc := [(h0, .inr (12, (o12 r))), ((r 27), .inl (cI, 6, .inl (fun _ => 0)))]) hD hS hA [1, 0] rfl
  refine va_calli (va_runV (As := [.int 3]) (rest := []) ⟨hx, hb, hml, hown, hts⟩ (c_X12_refuses_3 l dC dI cI cJ h0 r H.size) (cwV 1 hts gX12_drop_X12_refuses rfl rfl rfl (by decide +kernel) ⟨Nat.le_of_ble_eq_true rfl, Nat.le_of_ble_eq_true rfl⟩) ⟨mBlind, va_recv hK hPc (ci := 12) (q0 := 0) rfl rfl, mGo hPc hK hDc hN⟩ rfl rfl hl.1 rfl (lv_room (Nat.le_of_ble_eq_true rfl)) dX12_drop_10 ⟨Nat.le_of_ble_eq_true rfl, Nat.le_of_ble_eq_true rfl⟩) hS (fun q _ h => hFc q h) hFc (fun r_2 u t H1 locs ht hvm hw hB hz1 hk1 hS => ?_)
  obtain ⟨g_3, hP1, hD1⟩ := hB
  obtain rfl : r_2 = (-1) := hw
  rw [ht] at hP1
  obtain ⟨hP, hD⟩ := va_join (wr := []) (w1 := [(h0, .inr (12, (o12 r))), ((r 27), .inl (cI, 6, .inl g_3))]) hP hD [1, 0] [] rfl rfl (by decide) (by decide) hk1 hFc hP1 hD1
  generalize H1 = H at hP hS ⊢
  have hP : va_P (dC, dI) vwCl [(h0, .inr (12, (o12 r))), ((r 27), .inl (cI, 6, .inl g_3))] H := hP
  have hD : va_D A [(h0, .inr (12, (o12 r))), ((r 27), .inl (cI, 6, .inl g_3))] := hD
  refine lv_if_lt (tgt := 20) hx hb dX12_drop_13 (by decide) (fun _ => ?_) (fun c => absurd (by decide) c)
  refine lv_iconst (v := 0) hx hb dX12_drop_20 (by decide) ?_
  exact W.zret (v := 0) hx hb hr rfl (fun t ht hW => ⟨⟨0, (), rfl, rfl, trivial⟩, hS.F ht⟩) hS.2.2 dX12_drop_21
abbrev w0_c_X12_turn (cI : ClassId) (h0 : Nat) (r : Nat → Nat) (p0 : Int32) : va_W := [(h0, .inr (12, (o12 r))), ((r 27), .inl (cI, 6, .inl (fun _ => 0)))]
set_option maxHeartbeats 4000000 in
set_option maxRecDepth 100000 in
theorem c_X12_turn (l : Launch) (dC : Nat → ClassId) (dI : Nat → Nat → Nat) (cI cJ : ClassId) (h0 : Nat) (r : Nat → Nat) (p0 : Int32) (sz : Nat) : Met l yX12_turn wsX12_turn ({ frames := 2, cells := 0, slots := 0, locals := 81 }) (va_Pc [.ref h0, .int p0] (mPre dC dI cI cJ sz (w0_c_X12_turn cI h0 r p0))) (va_Qi (fun (r : Int32) (u : Unit) => r = -1) (fun _ _ => True) (va_A (w0_c_X12_turn cI h0 r p0) sz)) 0 0 (va_A (w0_c_X12_turn cI h0 r p0) sz) := by
  refine Met.ofW (cc := cX12_turn) (maxL := 2) (ret := (some .int)) (by decide) rfl ?_
  intro p e s m args below meth c s₁ B hml hv
  obtain ⟨rfl, hsz, hP, hK, hD0, hN⟩ := hv
  have hx := B.exec
  have hb := B.bytes
  have hr := B.returns
  have hts := atoms_spec (ws := wsX12_turn) B.pre
  have hown : s.vm.findClass RX12 = some m.cls := findClass_of_methodNamed B.named
  have hlocks := B.notSynchronized
  have h_in_X12 : ∀ w ∈ wsX120, w ∈ wsX12_turn := fun w h => List.mem_cons_of_mem _ (List.mem_append_right _ h)
  subst hsz
  have hD := hD0.self (sz := s.heap.size)
  generalize hAe : va_A (w0_c_X12_turn cI h0 r p0) s.heap.size = A at hD ⊢
  have hA : ∀ q : Nat, s.heap.size ≤ q → A q := fun q h => by rw [← hAe]; exact Or.inr h
  have hS : va_S A s.heap s.heap [] := va_S.rf
  have hP : va_P (dC, dI) vwCl [(h0, .inr (12, (o12 r))), ((r 27), .inl (cI, 6, .inl (fun _ => 0)))] s.heap := hP
  have hD : va_D A [(h0, .inr (12, (o12 r))), ((r 27), .inl (cI, 6, .inl (fun _ => 0)))] := hD
  have hl := lv_entry ([.ref h0, .int p0]) (n := 2) (Nat.le_of_ble_eq_true rfl)
  rw [lg_entry_eq]
  generalize (lg_sl ([.ref h0, .int p0]) ++ List.replicate (2 - (lg_sl ([.ref h0, .int p0])).length) Slot.unset).toArray = ls at hl ⊢
  have hl : lv_has ls 2 [(0, .ref h0), (1, .int p0)] := hl
  refine lv_aload_n hx hb dX12_turn_0 rfl (lv_at hl 0 rfl) ?_
  refine va_get (D := (dC, dI)) (ci := 12) (v := .int 0) (C := RX12) (T := TX12) (N := 98) hx hb hts h_in_X12 hown hK hP 0 rfl rfl 44 (by decide) (hts (.fieldLink RX12 146 "MatchTreesModel" "isMatch" "Z") (by decide +kernel)) (fun _ h9 => h9) rfl dX12_turn_1 ?_
  refine lv_if_eq (tgt := 17) hx hb dX12_turn_4 (by decide) (fun _ => ?_) (fun c => absurd (by decide) c)
  refine lv_aload_n hx hb dX12_turn_17 rfl (lv_at hl 0 rfl) ?_
  refine lv_iconst (v := 3) hx hb dX12_turn_18 (by decide) ?_
  have hPc := hP.sub (ws' := [(h0, .inr (12, (o12 r))), ((r 27), .inl (cI, 6, .inl (fun _ => 0)))]) [0, 1] rfl
  have hDc := hD.sub (ws' := [(h0, .inr (12, (o12 r))), ((r 27), .inl (cI, 6, .inl (fun _ => 0)))]) [0, 1] (by decide) rfl
  have hFc := va_free (wc := [(h0, .inr (12, (o12 r))), ((r 27), .inl (cI, 6, .inl (fun _ => 0)))]) hD hS hA [0, 1] rfl
  refine va_calli (va_runV (As := [.int 3]) (rest := []) ⟨hx, hb, hml, hown, hts⟩ (c_X12_refuses_3 l dC dI cI cJ h0 r s.heap.size) (cwV 1 hts gX12_turn_X12_refuses rfl rfl rfl (by decide +kernel) ⟨Nat.le_of_ble_eq_true rfl, Nat.le_of_ble_eq_true rfl⟩) ⟨mBlind, va_recv hK hPc (ci := 12) (q0 := 0) rfl rfl, mGo hPc hK hDc hN⟩ rfl rfl hl.1 rfl (lv_room (Nat.le_of_ble_eq_true rfl)) dX12_turn_19 ⟨Nat.le_of_ble_eq_true rfl, Nat.le_of_ble_eq_true rfl⟩) hS (fun q _ h => hFc q h) hFc (fun r_1 u t H1 locs ht hvm hw hB hz1 hk1 hS => ?_)
  obtain ⟨g_2, hP1, hD1⟩ := hB
  obtain rfl : r_1 = (-1) := hw
  rw [ht] at hP1
  obtain ⟨hP, hD⟩ := va_join (wr := []) (w1 := [(h0, .inr (12, (o12 r))), ((r 27), .inl (cI, 6, .inl g_2))]) hP hD [0, 1] [] rfl rfl (by decide) (by decide) hk1 hFc hP1 hD1
  generalize H1 = H at hP hS ⊢
  have hP : va_P (dC, dI) vwCl [(h0, .inr (12, (o12 r))), ((r 27), .inl (cI, 6, .inl g_2))] H := hP
  have hD : va_D A [(h0, .inr (12, (o12 r))), ((r 27), .inl (cI, 6, .inl g_2))] := hD
  exact W.iret (v := (-1)) hx hb hr (fun t ht hW => ⟨⟨(-1), (), rfl, rfl, trivial⟩, hS.F ht⟩) hS.2.2 dX12_turn_22
abbrev w0_c_X12_choose (cI : ClassId) (h0 : Nat) (r : Nat → Nat) (p0 : Int32) : va_W := [(h0, .inr (12, (o12 r))), ((r 27), .inl (cI, 6, .inl (fun _ => 0)))]
set_option maxHeartbeats 4000000 in
set_option maxRecDepth 100000 in
theorem c_X12_choose (l : Launch) (dC : Nat → ClassId) (dI : Nat → Nat → Nat) (cI cJ : ClassId) (h0 : Nat) (r : Nat → Nat) (p0 : Int32) (sz : Nat) : Met l yX12_choose wsX12_choose ({ frames := 2, cells := 0, slots := 0, locals := 81 }) (va_Pc [.ref h0, .int p0] (mPre dC dI cI cJ sz (w0_c_X12_choose cI h0 r p0))) (va_Qi (fun (r : Int32) (u : Unit) => r = 0) (fun _ _ => True) (va_A (w0_c_X12_choose cI h0 r p0) sz)) 0 0 (va_A (w0_c_X12_choose cI h0 r p0) sz) := by
  refine Met.ofW (cc := cX12_choose) (maxL := 2) (ret := (some .boolean)) (by decide) rfl ?_
  intro p e s m args below meth c s₁ B hml hv
  obtain ⟨rfl, hsz, hP, hK, hD0, hN⟩ := hv
  have hx := B.exec
  have hb := B.bytes
  have hr := B.returns
  have hts := atoms_spec (ws := wsX12_choose) B.pre
  have hown : s.vm.findClass RX12 = some m.cls := findClass_of_methodNamed B.named
  have hlocks := B.notSynchronized
  have h_in_X12 : ∀ w ∈ wsX120, w ∈ wsX12_choose := fun w h => List.mem_cons_of_mem _ (List.mem_append_right _ h)
  subst hsz
  have hD := hD0.self (sz := s.heap.size)
  generalize hAe : va_A (w0_c_X12_choose cI h0 r p0) s.heap.size = A at hD ⊢
  have hA : ∀ q : Nat, s.heap.size ≤ q → A q := fun q h => by rw [← hAe]; exact Or.inr h
  have hS : va_S A s.heap s.heap [] := va_S.rf
  have hP : va_P (dC, dI) vwCl [(h0, .inr (12, (o12 r))), ((r 27), .inl (cI, 6, .inl (fun _ => 0)))] s.heap := hP
  have hD : va_D A [(h0, .inr (12, (o12 r))), ((r 27), .inl (cI, 6, .inl (fun _ => 0)))] := hD
  have hl := lv_entry ([.ref h0, .int p0]) (n := 2) (Nat.le_of_ble_eq_true rfl)
  rw [lg_entry_eq]
  generalize (lg_sl ([.ref h0, .int p0]) ++ List.replicate (2 - (lg_sl ([.ref h0, .int p0])).length) Slot.unset).toArray = ls at hl ⊢
  have hl : lv_has ls 2 [(0, .ref h0), (1, .int p0)] := hl
  refine lv_aload_n hx hb dX12_choose_0 rfl (lv_at hl 0 rfl) ?_
  refine va_get (D := (dC, dI)) (ci := 12) (v := .int 0) (C := RX12) (T := TX12) (N := 98) hx hb hts h_in_X12 hown hK hP 0 rfl rfl 44 (by decide) (hts (.fieldLink RX12 146 "MatchTreesModel" "isMatch" "Z") (by decide +kernel)) (fun _ h9 => h9) rfl dX12_choose_1 ?_
  refine lv_if_eq (tgt := 26) hx hb dX12_choose_4 (by decide) (fun _ => ?_) (fun c => absurd (by decide) c)
  refine lv_aload_n hx hb dX12_choose_26 rfl (lv_at hl 0 rfl) ?_
  refine lv_iconst (v := 3) hx hb dX12_choose_27 (by decide) ?_
  have hPc := hP.sub (ws' := [(h0, .inr (12, (o12 r))), ((r 27), .inl (cI, 6, .inl (fun _ => 0)))]) [0, 1] rfl
  have hDc := hD.sub (ws' := [(h0, .inr (12, (o12 r))), ((r 27), .inl (cI, 6, .inl (fun _ => 0)))]) [0, 1] (by decide) rfl
  have hFc := va_free (wc := [(h0, .inr (12, (o12 r))), ((r 27), .inl (cI, 6, .inl (fun _ => 0)))]) hD hS hA [0, 1] rfl
  refine va_calli (va_runV (As := [.int 3]) (rest := []) ⟨hx, hb, hml, hown, hts⟩ (c_X12_refuses_3 l dC dI cI cJ h0 r s.heap.size) (cwV 1 hts gX12_choose_X12_refuses rfl rfl rfl (by decide +kernel) ⟨Nat.le_of_ble_eq_true rfl, Nat.le_of_ble_eq_true rfl⟩) ⟨mBlind, va_recv hK hPc (ci := 12) (q0 := 0) rfl rfl, mGo hPc hK hDc hN⟩ rfl rfl hl.1 rfl (lv_room (Nat.le_of_ble_eq_true rfl)) dX12_choose_28 ⟨Nat.le_of_ble_eq_true rfl, Nat.le_of_ble_eq_true rfl⟩) hS (fun q _ h => hFc q h) hFc (fun r_1 u t H1 locs ht hvm hw hB hz1 hk1 hS => ?_)
  obtain ⟨g_2, hP1, hD1⟩ := hB
  obtain rfl : r_1 = (-1) := hw
  rw [ht] at hP1
  obtain ⟨hP, hD⟩ := va_join (wr := []) (w1 := [(h0, .inr (12, (o12 r))), ((r 27), .inl (cI, 6, .inl g_2))]) hP hD [0, 1] [] rfl rfl (by decide) (by decide) hk1 hFc hP1 hD1
  generalize H1 = H at hP hS ⊢
  have hP : va_P (dC, dI) vwCl [(h0, .inr (12, (o12 r))), ((r 27), .inl (cI, 6, .inl g_2))] H := hP
  have hD : va_D A [(h0, .inr (12, (o12 r))), ((r 27), .inl (cI, 6, .inl g_2))] := hD
  refine lv_if_lt (tgt := 38) hx hb dX12_choose_31 (by decide) (fun _ => ?_) (fun c => absurd (by decide) c)
  refine lv_iconst (v := 0) hx hb dX12_choose_38 (by decide) ?_
  exact W.zret (v := 0) hx hb hr rfl (fun t ht hW => ⟨⟨0, (), rfl, rfl, trivial⟩, hS.F ht⟩) hS.2.2 dX12_choose_39
abbrev w0_c_X12_refuses_4 (cI : ClassId) (h0 : Nat) (r : Nat → Nat) : va_W := [(h0, .inr (12, (o12 r))), ((r 27), .inl (cI, 6, .inl (fun _ => 0)))]
set_option maxHeartbeats 4000000 in
set_option maxRecDepth 100000 in
theorem c_X12_refuses_4 (l : Launch) (dC : Nat → ClassId) (dI : Nat → Nat → Nat) (cI cJ : ClassId) (h0 : Nat) (r : Nat → Nat) (sz : Nat) : Met l yX12_refuses wsX12_refuses ({ frames := 1, cells := 0, slots := 0, locals := 60 }) (va_Pc [.ref h0, .int 4] (mPre dC dI cI cJ sz (w0_c_X12_refuses_4 cI h0 r))) (va_Qi (fun (r : Int32) (u : Unit) => r = -1) (fun (u : Unit) (t : State) => ∃ (g : Nat → Int32), va_P (dC, dI) vwCl [(h0, .inr (12, (o12 r))), ((r 27), .inl (cI, 6, .inl g))] t.heap ∧ va_D (va_A (w0_c_X12_refuses_4 cI h0 r) sz) [(h0, .inr (12, (o12 r))), ((r 27), .inl (cI, 6, .inl g))]) (va_A (w0_c_X12_refuses_4 cI h0 r) sz)) 0 0 (va_A (w0_c_X12_refuses_4 cI h0 r) sz) := by
  refine Met.ofW (cc := cX12_refuses) (maxL := 2) (ret := (some .int)) (by decide) rfl ?_
  intro p e s m args below meth c s₁ B hml hv
  obtain ⟨rfl, hsz, hP, hK, hD0, hN⟩ := hv
  have hx := B.exec
  have hb := B.bytes
  have hr := B.returns
  have hts := atoms_spec (ws := wsX12_refuses) B.pre
  have hown : s.vm.findClass RX12 = some m.cls := findClass_of_methodNamed B.named
  have hlocks := B.notSynchronized
  have h_in_X12 : ∀ w ∈ wsX120, w ∈ wsX12_refuses := fun w h => List.mem_cons_of_mem _ (List.mem_append_right _ h)
  subst hsz
  have hD := hD0.self (sz := s.heap.size)
  generalize hAe : va_A (w0_c_X12_refuses_4 cI h0 r) s.heap.size = A at hD ⊢
  have hA : ∀ q : Nat, s.heap.size ≤ q → A q := fun q h => by rw [← hAe]; exact Or.inr h
  have hS : va_S A s.heap s.heap [] := va_S.rf
  have hP : va_P (dC, dI) vwCl [(h0, .inr (12, (o12 r))), ((r 27), .inl (cI, 6, .inl (fun _ => 0)))] s.heap := hP
  have hD : va_D A [(h0, .inr (12, (o12 r))), ((r 27), .inl (cI, 6, .inl (fun _ => 0)))] := hD
  have hl := lv_entry ([.ref h0, .int 4]) (n := 2) (Nat.le_of_ble_eq_true rfl)
  rw [lg_entry_eq]
  generalize (lg_sl ([.ref h0, .int 4]) ++ List.replicate (2 - (lg_sl ([.ref h0, .int 4])).length) Slot.unset).toArray = ls at hl ⊢
  have hl : lv_has ls 2 [(0, .ref h0), (1, .int 4)] := hl
  refine lv_aload_n hx hb dX12_refuses_0 rfl (lv_at hl 0 rfl) ?_
  refine va_get (D := (dC, dI)) (ci := 12) (v := .ref (r 27)) (C := RX12) (T := TX12) (N := 98) hx hb hts h_in_X12 hown hK hP 0 rfl rfl 45 (by decide) (hts (.fieldLink RX12 149 "MatchTreesModel" "refused" "[I") (by decide +kernel)) (fun _ h9 => h9) rfl dX12_refuses_1 ?_
  refine lv_iload_n hx hb dX12_refuses_4 rfl (lv_at hl 1 rfl) ?_
  refine lv_dup2_11 hx hb dX12_refuses_5 rfl rfl ?_
  refine va_iald hx hb hK hP 1 0 rfl rfl (vpd (by decide)) dX12_refuses_6 ?_
  refine lv_topi (fun t9 e9 => ?_)
  obtain rfl : t9 = 0 := e9
  refine lv_iconst (v := 1) hx hb dX12_refuses_7 (by decide) ?_
  refine k_iadd (v := 1) hx hb (by decide) dX12_refuses_8 ?_
  refine va_iast hx hb hK hP hD hS 1 0 rfl rfl (vpd (by decide)) dX12_refuses_9 (fun H locs hP hD hS => ?_)
  obtain ⟨g_1, e_g_1⟩ : ∃ y : Nat → Int32, y = upd (fun _ => 0) (4 : Int32).toNatClampNeg 1 := ⟨_, rfl⟩
  have hP : va_P (dC, dI) vwCl [(h0, .inr (12, (o12 r))), ((r 27), .inl (cI, 6, .inl g_1))] H := by rw [e_g_1]; exact hP
  have hD : va_D A [(h0, .inr (12, (o12 r))), ((r 27), .inl (cI, 6, .inl g_1))] := by rw [e_g_1]; exact hD
  refine lv_iconst (v := (-1)) hx hb dX12_refuses_10 (by decide) ?_
  have hP9 := hP.sub (ws' := [(h0, .inr (12, (o12 r))), ((r 27), .inl (cI, 6, .inl g_1))]) [0, 1] rfl
  have hD9 := hD.sub (ws' := [(h0, .inr (12, (o12 r))), ((r 27), .inl (cI, 6, .inl g_1))]) [0, 1] (by decide) rfl
  exact W.iret (v := (-1)) hx hb hr (fun t ht hW => ⟨⟨(-1), (), rfl, rfl, g_1, by rw [ht]; exact hP9, hD9⟩, hS.F ht⟩) hS.2.2 dX12_refuses_11
abbrev w0_c_X12_undo (cI : ClassId) (h0 : Nat) (r : Nat → Nat) : va_W := [(h0, .inr (12, (o12 r))), ((r 27), .inl (cI, 6, .inl (fun _ => 0)))]
set_option maxHeartbeats 4000000 in
set_option maxRecDepth 100000 in
theorem c_X12_undo (l : Launch) (dC : Nat → ClassId) (dI : Nat → Nat → Nat) (cI cJ : ClassId) (h0 : Nat) (r : Nat → Nat) (sz : Nat) : Met l yX12_undo wsX12_undo ({ frames := 2, cells := 0, slots := 0, locals := 81 }) (va_Pc [.ref h0] (mPre dC dI cI cJ sz (w0_c_X12_undo cI h0 r))) (va_Qi (fun (r : Int32) (u : Unit) => r = 0) (fun _ _ => True) (va_A (w0_c_X12_undo cI h0 r) sz)) 0 0 (va_A (w0_c_X12_undo cI h0 r) sz) := by
  refine Met.ofW (cc := cX12_undo) (maxL := 1) (ret := (some .boolean)) (by decide) rfl ?_
  intro p e s m args below meth c s₁ B hml hv
  obtain ⟨rfl, hsz, hP, hK, hD0, hN⟩ := hv
  have hx := B.exec
  have hb := B.bytes
  have hr := B.returns
  have hts := atoms_spec (ws := wsX12_undo) B.pre
  have hown : s.vm.findClass RX12 = some m.cls := findClass_of_methodNamed B.named
  have hlocks := B.notSynchronized
  have h_in_X12 : ∀ w ∈ wsX120, w ∈ wsX12_undo := fun w h => List.mem_cons_of_mem _ (List.mem_append_right _ h)
  subst hsz
  have hD := hD0.self (sz := s.heap.size)
  generalize hAe : va_A (w0_c_X12_undo cI h0 r) s.heap.size = A at hD ⊢
  have hA : ∀ q : Nat, s.heap.size ≤ q → A q := fun q h => by rw [← hAe]; exact Or.inr h
  have hS : va_S A s.heap s.heap [] := va_S.rf
  have hP : va_P (dC, dI) vwCl [(h0, .inr (12, (o12 r))), ((r 27), .inl (cI, 6, .inl (fun _ => 0)))] s.heap := hP
  have hD : va_D A [(h0, .inr (12, (o12 r))), ((r 27), .inl (cI, 6, .inl (fun _ => 0)))] := hD
  have hl := lv_entry ([.ref h0]) (n := 1) (Nat.le_of_ble_eq_true rfl)
  rw [lg_entry_eq]
  generalize (lg_sl ([.ref h0]) ++ List.replicate (1 - (lg_sl ([.ref h0])).length) Slot.unset).toArray = ls at hl ⊢
  have hl : lv_has ls 1 [(0, .ref h0)] := hl
  refine lv_aload_n hx hb dX12_undo_0 rfl (lv_at hl 0 rfl) ?_
  refine va_get (D := (dC, dI)) (ci := 12) (v := .int 0) (C := RX12) (T := TX12) (N := 98) hx hb hts h_in_X12 hown hK hP 0 rfl rfl 60 (by decide) (hts (.fieldLink RX12 194 "MatchTreesModel" "undos" "I") (by decide +kernel)) (fun _ h9 => h9) rfl dX12_undo_1 ?_
  refine lv_if_ne (tgt := 21) hx hb dX12_undo_4 (by decide) (fun c => absurd c (by decide)) (fun _ => ?_)
  refine lv_aload_n hx hb dX12_undo_7 rfl (lv_at hl 0 rfl) ?_
  refine lv_iconst (v := 4) hx hb dX12_undo_8 (by decide) ?_
  have hPc := hP.sub (ws' := [(h0, .inr (12, (o12 r))), ((r 27), .inl (cI, 6, .inl (fun _ => 0)))]) [0, 1] rfl
  have hDc := hD.sub (ws' := [(h0, .inr (12, (o12 r))), ((r 27), .inl (cI, 6, .inl (fun _ => 0)))]) [0, 1] (by decide) rfl
  have hFc := va_free (wc := [(h0, .inr (12, (o12 r))), ((r 27), .inl (cI, 6, .inl (fun _ => 0)))]) hD hS hA [0, 1] rfl
  refine va_calli (va_runV (As := [.int 4]) (rest := []) ⟨hx, hb, hml, hown, hts⟩ (c_X12_refuses_4 l dC dI cI cJ h0 r s.heap.size) (cwV 1 hts gX12_undo_X12_refuses rfl rfl rfl (by decide +kernel) ⟨Nat.le_of_ble_eq_true rfl, Nat.le_of_ble_eq_true rfl⟩) ⟨mBlind, va_recv hK hPc (ci := 12) (q0 := 0) rfl rfl, mGo hPc hK hDc hN⟩ rfl rfl hl.1 rfl (lv_room (Nat.le_of_ble_eq_true rfl)) dX12_undo_9 ⟨Nat.le_of_ble_eq_true rfl, Nat.le_of_ble_eq_true rfl⟩) hS (fun q _ h => hFc q h) hFc (fun r_1 u t H1 locs ht hvm hw hB hz1 hk1 hS => ?_)
  obtain ⟨g_2, hP1, hD1⟩ := hB
  obtain rfl : r_1 = (-1) := hw
  rw [ht] at hP1
  obtain ⟨hP, hD⟩ := va_join (wr := []) (w1 := [(h0, .inr (12, (o12 r))), ((r 27), .inl (cI, 6, .inl g_2))]) hP hD [0, 1] [] rfl rfl (by decide) (by decide) hk1 hFc hP1 hD1
  generalize H1 = H at hP hS ⊢
  have hP : va_P (dC, dI) vwCl [(h0, .inr (12, (o12 r))), ((r 27), .inl (cI, 6, .inl g_2))] H := hP
  have hD : va_D A [(h0, .inr (12, (o12 r))), ((r 27), .inl (cI, 6, .inl g_2))] := hD
  refine lv_if_lt (tgt := 19) hx hb dX12_undo_12 (by decide) (fun _ => ?_) (fun c => absurd (by decide) c)
  refine lv_iconst (v := 0) hx hb dX12_undo_19 (by decide) ?_
  exact W.zret (v := 0) hx hb hr rfl (fun t ht hW => ⟨⟨0, (), rfl, rfl, trivial⟩, hS.F ht⟩) hS.2.2 dX12_undo_20
abbrev w0_c_X12_comesOn_0 (cI : ClassId) (h0 : Nat) (r : Nat → Nat) : va_W := [(h0, .inr (12, (o12 r)))]
set_option maxHeartbeats 4000000 in
set_option maxRecDepth 100000 in
theorem c_X12_comesOn_0 (l : Launch) (dC : Nat → ClassId) (dI : Nat → Nat → Nat) (cI cJ : ClassId) (h0 : Nat) (r : Nat → Nat) (sz : Nat) : Met l yX12_comesOn wsX12_comesOn ({ frames := 1, cells := 0, slots := 0, locals := 60 }) (va_Pc [.ref h0, .int 0] (mPre dC dI cI cJ sz (w0_c_X12_comesOn_0 cI h0 r))) (va_Qi (fun (r : Int32) (u : Unit) => r = 0) (fun (u : Unit) (t : State) => va_P (dC, dI) vwCl [(h0, .inr (12, (o12 r)))] t.heap ∧ va_D (va_A (w0_c_X12_comesOn_0 cI h0 r) sz) [(h0, .inr (12, (o12 r)))]) (va_A (w0_c_X12_comesOn_0 cI h0 r) sz)) 0 0 (va_A (w0_c_X12_comesOn_0 cI h0 r) sz) := by
  refine Met.ofW (cc := cX12_comesOn) (maxL := 6) (ret := (some .boolean)) (by decide) rfl ?_
  intro p e s m args below meth c s₁ B hml hv
  obtain ⟨rfl, hsz, hP, hK, hD0, hN⟩ := hv
  have hx := B.exec
  have hb := B.bytes
  have hr := B.returns
  have hts := atoms_spec (ws := wsX12_comesOn) B.pre
  have hown : s.vm.findClass RX12 = some m.cls := findClass_of_methodNamed B.named
  have hlocks := B.notSynchronized
  have h_in_X12 : ∀ w ∈ wsX120, w ∈ wsX12_comesOn := fun w h => List.mem_cons_of_mem _ (List.mem_append_right _ h)
  subst hsz
  have hD := hD0.self (sz := s.heap.size)
  generalize hAe : va_A (w0_c_X12_comesOn_0 cI h0 r) s.heap.size = A at hD ⊢
  have hA : ∀ q : Nat, s.heap.size ≤ q → A q := fun q h => by rw [← hAe]; exact Or.inr h
  have hS : va_S A s.heap s.heap [] := va_S.rf
  have hP : va_P (dC, dI) vwCl [(h0, .inr (12, (o12 r)))] s.heap := hP
  have hD : va_D A [(h0, .inr (12, (o12 r)))] := hD
  have hl := lv_entry ([.ref h0, .int 0]) (n := 6) (Nat.le_of_ble_eq_true rfl)
  rw [lg_entry_eq]
  generalize (lg_sl ([.ref h0, .int 0]) ++ List.replicate (6 - (lg_sl ([.ref h0, .int 0])).length) Slot.unset).toArray = ls at hl ⊢
  have hl : lv_has ls 6 [(0, .ref h0), (1, .int 0)] := hl
  refine lv_aload_n hx hb dX12_comesOn_0 rfl (lv_at hl 0 rfl) ?_
  refine va_get (D := (dC, dI)) (ci := 12) (v := .int 0) (C := RX12) (T := TX12) (N := 98) hx hb hts h_in_X12 hown hK hP 0 rfl rfl 44 (by decide) (hts (.fieldLink RX12 146 "MatchTreesModel" "isMatch" "Z") (by decide +kernel)) (fun _ h9 => h9) rfl dX12_comesOn_1 ?_
  refine lv_if_eq (tgt := 42) hx hb dX12_comesOn_4 (by decide) (fun _ => ?_) (fun c => absurd (by decide) c)
  refine lv_iconst (v := 0) hx hb dX12_comesOn_42 (by decide) ?_
  have hP9 := hP.sub (ws' := [(h0, .inr (12, (o12 r)))]) [0] rfl
  have hD9 := hD.sub (ws' := [(h0, .inr (12, (o12 r)))]) [0] (by decide) rfl
  exact W.zret (v := 0) hx hb hr rfl (fun t ht hW => ⟨⟨0, (), rfl, rfl, by rw [ht]; exact hP9, hD9⟩, hS.F ht⟩) hS.2.2 dX12_comesOn_43
abbrev w0_c_X12_on (cI : ClassId) (h0 : Nat) (r : Nat → Nat) : va_W := [(h0, .inr (12, (o12 r))), ((r 27), .inl (cI, 6, .inl (fun _ => 0)))]
set_option maxHeartbeats 4000000 in
set_option maxRecDepth 100000 in
theorem c_X12_on (l : Launch) (dC : Nat → ClassId) (dI : Nat → Nat → Nat) (cI cJ : ClassId) (h0 : Nat) (r : Nat → Nat) (sz : Nat) : Met l yX12_on wsX12_on ({ frames := 2, cells := 0, slots := 0, locals := 85 }) (va_Pc [.ref h0] (mPre dC dI cI cJ sz (w0_c_X12_on cI h0 r))) (va_Qi (fun (r : Int32) (u : Unit) => r = 0) (fun _ _ => True) (va_A (w0_c_X12_on cI h0 r) sz)) 0 0 (va_A (w0_c_X12_on cI h0 r) sz) := by
  refine Met.ofW (cc := cX12_on) (maxL := 2) (ret := (some .boolean)) (by decide) rfl ?_
  intro p e s m args below meth c s₁ B hml hv
  obtain ⟨rfl, hsz, hP, hK, hD0, hN⟩ := hv
  have hx := B.exec
  have hb := B.bytes
  have hr := B.returns
  have hts := atoms_spec (ws := wsX12_on) B.pre
  have hown : s.vm.findClass RX12 = some m.cls := findClass_of_methodNamed B.named
  have hlocks := B.notSynchronized
  have h_in_X12 : ∀ w ∈ wsX120, w ∈ wsX12_on := fun w h => List.mem_cons_of_mem _ (List.mem_append_right _ h)
  subst hsz
  have hD := hD0.self (sz := s.heap.size)
  generalize hAe : va_A (w0_c_X12_on cI h0 r) s.heap.size = A at hD ⊢
  have hA : ∀ q : Nat, s.heap.size ≤ q → A q := fun q h => by rw [← hAe]; exact Or.inr h
  have hS : va_S A s.heap s.heap [] := va_S.rf
  have hP : va_P (dC, dI) vwCl [(h0, .inr (12, (o12 r))), ((r 27), .inl (cI, 6, .inl (fun _ => 0)))] s.heap := hP
  have hD : va_D A [(h0, .inr (12, (o12 r))), ((r 27), .inl (cI, 6, .inl (fun _ => 0)))] := hD
  have hl := lv_entry ([.ref h0]) (n := 2) (Nat.le_of_ble_eq_true rfl)
  rw [lg_entry_eq]
  generalize (lg_sl ([.ref h0]) ++ List.replicate (2 - (lg_sl ([.ref h0])).length) Slot.unset).toArray = ls at hl ⊢
  have hl : lv_has ls 2 [(0, .ref h0)] := hl
  refine lv_aload_n hx hb dX12_on_0 rfl (lv_at hl 0 rfl) ?_
  refine va_get (D := (dC, dI)) (ci := 12) (v := .int 0) (C := RX12) (T := TX12) (N := 98) hx hb hts h_in_X12 hown hK hP 0 rfl rfl 1 (by decide) (hts (.fieldLink RX12 13 "MatchTreesModel" "taped" "I") (by decide +kernel)) (fun _ h9 => h9) rfl dX12_on_1 ?_
  refine lv_istore_n (lv' := [(1, .int 0), (0, .ref h0)]) hx hb dX12_on_4 rfl hl (by decide) rfl (fun ls hl => ?_)
  refine lv_aload_n hx hb dX12_on_5 rfl (lv_at hl 1 rfl) ?_
  refine lv_iconst (v := 0) hx hb dX12_on_6 (by decide) ?_
  refine va_put (D := (dC, dI)) (ci := 12) (v := .int 0) (ty := .int) (C := RX12) (T := TX12) (N := 98) hx hb hts h_in_X12 tyX12 tyX12_ok nmX12 hown hK hP hD hS 0 rfl rfl 1 (by decide) (hts (.fieldLink RX12 13 "MatchTreesModel" "taped" "I") (by decide +kernel)) (fun _ h9 => h9) rfl (by decide +kernel) rfl rfl (Nat.le_of_ble_eq_true rfl) dX12_on_7 (fun H locs hP hD hS => ?_)
  have hP : va_P (dC, dI) vwCl [(h0, .inr (12, (o12 r))), ((r 27), .inl (cI, 6, .inl (fun _ => 0)))] H := hP
  have hD : va_D A [(h0, .inr (12, (o12 r))), ((r 27), .inl (cI, 6, .inl (fun _ => 0)))] := hD
  refine lv_aload_n hx hb dX12_on_10 rfl (lv_at hl 1 rfl) ?_
  refine lv_iload_n hx hb dX12_on_11 rfl (lv_at hl 0 rfl) ?_
  have hPc := hP.sub (ws' := [(h0, .inr (12, (o12 r)))]) [0] rfl
  have hDc := hD.sub (ws' := [(h0, .inr (12, (o12 r)))]) [0] (by decide) rfl
  have hFc := va_free (wc := [(h0, .inr (12, (o12 r)))]) hD hS hA [0] rfl
  refine va_calli (va_runV (As := [.int 0]) (rest := []) ⟨hx, hb, hml, hown, hts⟩ (c_X12_comesOn_0 l dC dI cI cJ h0 r H.size) (cwV 1 hts gX12_on_X12_comesOn rfl rfl rfl (by decide +kernel) ⟨Nat.le_of_ble_eq_true rfl, Nat.le_of_ble_eq_true rfl⟩) ⟨mBlind, va_recv hK hPc (ci := 12) (q0 := 0) rfl rfl, mGo hPc hK hDc hN⟩ rfl rfl hl.1 rfl (lv_room (Nat.le_of_ble_eq_true rfl)) dX12_on_12 ⟨Nat.le_of_ble_eq_true rfl, Nat.le_of_ble_eq_true rfl⟩) hS (fun q _ h => hFc q h) hFc (fun r_1 u t H1 locs ht hvm hw hB hz1 hk1 hS => ?_)
  obtain ⟨hP1, hD1⟩ := hB
  obtain rfl : r_1 = 0 := hw
  rw [ht] at hP1
  obtain ⟨hP, hD⟩ := va_join (wr := [((r 27), .inl (cI, 6, .inl (fun _ => 0)))]) (w1 := [(h0, .inr (12, (o12 r)))]) hP hD [0] [1] rfl rfl (by decide) (by decide) hk1 hFc hP1 hD1
  generalize H1 = H at hP hS ⊢
  have hP : va_P (dC, dI) vwCl [((r 27), .inl (cI, 6, .inl (fun _ => 0))), (h0, .inr (12, (o12 r)))] H := hP
  have hD : va_D A [((r 27), .inl (cI, 6, .inl (fun _ => 0))), (h0, .inr (12, (o12 r)))] := hD
  refine lv_if_ne (tgt := 32) hx hb dX12_on_15 (by decide) (fun c => absurd c (by decide)) (fun _ => ?_)
  refine lv_aload_n hx hb dX12_on_18 rfl (lv_at hl 1 rfl) ?_
  refine lv_iconst (v := 5) hx hb dX12_on_19 (by decide) ?_
  have hPc := hP.sub (ws' := [(h0, .inr (12, (o12 r))), ((r 27), .inl (cI, 6, .inl (fun _ => 0)))]) [1, 0] rfl
  have hDc := hD.sub (ws' := [(h0, .inr (12, (o12 r))), ((r 27), .inl (cI, 6, .inl (fun _ => 0)))]) [1, 0] (by decide) rfl
  have hFc := va_free (wc := [(h0, .inr (12, (o12 r))), ((r 27), .inl (cI, 6, .inl (fun _ => 0)))]) hD hS hA [1, 0] rfl
  refine va_calli (va_runV (As := [.int 5]) (rest := []) ⟨hx, hb, hml, hown, hts⟩ (c_X12_refuses_5 l dC dI cI cJ h0 r H.size) (cwV 1 hts gX12_on_X12_refuses rfl rfl rfl (by decide +kernel) ⟨Nat.le_of_ble_eq_true rfl, Nat.le_of_ble_eq_true rfl⟩) ⟨mBlind, va_recv hK hPc (ci := 12) (q0 := 0) rfl rfl, mGo hPc hK hDc hN⟩ rfl rfl hl.1 rfl (lv_room (Nat.le_of_ble_eq_true rfl)) dX12_on_20 ⟨Nat.le_of_ble_eq_true rfl, Nat.le_of_ble_eq_true rfl⟩) hS (fun q _ h => hFc q h) hFc (fun r_2 u t H1 locs ht hvm hw hB hz1 hk1 hS => ?_)
  obtain ⟨g_3, hP1, hD1⟩ := hB
  obtain rfl : r_2 = (-1) := hw
  rw [ht] at hP1
  obtain ⟨hP, hD⟩ := va_join (wr := []) (w1 := [(h0, .inr (12, (o12 r))), ((r 27), .inl (cI, 6, .inl g_3))]) hP hD [1, 0] [] rfl rfl (by decide) (by decide) hk1 hFc hP1 hD1
  generalize H1 = H at hP hS ⊢
  have hP : va_P (dC, dI) vwCl [(h0, .inr (12, (o12 r))), ((r 27), .inl (cI, 6, .inl g_3))] H := hP
  have hD : va_D A [(h0, .inr (12, (o12 r))), ((r 27), .inl (cI, 6, .inl g_3))] := hD
  refine lv_if_lt (tgt := 30) hx hb dX12_on_23 (by decide) (fun _ => ?_) (fun c => absurd (by decide) c)
  refine lv_iconst (v := 0) hx hb dX12_on_30 (by decide) ?_
  exact W.zret (v := 0) hx hb hr rfl (fun t ht hW => ⟨⟨0, (), rfl, rfl, trivial⟩, hS.F ht⟩) hS.2.2 dX12_on_31
abbrev w0_c_X12_kept (cI : ClassId) (h0 : Nat) (r : Nat → Nat) (p0 p1 : Int32) : va_W := [(h0, .inr (12, (o12 r))), ((r 38), .inl (cI, 22, .inl (fun _ => 0)))]
set_option maxHeartbeats 4000000 in
set_option maxRecDepth 100000 in
theorem c_X12_kept (l : Launch) (dC : Nat → ClassId) (dI : Nat → Nat → Nat) (cI cJ : ClassId) (h0 : Nat) (r : Nat → Nat) (p0 p1 : Int32) (sz : Nat) : Met l yX12_kept wsX12_kept ({ frames := 2, cells := 0, slots := 0, locals := 82 }) (va_Pc [.ref h0, .int p0, .int p1] (mPre dC dI cI cJ sz (w0_c_X12_kept cI h0 r p0 p1))) (va_Qi (fun (r : Int32) (u : Unit) => r = -1) (fun _ _ => True) (va_A (w0_c_X12_kept cI h0 r p0 p1) sz)) 0 0 (va_A (w0_c_X12_kept cI h0 r p0 p1) sz) := by
  refine Met.ofW (cc := cX12_kept) (maxL := 3) (ret := (some .int)) (by decide) rfl ?_
  intro p e s m args below meth c s₁ B hml hv
  obtain ⟨rfl, hsz, hP, hK, hD0, hN⟩ := hv
  have hx := B.exec
  have hb := B.bytes
  have hr := B.returns
  have hts := atoms_spec (ws := wsX12_kept) B.pre
  have hown : s.vm.findClass RX12 = some m.cls := findClass_of_methodNamed B.named
  have hlocks := B.notSynchronized
  have h_in_X12 : ∀ w ∈ wsX120, w ∈ wsX12_kept := fun w h => List.mem_cons_of_mem _ (List.mem_append_right _ h)
  subst hsz
  have hD := hD0.self (sz := s.heap.size)
  generalize hAe : va_A (w0_c_X12_kept cI h0 r p0 p1) s.heap.size = A at hD ⊢
  have hA : ∀ q : Nat, s.heap.size ≤ q → A q := fun q h => by rw [← hAe]; exact Or.inr h
  have hS : va_S A s.heap s.heap [] := va_S.rf
  have hP : va_P (dC, dI) vwCl [(h0, .inr (12, (o12 r))), ((r 38), .inl (cI, 22, .inl (fun _ => 0)))] s.heap := hP
  have hD : va_D A [(h0, .inr (12, (o12 r))), ((r 38), .inl (cI, 22, .inl (fun _ => 0)))] := hD
  have hl := lv_entry ([.ref h0, .int p0, .int p1]) (n := 3) (Nat.le_of_ble_eq_true rfl)
  rw [lg_entry_eq]
  generalize (lg_sl ([.ref h0, .int p0, .int p1]) ++ List.replicate (3 - (lg_sl ([.ref h0, .int p0, .int p1])).length) Slot.unset).toArray = ls at hl ⊢
  have hl : lv_has ls 3 [(0, .ref h0), (1, .int p0), (2, .int p1)] := hl
  refine lv_iload_n hx hb dX12_kept_0 rfl (lv_at hl 1 rfl) ?_
  refine lv_iconst (v := 0) hx hb dX12_kept_1 (by decide) ?_
  refine lv_aload_n hx hb dX12_kept_2 rfl (lv_at hl 0 rfl) ?_
  refine va_get (D := (dC, dI)) (ci := 12) (v := .ref (r 38)) (C := RX12) (T := TX12) (N := 98) hx hb hts h_in_X12 hown hK hP 0 rfl rfl 57 (by decide) (hts (.fieldLink RX12 185 "MatchTreesModel" "keptMany" "[I") (by decide +kernel)) (fun _ h9 => h9) rfl dX12_kept_3 ?_
  refine lv_iconst (v := 0) hx hb dX12_kept_6 (by decide) ?_
  refine va_iald hx hb hK hP 1 0 rfl rfl (vpd (by decide)) dX12_kept_7 ?_
  refine lv_topi (fun t9 e9 => ?_)
  obtain rfl : t9 = 0 := e9
  refine lv_iconst (v := 1) hx hb dX12_kept_8 (by decide) ?_
  refine k_isub (v := (-1)) hx hb (by decide) dX12_kept_9 ?_
  have hPc := hP.sub (ws' := []) [] rfl
  have hDc := hD.sub (ws' := []) [] (by decide) rfl
  have hFc := va_free (wc := []) hD hS hA [] rfl
  refine va_calli (va_runS (As := [.int p0, .int 0, .int (-1)]) (rest := []) ⟨hx, hb, hml, hown, hts⟩ (c_X12_is_0_m1 l dC dI cI cJ p0 s.heap.size) (va_cwS 3 hts gX12_kept_X12_is rfl rfl rfl (by decide +kernel) ⟨Nat.le_of_ble_eq_true rfl, Nat.le_of_ble_eq_true rfl⟩) ⟨mBlind, mGo hPc hK hDc hN⟩ rfl rfl hl.1 rfl (lv_room (Nat.le_of_ble_eq_true rfl)) dX12_kept_10 ⟨Nat.le_of_ble_eq_true rfl, Nat.le_of_ble_eq_true rfl⟩) hS (fun q _ h => hFc q h) hFc (fun r_1 u t H1 locs ht hvm hw hB hz1 hk1 hS => ?_)
  obtain rfl : r_1 = 0 := hw.trans (if_neg (fun q => by have h1 := Int32.le_iff_toInt_le.mp q.1; have h2 := Int32.le_iff_toInt_le.mp q.2; have e1 : (0 : Int32).toInt = 0 := (by decide); have e2 : ((-1) : Int32).toInt = -1 := (by decide); omega))
  obtain ⟨hP, hD⟩ := va_join (wr := [(h0, .inr (12, (o12 r))), ((r 38), .inl (cI, 22, .inl (fun _ => 0)))]) (w1 := []) hP hD [] [0, 1] rfl rfl (by decide) (by decide) hk1 hFc va_P0 va_D0
  generalize H1 = H at hP hS ⊢
  have hP : va_P (dC, dI) vwCl [(h0, .inr (12, (o12 r))), ((r 38), .inl (cI, 22, .inl (fun _ => 0)))] H := hP
  have hD : va_D A [(h0, .inr (12, (o12 r))), ((r 38), .inl (cI, 22, .inl (fun _ => 0)))] := hD
  refine lv_if_eq (tgt := 38) hx hb dX12_kept_13 (by decide) (fun _ => ?_) (fun c => absurd (by decide) c)
  refine lv_iconst (v := (-1)) hx hb dX12_kept_38 (by decide) ?_
  exact W.iret (v := (-1)) hx hb hr (fun t ht hW => ⟨⟨(-1), (), rfl, rfl, trivial⟩, hS.F ht⟩) hS.2.2 dX12_kept_39
abbrev w0_c_X12_refuses_0 (cI : ClassId) (h0 : Nat) (r : Nat → Nat) : va_W := [(h0, .inr (12, (o12 r))), ((r 27), .inl (cI, 6, .inl (fun _ => 0)))]
set_option maxHeartbeats 4000000 in
set_option maxRecDepth 100000 in
theorem c_X12_refuses_0 (l : Launch) (dC : Nat → ClassId) (dI : Nat → Nat → Nat) (cI cJ : ClassId) (h0 : Nat) (r : Nat → Nat) (sz : Nat) : Met l yX12_refuses wsX12_refuses ({ frames := 1, cells := 0, slots := 0, locals := 60 }) (va_Pc [.ref h0, .int 0] (mPre dC dI cI cJ sz (w0_c_X12_refuses_0 cI h0 r))) (va_Qi (fun (r : Int32) (u : Unit) => r = -1) (fun (u : Unit) (t : State) => ∃ (g : Nat → Int32), va_P (dC, dI) vwCl [(h0, .inr (12, (o12 r))), ((r 27), .inl (cI, 6, .inl g))] t.heap ∧ va_D (va_A (w0_c_X12_refuses_0 cI h0 r) sz) [(h0, .inr (12, (o12 r))), ((r 27), .inl (cI, 6, .inl g))]) (va_A (w0_c_X12_refuses_0 cI h0 r) sz)) 0 0 (va_A (w0_c_X12_refuses_0 cI h0 r) sz) := by
  refine Met.ofW (cc := cX12_refuses) (maxL := 2) (ret := (some .int)) (by decide) rfl ?_
  intro p e s m args below meth c s₁ B hml hv
  obtain ⟨rfl, hsz, hP, hK, hD0, hN⟩ := hv
  have hx := B.exec
  have hb := B.bytes
  have hr := B.returns
  have hts := atoms_spec (ws := wsX12_refuses) B.pre
  have hown : s.vm.findClass RX12 = some m.cls := findClass_of_methodNamed B.named
  have hlocks := B.notSynchronized
  have h_in_X12 : ∀ w ∈ wsX120, w ∈ wsX12_refuses := fun w h => List.mem_cons_of_mem _ (List.mem_append_right _ h)
  subst hsz
  have hD := hD0.self (sz := s.heap.size)
  generalize hAe : va_A (w0_c_X12_refuses_0 cI h0 r) s.heap.size = A at hD ⊢
  have hA : ∀ q : Nat, s.heap.size ≤ q → A q := fun q h => by rw [← hAe]; exact Or.inr h
  have hS : va_S A s.heap s.heap [] := va_S.rf
  have hP : va_P (dC, dI) vwCl [(h0, .inr (12, (o12 r))), ((r 27), .inl (cI, 6, .inl (fun _ => 0)))] s.heap := hP
  have hD : va_D A [(h0, .inr (12, (o12 r))), ((r 27), .inl (cI, 6, .inl (fun _ => 0)))] := hD
  have hl := lv_entry ([.ref h0, .int 0]) (n := 2) (Nat.le_of_ble_eq_true rfl)
  rw [lg_entry_eq]
  generalize (lg_sl ([.ref h0, .int 0]) ++ List.replicate (2 - (lg_sl ([.ref h0, .int 0])).length) Slot.unset).toArray = ls at hl ⊢
  have hl : lv_has ls 2 [(0, .ref h0), (1, .int 0)] := hl
  refine lv_aload_n hx hb dX12_refuses_0 rfl (lv_at hl 0 rfl) ?_
  refine va_get (D := (dC, dI)) (ci := 12) (v := .ref (r 27)) (C := RX12) (T := TX12) (N := 98) hx hb hts h_in_X12 hown hK hP 0 rfl rfl 45 (by decide) (hts (.fieldLink RX12 149 "MatchTreesModel" "refused" "[I") (by decide +kernel)) (fun _ h9 => h9) rfl dX12_refuses_1 ?_
  refine lv_iload_n hx hb dX12_refuses_4 rfl (lv_at hl 1 rfl) ?_
  refine lv_dup2_11 hx hb dX12_refuses_5 rfl rfl ?_
  refine va_iald hx hb hK hP 1 0 rfl rfl (vpd (by decide)) dX12_refuses_6 ?_
  refine lv_topi (fun t9 e9 => ?_)
  obtain rfl : t9 = 0 := e9
  refine lv_iconst (v := 1) hx hb dX12_refuses_7 (by decide) ?_
  refine k_iadd (v := 1) hx hb (by decide) dX12_refuses_8 ?_
  refine va_iast hx hb hK hP hD hS 1 0 rfl rfl (vpd (by decide)) dX12_refuses_9 (fun H locs hP hD hS => ?_)
  obtain ⟨g_1, e_g_1⟩ : ∃ y : Nat → Int32, y = upd (fun _ => 0) (0 : Int32).toNatClampNeg 1 := ⟨_, rfl⟩
  have hP : va_P (dC, dI) vwCl [(h0, .inr (12, (o12 r))), ((r 27), .inl (cI, 6, .inl g_1))] H := by rw [e_g_1]; exact hP
  have hD : va_D A [(h0, .inr (12, (o12 r))), ((r 27), .inl (cI, 6, .inl g_1))] := by rw [e_g_1]; exact hD
  refine lv_iconst (v := (-1)) hx hb dX12_refuses_10 (by decide) ?_
  have hP9 := hP.sub (ws' := [(h0, .inr (12, (o12 r))), ((r 27), .inl (cI, 6, .inl g_1))]) [0, 1] rfl
  have hD9 := hD.sub (ws' := [(h0, .inr (12, (o12 r))), ((r 27), .inl (cI, 6, .inl g_1))]) [0, 1] (by decide) rfl
  exact W.iret (v := (-1)) hx hb hr (fun t ht hW => ⟨⟨(-1), (), rfl, rfl, g_1, by rw [ht]; exact hP9, hD9⟩, hS.F ht⟩) hS.2.2 dX12_refuses_11
abbrev w0_c_X12_end (cI : ClassId) (h0 : Nat) (r : Nat → Nat) (p0 : Int32) : va_W := [(h0, .inr (12, (o12 r))), ((r 27), .inl (cI, 6, .inl (fun _ => 0)))]
set_option maxHeartbeats 4000000 in
set_option maxRecDepth 100000 in
theorem c_X12_end (l : Launch) (dC : Nat → ClassId) (dI : Nat → Nat → Nat) (cI cJ : ClassId) (h0 : Nat) (r : Nat → Nat) (p0 : Int32) (sz : Nat) : Met l yX12_end wsX12_end ({ frames := 2, cells := 0, slots := 0, locals := 81 }) (va_Pc [.ref h0, .int p0] (mPre dC dI cI cJ sz (w0_c_X12_end cI h0 r p0))) (va_Qi (fun (r : Int32) (u : Unit) => r = (if p0 = 0 then 1 else 0)) (fun _ _ => True) (va_A (w0_c_X12_end cI h0 r p0) sz)) 0 0 (va_A (w0_c_X12_end cI h0 r p0) sz) := by
  refine Met.ofW (cc := cX12_end) (maxL := 2) (ret := (some .boolean)) (by decide) rfl ?_
  intro p e s m args below meth c s₁ B hml hv
  obtain ⟨rfl, hsz, hP, hK, hD0, hN⟩ := hv
  have hx := B.exec
  have hb := B.bytes
  have hr := B.returns
  have hts := atoms_spec (ws := wsX12_end) B.pre
  have hown : s.vm.findClass RX12 = some m.cls := findClass_of_methodNamed B.named
  have hlocks := B.notSynchronized
  have h_in_X12 : ∀ w ∈ wsX120, w ∈ wsX12_end := fun w h => List.mem_cons_of_mem _ (List.mem_append_right _ h)
  subst hsz
  have hD := hD0.self (sz := s.heap.size)
  generalize hAe : va_A (w0_c_X12_end cI h0 r p0) s.heap.size = A at hD ⊢
  have hA : ∀ q : Nat, s.heap.size ≤ q → A q := fun q h => by rw [← hAe]; exact Or.inr h
  have hS : va_S A s.heap s.heap [] := va_S.rf
  have hP : va_P (dC, dI) vwCl [(h0, .inr (12, (o12 r))), ((r 27), .inl (cI, 6, .inl (fun _ => 0)))] s.heap := hP
  have hD : va_D A [(h0, .inr (12, (o12 r))), ((r 27), .inl (cI, 6, .inl (fun _ => 0)))] := hD
  have hl := lv_entry ([.ref h0, .int p0]) (n := 2) (Nat.le_of_ble_eq_true rfl)
  rw [lg_entry_eq]
  generalize (lg_sl ([.ref h0, .int p0]) ++ List.replicate (2 - (lg_sl ([.ref h0, .int p0])).length) Slot.unset).toArray = ls at hl ⊢
  have hl : lv_has ls 2 [(0, .ref h0), (1, .int p0)] := hl
  refine lv_iload_n hx hb dX12_end_0 rfl (lv_at hl 1 rfl) ?_
  refine lv_if_lt (tgt := 12) hx hb dX12_end_1 (by decide) (fun c_1 => ?_) (fun c_1 => ?_)
  · refine lv_aload_n hx hb dX12_end_12 rfl (lv_at hl 0 rfl) ?_
    refine lv_iconst (v := 0) hx hb dX12_end_13 (by decide) ?_
    have hPc := hP.sub (ws' := [(h0, .inr (12, (o12 r))), ((r 27), .inl (cI, 6, .inl (fun _ => 0)))]) [0, 1] rfl
    have hDc := hD.sub (ws' := [(h0, .inr (12, (o12 r))), ((r 27), .inl (cI, 6, .inl (fun _ => 0)))]) [0, 1] (by decide) rfl
    have hFc := va_free (wc := [(h0, .inr (12, (o12 r))), ((r 27), .inl (cI, 6, .inl (fun _ => 0)))]) hD hS hA [0, 1] rfl
    refine va_calli (va_runV (As := [.int 0]) (rest := []) ⟨hx, hb, hml, hown, hts⟩ (c_X12_refuses_0 l dC dI cI cJ h0 r s.heap.size) (cwV 1 hts gX12_end_X12_refuses rfl rfl rfl (by decide +kernel) ⟨Nat.le_of_ble_eq_true rfl, Nat.le_of_ble_eq_true rfl⟩) ⟨mBlind, va_recv hK hPc (ci := 12) (q0 := 0) rfl rfl, mGo hPc hK hDc hN⟩ rfl rfl hl.1 rfl (lv_room (Nat.le_of_ble_eq_true rfl)) dX12_end_14 ⟨Nat.le_of_ble_eq_true rfl, Nat.le_of_ble_eq_true rfl⟩) hS (fun q _ h => hFc q h) hFc (fun r_2 u t H1 locs ht hvm hw hB hz1 hk1 hS => ?_)
    obtain ⟨g_3, hP1, hD1⟩ := hB
    obtain rfl : r_2 = (-1) := hw
    rw [ht] at hP1
    obtain ⟨hP, hD⟩ := va_join (wr := []) (w1 := [(h0, .inr (12, (o12 r))), ((r 27), .inl (cI, 6, .inl g_3))]) hP hD [0, 1] [] rfl rfl (by decide) (by decide) hk1 hFc hP1 hD1
    generalize H1 = H at hP hS ⊢
    have hP : va_P (dC, dI) vwCl [(h0, .inr (12, (o12 r))), ((r 27), .inl (cI, 6, .inl g_3))] H := hP
    have hD : va_D A [(h0, .inr (12, (o12 r))), ((r 27), .inl (cI, 6, .inl g_3))] := hD
    refine lv_if_lt (tgt := 24) hx hb dX12_end_17 (by decide) (fun _ => ?_) (fun c => absurd (by decide) c)
    refine lv_iconst (v := 0) hx hb dX12_end_24 (by decide) ?_
    exact W.zret (v := 0) hx hb hr rfl (fun t ht hW => ⟨⟨0, (), rfl, (by rw [if_neg (by have e0 : (0 : Int32).toInt = 0 := (by decide); rw [Int32.lt_iff_toInt_lt] at c_1; rw [← Int32.toInt_inj]; omega)]), trivial⟩, hS.F ht⟩) hS.2.2 dX12_end_25
  · refine lv_iload_n hx hb dX12_end_4 rfl (lv_at hl 1 rfl) ?_
    refine lv_aload_n hx hb dX12_end_5 rfl (lv_at hl 0 rfl) ?_
    refine va_get (D := (dC, dI)) (ci := 12) (v := .int 0) (C := RX12) (T := TX12) (N := 98) hx hb hts h_in_X12 hown hK hP 0 rfl rfl 1 (by decide) (hts (.fieldLink RX12 13 "MatchTreesModel" "taped" "I") (by decide +kernel)) (fun _ h9 => h9) rfl dX12_end_6 ?_
    refine lv_icmp_le (tgt := 26) hx hb dX12_end_9 (by decide) (fun c_4 => ?_) (fun c_4 => ?_)
    · refine lv_aload_n hx hb dX12_end_26 rfl (lv_at hl 0 rfl) ?_
      refine lv_iload_n hx hb dX12_end_27 rfl (lv_at hl 1 rfl) ?_
      refine va_put (D := (dC, dI)) (ci := 12) (v := .int p0) (ty := .int) (C := RX12) (T := TX12) (N := 98) hx hb hts h_in_X12 tyX12 tyX12_ok nmX12 hown hK hP hD hS 0 rfl rfl 1 (by decide) (hts (.fieldLink RX12 13 "MatchTreesModel" "taped" "I") (by decide +kernel)) (fun _ h9 => h9) rfl (by decide +kernel) rfl rfl (Nat.le_of_ble_eq_true rfl) dX12_end_28 (fun H locs hP hD hS => ?_)
      have hP : va_P (dC, dI) vwCl [(h0, .inr (12, [.ref (r 0), .int p0, .int 0, .int 0, .int 0, .int 0, .int 0, .long 0, .int 0, .int (-1), .int 0, .int (-1), .int (-1), .int 0, .ref (r 1), .ref (r 2), .ref (r 3), .ref (r 4), .ref (r 5), .ref (r 6), .ref (r 7), .ref (r 8), .ref (r 9), .ref (r 10), .ref (r 11), .ref (r 12), .ref (r 13), .ref (r 14), .ref (r 15), .ref (r 16), .ref (r 17), .ref (r 18), .ref (r 19), .ref (r 20), .ref (r 21), .ref (r 22), .int 0, .int 1, .int 0, .ref (r 23), .ref (r 24), .ref (r 25), .ref (r 26), .int 0, .int 0, .ref (r 27), .ref (r 28), .ref (r 29), .ref (r 30), .ref (r 31), .ref (r 32), .ref (r 33), .int 0, .ref (r 34), .ref (r 35), .ref (r 36), .ref (r 37), .ref (r 38), .ref (r 39), .int 0, .int 0, .long 1, .int 0, .ref (r 40), .ref (r 41), .ref (r 42), .int 0, .ref (r 43), .ref (r 44), .ref (r 45), .int 0, .ref (r 46), .ref (r 47), .int 0, .int 0, .ref (r 48), .int 0, .ref (r 49), .int 0, .ref (r 50), .ref (r 51), .int 0, .ref (r 52), .ref (r 53), .ref (r 54), .ref (r 55), .ref (r 56), .int 0, .int 0, .int 0, .int 0, .ref (r 57), .int 0, .ref (r 58), .ref (r 59), .ref (r 60), .ref (r 61), .ref (r 62)])), ((r 27), .inl (cI, 6, .inl (fun _ => 0)))] H := hP
      have hD : va_D A [(h0, .inr (12, [.ref (r 0), .int p0, .int 0, .int 0, .int 0, .int 0, .int 0, .long 0, .int 0, .int (-1), .int 0, .int (-1), .int (-1), .int 0, .ref (r 1), .ref (r 2), .ref (r 3), .ref (r 4), .ref (r 5), .ref (r 6), .ref (r 7), .ref (r 8), .ref (r 9), .ref (r 10), .ref (r 11), .ref (r 12), .ref (r 13), .ref (r 14), .ref (r 15), .ref (r 16), .ref (r 17), .ref (r 18), .ref (r 19), .ref (r 20), .ref (r 21), .ref (r 22), .int 0, .int 1, .int 0, .ref (r 23), .ref (r 24), .ref (r 25), .ref (r 26), .int 0, .int 0, .ref (r 27), .ref (r 28), .ref (r 29), .ref (r 30), .ref (r 31), .ref (r 32), .ref (r 33), .int 0, .ref (r 34), .ref (r 35), .ref (r 36), .ref (r 37), .ref (r 38), .ref (r 39), .int 0, .int 0, .long 1, .int 0, .ref (r 40), .ref (r 41), .ref (r 42), .int 0, .ref (r 43), .ref (r 44), .ref (r 45), .int 0, .ref (r 46), .ref (r 47), .int 0, .int 0, .ref (r 48), .int 0, .ref (r 49), .int 0, .ref (r 50), .ref (r 51), .int 0, .ref (r 52), .ref (r 53), .ref (r 54), .ref (r 55), .ref (r 56), .int 0, .int 0, .int 0, .int 0, .ref (r 57), .int 0, .ref (r 58), .ref (r 59), .ref (r 60), .ref (r 61), .ref (r 62)])), ((r 27), .inl (cI, 6, .inl (fun _ => 0)))] := hD
      refine lv_iconst (v := 1) hx hb dX12_end_31 (by decide) ?_
      exact W.zret (v := 1) hx hb hr rfl (fun t ht hW => ⟨⟨1, (), rfl, (by rw [if_pos (by have e0 : (0 : Int32).toInt = 0 := (by decide); rw [Int32.lt_iff_toInt_lt] at c_1; rw [Int32.le_iff_toInt_le] at c_4; rw [← Int32.toInt_inj]; omega)]), trivial⟩, hS.F ht⟩) hS.2.2 dX12_end_32
    · refine lv_aload_n hx hb dX12_end_12 rfl (lv_at hl 0 rfl) ?_
      refine lv_iconst (v := 0) hx hb dX12_end_13 (by decide) ?_
      have hPc := hP.sub (ws' := [(h0, .inr (12, (o12 r))), ((r 27), .inl (cI, 6, .inl (fun _ => 0)))]) [0, 1] rfl
      have hDc := hD.sub (ws' := [(h0, .inr (12, (o12 r))), ((r 27), .inl (cI, 6, .inl (fun _ => 0)))]) [0, 1] (by decide) rfl
      have hFc := va_free (wc := [(h0, .inr (12, (o12 r))), ((r 27), .inl (cI, 6, .inl (fun _ => 0)))]) hD hS hA [0, 1] rfl
      refine va_calli (va_runV (As := [.int 0]) (rest := []) ⟨hx, hb, hml, hown, hts⟩ (c_X12_refuses_0 l dC dI cI cJ h0 r s.heap.size) (cwV 1 hts gX12_end_X12_refuses rfl rfl rfl (by decide +kernel) ⟨Nat.le_of_ble_eq_true rfl, Nat.le_of_ble_eq_true rfl⟩) ⟨mBlind, va_recv hK hPc (ci := 12) (q0 := 0) rfl rfl, mGo hPc hK hDc hN⟩ rfl rfl hl.1 rfl (lv_room (Nat.le_of_ble_eq_true rfl)) dX12_end_14 ⟨Nat.le_of_ble_eq_true rfl, Nat.le_of_ble_eq_true rfl⟩) hS (fun q _ h => hFc q h) hFc (fun r_5 u t H1 locs ht hvm hw hB hz1 hk1 hS => ?_)
      obtain ⟨g_6, hP1, hD1⟩ := hB
      obtain rfl : r_5 = (-1) := hw
      rw [ht] at hP1
      obtain ⟨hP, hD⟩ := va_join (wr := []) (w1 := [(h0, .inr (12, (o12 r))), ((r 27), .inl (cI, 6, .inl g_6))]) hP hD [0, 1] [] rfl rfl (by decide) (by decide) hk1 hFc hP1 hD1
      generalize H1 = H at hP hS ⊢
      have hP : va_P (dC, dI) vwCl [(h0, .inr (12, (o12 r))), ((r 27), .inl (cI, 6, .inl g_6))] H := hP
      have hD : va_D A [(h0, .inr (12, (o12 r))), ((r 27), .inl (cI, 6, .inl g_6))] := hD
      refine lv_if_lt (tgt := 24) hx hb dX12_end_17 (by decide) (fun _ => ?_) (fun c => absurd (by decide) c)
      refine lv_iconst (v := 0) hx hb dX12_end_24 (by decide) ?_
      exact W.zret (v := 0) hx hb hr rfl (fun t ht hW => ⟨⟨0, (), rfl, (by rw [if_neg (by have e0 : (0 : Int32).toInt = 0 := (by decide); rw [Int32.lt_iff_toInt_lt] at c_1; rw [Int32.le_iff_toInt_le] at c_4; rw [← Int32.toInt_inj]; omega)]), trivial⟩, hS.F ht⟩) hS.2.2 dX12_end_25
abbrev w0_c_X12_seed (cI : ClassId) (h0 : Nat) (r : Nat → Nat) (p0 : Int32) : va_W := [(h0, .inr (12, (o12 r))), ((r 27), .inl (cI, 6, .inl (fun _ => 0)))]
set_option maxHeartbeats 4000000 in
set_option maxRecDepth 100000 in
theorem c_X12_seed (l : Launch) (dC : Nat → ClassId) (dI : Nat → Nat → Nat) (cI cJ : ClassId) (h0 : Nat) (r : Nat → Nat) (p0 : Int32) (sz : Nat) : Met l yX12_seed wsX12_seed ({ frames := 2, cells := 0, slots := 0, locals := 81 }) (va_Pc [.ref h0, .int p0] (mPre dC dI cI cJ sz (w0_c_X12_seed cI h0 r p0))) (va_Qi (fun (r : Int32) (u : Unit) => r = (if p0 < 0 then 0 else 1)) (fun _ _ => True) (va_A (w0_c_X12_seed cI h0 r p0) sz)) 0 0 (va_A (w0_c_X12_seed cI h0 r p0) sz) := by
  refine Met.ofW (cc := cX12_seed) (maxL := 2) (ret := (some .boolean)) (by decide) rfl ?_
  intro p e s m args below meth c s₁ B hml hv
  obtain ⟨rfl, hsz, hP, hK, hD0, hN⟩ := hv
  have hx := B.exec
  have hb := B.bytes
  have hr := B.returns
  have hts := atoms_spec (ws := wsX12_seed) B.pre
  have hown : s.vm.findClass RX12 = some m.cls := findClass_of_methodNamed B.named
  have hlocks := B.notSynchronized
  have h_in_X12 : ∀ w ∈ wsX120, w ∈ wsX12_seed := fun w h => List.mem_cons_of_mem _ (List.mem_append_right _ h)
  subst hsz
  have hD := hD0.self (sz := s.heap.size)
  generalize hAe : va_A (w0_c_X12_seed cI h0 r p0) s.heap.size = A at hD ⊢
  have hA : ∀ q : Nat, s.heap.size ≤ q → A q := fun q h => by rw [← hAe]; exact Or.inr h
  have hS : va_S A s.heap s.heap [] := va_S.rf
  have hP : va_P (dC, dI) vwCl [(h0, .inr (12, (o12 r))), ((r 27), .inl (cI, 6, .inl (fun _ => 0)))] s.heap := hP
  have hD : va_D A [(h0, .inr (12, (o12 r))), ((r 27), .inl (cI, 6, .inl (fun _ => 0)))] := hD
  have hl := lv_entry ([.ref h0, .int p0]) (n := 2) (Nat.le_of_ble_eq_true rfl)
  rw [lg_entry_eq]
  generalize (lg_sl ([.ref h0, .int p0]) ++ List.replicate (2 - (lg_sl ([.ref h0, .int p0])).length) Slot.unset).toArray = ls at hl ⊢
  have hl : lv_has ls 2 [(0, .ref h0), (1, .int p0)] := hl
  refine lv_iload_n hx hb dX12_seed_0 rfl (lv_at hl 1 rfl) ?_
  refine lv_if_ge (tgt := 18) hx hb dX12_seed_1 (by decide) (fun c_1 => ?_) (fun c_1 => ?_)
  · refine lv_aload_n hx hb dX12_seed_18 rfl (lv_at hl 0 rfl) ?_
    refine lv_iload_n hx hb dX12_seed_19 rfl (lv_at hl 1 rfl) ?_
    refine lv_i2l (v := p0.toInt64) hx hb dX12_seed_20 rfl ?_
    refine va_put (D := (dC, dI)) (ci := 12) (v := .long p0.toInt64) (ty := .long) (C := RX12) (T := TX12) (N := 98) hx hb hts h_in_X12 tyX12 tyX12_ok nmX12 hown hK hP hD hS 0 rfl rfl 61 (by decide) (hts (.fieldLink RX12 197 "MatchTreesModel" "seeds" "J") (by decide +kernel)) (fun _ h9 => h9) rfl (by decide +kernel) rfl rfl (Nat.le_of_ble_eq_true rfl) dX12_seed_21 (fun H locs hP hD hS => ?_)
    have hP : va_P (dC, dI) vwCl [(h0, .inr (12, [.ref (r 0), .int 0, .int 0, .int 0, .int 0, .int 0, .int 0, .long 0, .int 0, .int (-1), .int 0, .int (-1), .int (-1), .int 0, .ref (r 1), .ref (r 2), .ref (r 3), .ref (r 4), .ref (r 5), .ref (r 6), .ref (r 7), .ref (r 8), .ref (r 9), .ref (r 10), .ref (r 11), .ref (r 12), .ref (r 13), .ref (r 14), .ref (r 15), .ref (r 16), .ref (r 17), .ref (r 18), .ref (r 19), .ref (r 20), .ref (r 21), .ref (r 22), .int 0, .int 1, .int 0, .ref (r 23), .ref (r 24), .ref (r 25), .ref (r 26), .int 0, .int 0, .ref (r 27), .ref (r 28), .ref (r 29), .ref (r 30), .ref (r 31), .ref (r 32), .ref (r 33), .int 0, .ref (r 34), .ref (r 35), .ref (r 36), .ref (r 37), .ref (r 38), .ref (r 39), .int 0, .int 0, .long p0.toInt64, .int 0, .ref (r 40), .ref (r 41), .ref (r 42), .int 0, .ref (r 43), .ref (r 44), .ref (r 45), .int 0, .ref (r 46), .ref (r 47), .int 0, .int 0, .ref (r 48), .int 0, .ref (r 49), .int 0, .ref (r 50), .ref (r 51), .int 0, .ref (r 52), .ref (r 53), .ref (r 54), .ref (r 55), .ref (r 56), .int 0, .int 0, .int 0, .int 0, .ref (r 57), .int 0, .ref (r 58), .ref (r 59), .ref (r 60), .ref (r 61), .ref (r 62)])), ((r 27), .inl (cI, 6, .inl (fun _ => 0)))] H := hP
    have hD : va_D A [(h0, .inr (12, [.ref (r 0), .int 0, .int 0, .int 0, .int 0, .int 0, .int 0, .long 0, .int 0, .int (-1), .int 0, .int (-1), .int (-1), .int 0, .ref (r 1), .ref (r 2), .ref (r 3), .ref (r 4), .ref (r 5), .ref (r 6), .ref (r 7), .ref (r 8), .ref (r 9), .ref (r 10), .ref (r 11), .ref (r 12), .ref (r 13), .ref (r 14), .ref (r 15), .ref (r 16), .ref (r 17), .ref (r 18), .ref (r 19), .ref (r 20), .ref (r 21), .ref (r 22), .int 0, .int 1, .int 0, .ref (r 23), .ref (r 24), .ref (r 25), .ref (r 26), .int 0, .int 0, .ref (r 27), .ref (r 28), .ref (r 29), .ref (r 30), .ref (r 31), .ref (r 32), .ref (r 33), .int 0, .ref (r 34), .ref (r 35), .ref (r 36), .ref (r 37), .ref (r 38), .ref (r 39), .int 0, .int 0, .long p0.toInt64, .int 0, .ref (r 40), .ref (r 41), .ref (r 42), .int 0, .ref (r 43), .ref (r 44), .ref (r 45), .int 0, .ref (r 46), .ref (r 47), .int 0, .int 0, .ref (r 48), .int 0, .ref (r 49), .int 0, .ref (r 50), .ref (r 51), .int 0, .ref (r 52), .ref (r 53), .ref (r 54), .ref (r 55), .ref (r 56), .int 0, .int 0, .int 0, .int 0, .ref (r 57), .int 0, .ref (r 58), .ref (r 59), .ref (r 60), .ref (r 61), .ref (r 62)])), ((r 27), .inl (cI, 6, .inl (fun _ => 0)))] := hD
    refine lv_iconst (v := 1) hx hb dX12_seed_24 (by decide) ?_
    exact W.zret (v := 1) hx hb hr rfl (fun t ht hW => ⟨⟨1, (), rfl, (by rw [if_neg (by have e0 : (0 : Int32).toInt = 0 := (by decide); rw [Int32.le_iff_toInt_le] at c_1; rw [Int32.lt_iff_toInt_lt]; omega)]), trivial⟩, hS.F ht⟩) hS.2.2 dX12_seed_25
  · refine lv_aload_n hx hb dX12_seed_4 rfl (lv_at hl 0 rfl) ?_
    refine lv_iconst (v := 5) hx hb dX12_seed_5 (by decide) ?_
    have hPc := hP.sub (ws' := [(h0, .inr (12, (o12 r))), ((r 27), .inl (cI, 6, .inl (fun _ => 0)))]) [0, 1] rfl
    have hDc := hD.sub (ws' := [(h0, .inr (12, (o12 r))), ((r 27), .inl (cI, 6, .inl (fun _ => 0)))]) [0, 1] (by decide) rfl
    have hFc := va_free (wc := [(h0, .inr (12, (o12 r))), ((r 27), .inl (cI, 6, .inl (fun _ => 0)))]) hD hS hA [0, 1] rfl
    refine va_calli (va_runV (As := [.int 5]) (rest := []) ⟨hx, hb, hml, hown, hts⟩ (c_X12_refuses_5 l dC dI cI cJ h0 r s.heap.size) (cwV 1 hts gX12_seed_X12_refuses rfl rfl rfl (by decide +kernel) ⟨Nat.le_of_ble_eq_true rfl, Nat.le_of_ble_eq_true rfl⟩) ⟨mBlind, va_recv hK hPc (ci := 12) (q0 := 0) rfl rfl, mGo hPc hK hDc hN⟩ rfl rfl hl.1 rfl (lv_room (Nat.le_of_ble_eq_true rfl)) dX12_seed_6 ⟨Nat.le_of_ble_eq_true rfl, Nat.le_of_ble_eq_true rfl⟩) hS (fun q _ h => hFc q h) hFc (fun r_2 u t H1 locs ht hvm hw hB hz1 hk1 hS => ?_)
    obtain ⟨g_3, hP1, hD1⟩ := hB
    obtain rfl : r_2 = (-1) := hw
    rw [ht] at hP1
    obtain ⟨hP, hD⟩ := va_join (wr := []) (w1 := [(h0, .inr (12, (o12 r))), ((r 27), .inl (cI, 6, .inl g_3))]) hP hD [0, 1] [] rfl rfl (by decide) (by decide) hk1 hFc hP1 hD1
    generalize H1 = H at hP hS ⊢
    have hP : va_P (dC, dI) vwCl [(h0, .inr (12, (o12 r))), ((r 27), .inl (cI, 6, .inl g_3))] H := hP
    have hD : va_D A [(h0, .inr (12, (o12 r))), ((r 27), .inl (cI, 6, .inl g_3))] := hD
    refine lv_if_lt (tgt := 16) hx hb dX12_seed_9 (by decide) (fun _ => ?_) (fun c => absurd (by decide) c)
    refine lv_iconst (v := 0) hx hb dX12_seed_16 (by decide) ?_
    exact W.zret (v := 0) hx hb hr rfl (fun t ht hW => ⟨⟨0, (), rfl, (by rw [if_pos (by have e0 : (0 : Int32).toInt = 0 := (by decide); rw [Int32.le_iff_toInt_le] at c_1; rw [Int32.lt_iff_toInt_lt]; omega)]), trivial⟩, hS.F ht⟩) hS.2.2 dX12_seed_17
abbrev w0_c_X12_status (cI : ClassId) (h0 : Nat) (r : Nat → Nat) (p0 : Int32) : va_W := [(h0, .inr (12, (o12 r))), ((r 27), .inl (cI, 6, .inl (fun _ => 0)))]
set_option maxHeartbeats 4000000 in
set_option maxRecDepth 100000 in
theorem c_X12_status (l : Launch) (dC : Nat → ClassId) (dI : Nat → Nat → Nat) (cI cJ : ClassId) (h0 : Nat) (r : Nat → Nat) (p0 : Int32) (sz : Nat) : Met l yX12_status wsX12_status ({ frames := 2, cells := 0, slots := 0, locals := 82 }) (va_Pc [.ref h0, .int p0] (mPre dC dI cI cJ sz (w0_c_X12_status cI h0 r p0))) (va_Qi (fun (r : Int32) (u : Unit) => r = (if p0 < 0 then -1 else if p0 < 6 then 0 else -1)) (fun _ _ => True) (va_A (w0_c_X12_status cI h0 r p0) sz)) 0 0 (va_A (w0_c_X12_status cI h0 r p0) sz) := by
  refine Met.ofW (cc := cX12_status) (maxL := 2) (ret := (some .int)) (by decide) rfl ?_
  intro p e s m args below meth c s₁ B hml hv
  obtain ⟨rfl, hsz, hP, hK, hD0, hN⟩ := hv
  have hx := B.exec
  have hb := B.bytes
  have hr := B.returns
  have hts := atoms_spec (ws := wsX12_status) B.pre
  have hown : s.vm.findClass RX12 = some m.cls := findClass_of_methodNamed B.named
  have hlocks := B.notSynchronized
  have h_in_X12 : ∀ w ∈ wsX120, w ∈ wsX12_status := fun w h => List.mem_cons_of_mem _ (List.mem_append_right _ h)
  subst hsz
  have hD := hD0.self (sz := s.heap.size)
  generalize hAe : va_A (w0_c_X12_status cI h0 r p0) s.heap.size = A at hD ⊢
  have hA : ∀ q : Nat, s.heap.size ≤ q → A q := fun q h => by rw [← hAe]; exact Or.inr h
  have hS : va_S A s.heap s.heap [] := va_S.rf
  have hP : va_P (dC, dI) vwCl [(h0, .inr (12, (o12 r))), ((r 27), .inl (cI, 6, .inl (fun _ => 0)))] s.heap := hP
  have hD : va_D A [(h0, .inr (12, (o12 r))), ((r 27), .inl (cI, 6, .inl (fun _ => 0)))] := hD
  have hl := lv_entry ([.ref h0, .int p0]) (n := 2) (Nat.le_of_ble_eq_true rfl)
  rw [lg_entry_eq]
  generalize (lg_sl ([.ref h0, .int p0]) ++ List.replicate (2 - (lg_sl ([.ref h0, .int p0])).length) Slot.unset).toArray = ls at hl ⊢
  have hl : lv_has ls 2 [(0, .ref h0), (1, .int p0)] := hl
  refine lv_iload_n hx hb dX12_status_0 rfl (lv_at hl 1 rfl) ?_
  refine lv_iconst (v := 0) hx hb dX12_status_1 (by decide) ?_
  refine lv_iconst (v := 5) hx hb dX12_status_2 (by decide) ?_
  have hPc := hP.sub (ws' := []) [] rfl
  have hDc := hD.sub (ws' := []) [] (by decide) rfl
  have hFc := va_free (wc := []) hD hS hA [] rfl
  refine va_calli (va_runS (As := [.int p0, .int 0, .int 5]) (rest := []) ⟨hx, hb, hml, hown, hts⟩ (c_X12_is_0_5 l dC dI cI cJ p0 s.heap.size) (va_cwS 3 hts gX12_status_X12_is rfl rfl rfl (by decide +kernel) ⟨Nat.le_of_ble_eq_true rfl, Nat.le_of_ble_eq_true rfl⟩) ⟨mBlind, mGo hPc hK hDc hN⟩ rfl rfl hl.1 rfl (lv_room (Nat.le_of_ble_eq_true rfl)) dX12_status_3 ⟨Nat.le_of_ble_eq_true rfl, Nat.le_of_ble_eq_true rfl⟩) hS (fun q _ h => hFc q h) hFc (fun r_1 u t H1 locs ht hvm hw hB hz1 hk1 hS => ?_)
  obtain ⟨hP, hD⟩ := va_join (wr := [(h0, .inr (12, (o12 r))), ((r 27), .inl (cI, 6, .inl (fun _ => 0)))]) (w1 := []) hP hD [] [0, 1] rfl rfl (by decide) (by decide) hk1 hFc va_P0 va_D0
  generalize H1 = H at hP hS ⊢
  have hP : va_P (dC, dI) vwCl [(h0, .inr (12, (o12 r))), ((r 27), .inl (cI, 6, .inl (fun _ => 0)))] H := hP
  have hD : va_D A [(h0, .inr (12, (o12 r))), ((r 27), .inl (cI, 6, .inl (fun _ => 0)))] := hD
  refine lv_if_eq (tgt := 18) hx hb dX12_status_6 (by decide) (fun c_2 => ?_) (fun c_2 => ?_)
  · refine lv_iconst (v := (-1)) hx hb dX12_status_18 (by decide) ?_
    exact W.iret (v := (-1)) hx hb hr (fun t ht hW => ⟨⟨(-1), (), rfl, (is_stat_out hw c_2), trivial⟩, hS.F ht⟩) hS.2.2 dX12_status_19
  · refine lv_aload_n hx hb dX12_status_9 rfl (lv_at hl 0 rfl) ?_
    refine va_get (D := (dC, dI)) (ci := 12) (v := .ref (r 27)) (C := RX12) (T := TX12) (N := 98) hx hb hts h_in_X12 hown hK hP 0 rfl rfl 45 (by decide) (hts (.fieldLink RX12 149 "MatchTreesModel" "refused" "[I") (by decide +kernel)) (fun _ h9 => h9) rfl dX12_status_10 ?_
    refine lv_iload_n hx hb dX12_status_13 rfl (lv_at hl 1 rfl) ?_
    refine va_iald hx hb hK hP 1 0 rfl rfl (vp_in_iff.mpr (is_in hw c_2)) dX12_status_14 ?_
    refine lv_topi (fun t9 e9 => ?_)
    obtain rfl : t9 = 0 := e9
    refine lv_goto (tgt := 19) hx hb dX12_status_15 (by decide) ?_
    exact W.iret (v := 0) hx hb hr (fun t ht hW => ⟨⟨0, (), rfl, (is_stat_in hw c_2), trivial⟩, hS.F ht⟩) hS.2.2 dX12_status_19
abbrev w0_c_X12_columns (cI : ClassId) (h0 : Nat) (r : Nat → Nat) : va_W := [(h0, .inr (12, (o12 r))), ((r 10), .inl (cI, 2, .inl (fun _ => 0)))]
set_option maxHeartbeats 4000000 in
set_option maxRecDepth 100000 in
theorem c_X12_columns (l : Launch) (dC : Nat → ClassId) (dI : Nat → Nat → Nat) (cI cJ : ClassId) (h0 : Nat) (r : Nat → Nat) (sz : Nat) : Met l yX12_columns wsX12_columns ({ frames := 1, cells := 0, slots := 0, locals := 60 }) (va_Pc [.ref h0] (mPre dC dI cI cJ sz (w0_c_X12_columns cI h0 r))) (va_Qi (fun (r : Int32) (u : Unit) => r = 0) (fun (u : Unit) (t : State) => va_P (dC, dI) vwCl [(h0, .inr (12, (o12 r))), ((r 10), .inl (cI, 2, .inl (fun _ => 0)))] t.heap ∧ va_D (va_A (w0_c_X12_columns cI h0 r) sz) [(h0, .inr (12, (o12 r))), ((r 10), .inl (cI, 2, .inl (fun _ => 0)))]) (va_A (w0_c_X12_columns cI h0 r) sz)) 0 0 (va_A (w0_c_X12_columns cI h0 r) sz) := by
  refine Met.ofW (cc := cX12_columns) (maxL := 1) (ret := (some .int)) (by decide) rfl ?_
  intro p e s m args below meth c s₁ B hml hv
  obtain ⟨rfl, hsz, hP, hK, hD0, hN⟩ := hv
  have hx := B.exec
  have hb := B.bytes
  have hr := B.returns
  have hts := atoms_spec (ws := wsX12_columns) B.pre
  have hown : s.vm.findClass RX12 = some m.cls := findClass_of_methodNamed B.named
  have hlocks := B.notSynchronized
  have h_in_X12 : ∀ w ∈ wsX120, w ∈ wsX12_columns := fun w h => List.mem_cons_of_mem _ (List.mem_append_right _ h)
  subst hsz
  have hD := hD0.self (sz := s.heap.size)
  generalize hAe : va_A (w0_c_X12_columns cI h0 r) s.heap.size = A at hD ⊢
  have hA : ∀ q : Nat, s.heap.size ≤ q → A q := fun q h => by rw [← hAe]; exact Or.inr h
  have hS : va_S A s.heap s.heap [] := va_S.rf
  have hP : va_P (dC, dI) vwCl [(h0, .inr (12, (o12 r))), ((r 10), .inl (cI, 2, .inl (fun _ => 0)))] s.heap := hP
  have hD : va_D A [(h0, .inr (12, (o12 r))), ((r 10), .inl (cI, 2, .inl (fun _ => 0)))] := hD
  have hl := lv_entry ([.ref h0]) (n := 1) (Nat.le_of_ble_eq_true rfl)
  rw [lg_entry_eq]
  generalize (lg_sl ([.ref h0]) ++ List.replicate (1 - (lg_sl ([.ref h0])).length) Slot.unset).toArray = ls at hl ⊢
  have hl : lv_has ls 1 [(0, .ref h0)] := hl
  refine lv_aload_n hx hb dX12_columns_0 rfl (lv_at hl 0 rfl) ?_
  refine va_get (D := (dC, dI)) (ci := 12) (v := .ref (r 10)) (C := RX12) (T := TX12) (N := 98) hx hb hts h_in_X12 hown hK hP 0 rfl rfl 23 (by decide) (hts (.fieldLink RX12 81 "MatchTreesModel" "columnMany" "[I") (by decide +kernel)) (fun _ h9 => h9) rfl dX12_columns_1 ?_
  refine lv_aload_n hx hb dX12_columns_4 rfl (lv_at hl 0 rfl) ?_
  refine va_get (D := (dC, dI)) (ci := 12) (v := .int 0) (C := RX12) (T := TX12) (N := 98) hx hb hts h_in_X12 hown hK hP 0 rfl rfl 13 (by decide) (hts (.fieldLink RX12 51 "MatchTreesModel" "bank" "I") (by decide +kernel)) (fun _ h9 => h9) rfl dX12_columns_5 ?_
  refine va_iald hx hb hK hP 1 0 rfl rfl (vpd (by decide)) dX12_columns_8 ?_
  refine lv_topi (fun t9 e9 => ?_)
  obtain rfl : t9 = 0 := e9
  have hP9 := hP.sub (ws' := [(h0, .inr (12, (o12 r))), ((r 10), .inl (cI, 2, .inl (fun _ => 0)))]) [0, 1] rfl
  have hD9 := hD.sub (ws' := [(h0, .inr (12, (o12 r))), ((r 10), .inl (cI, 2, .inl (fun _ => 0)))]) [0, 1] (by decide) rfl
  exact W.iret (v := 0) hx hb hr (fun t ht hW => ⟨⟨0, (), rfl, rfl, by rw [ht]; exact hP9, hD9⟩, hS.F ht⟩) hS.2.2 dX12_columns_9
abbrev w0_c_X12_has (cI : ClassId) (h0 : Nat) (r : Nat → Nat) (p0 : Int32) : va_W := [(h0, .inr (12, (o12 r))), ((r 1), .inl (cI, 2, .inl (fun _ => 0))), ((r 4), .inl (cI, 2, .inl (fun _ => 0))), ((r 10), .inl (cI, 2, .inl (fun _ => 0))), ((r 34), .inl (cI, 22, .inl (fun _ => 0))), ((r 36), .inl (cI, 22, .inl (fun _ => 0))), ((r 37), .inl (cI, 22, .inl (fun _ => 0))), ((r 38), .inl (cI, 22, .inl (fun _ => 0)))]
set_option maxHeartbeats 4000000 in
set_option maxRecDepth 100000 in
theorem c_X12_has (l : Launch) (dC : Nat → ClassId) (dI : Nat → Nat → Nat) (cI cJ : ClassId) (h0 : Nat) (r : Nat → Nat) (p0 : Int32) (sz : Nat) : Met l yX12_has wsX12_has ({ frames := 2, cells := 0, slots := 0, locals := 80 }) (va_Pc [.ref h0, .int p0] (mPre dC dI cI cJ sz (w0_c_X12_has cI h0 r p0))) (va_Qi (fun (r : Int32) (u : Unit) => r = hasV p0) (fun _ _ => True) (va_A (w0_c_X12_has cI h0 r p0) sz)) 0 0 (va_A (w0_c_X12_has cI h0 r p0) sz) := by
  refine Met.ofW (cc := cX12_has) (maxL := 2) (ret := (some .int)) (by decide) rfl ?_
  intro p e s m args below meth c s₁ B hml hv
  obtain ⟨rfl, hsz, hP, hK, hD0, hN⟩ := hv
  have hx := B.exec
  have hb := B.bytes
  have hr := B.returns
  have hts := atoms_spec (ws := wsX12_has) B.pre
  have hown : s.vm.findClass RX12 = some m.cls := findClass_of_methodNamed B.named
  have hlocks := B.notSynchronized
  have h_in_X12 : ∀ w ∈ wsX120, w ∈ wsX12_has := fun w h => List.mem_cons_of_mem _ (List.mem_append_right _ h)
  subst hsz
  have hD := hD0.self (sz := s.heap.size)
  generalize hAe : va_A (w0_c_X12_has cI h0 r p0) s.heap.size = A at hD ⊢
  have hA : ∀ q : Nat, s.heap.size ≤ q → A q := fun q h => by rw [← hAe]; exact Or.inr h
  have hS : va_S A s.heap s.heap [] := va_S.rf
  have hP : va_P (dC, dI) vwCl [(h0, .inr (12, (o12 r))), ((r 1), .inl (cI, 2, .inl (fun _ => 0))), ((r 4), .inl (cI, 2, .inl (fun _ => 0))), ((r 10), .inl (cI, 2, .inl (fun _ => 0))), ((r 34), .inl (cI, 22, .inl (fun _ => 0))), ((r 36), .inl (cI, 22, .inl (fun _ => 0))), ((r 37), .inl (cI, 22, .inl (fun _ => 0))), ((r 38), .inl (cI, 22, .inl (fun _ => 0)))] s.heap := hP
  have hD : va_D A [(h0, .inr (12, (o12 r))), ((r 1), .inl (cI, 2, .inl (fun _ => 0))), ((r 4), .inl (cI, 2, .inl (fun _ => 0))), ((r 10), .inl (cI, 2, .inl (fun _ => 0))), ((r 34), .inl (cI, 22, .inl (fun _ => 0))), ((r 36), .inl (cI, 22, .inl (fun _ => 0))), ((r 37), .inl (cI, 22, .inl (fun _ => 0))), ((r 38), .inl (cI, 22, .inl (fun _ => 0)))] := hD
  have hl := lv_entry ([.ref h0, .int p0]) (n := 2) (Nat.le_of_ble_eq_true rfl)
  rw [lg_entry_eq]
  generalize (lg_sl ([.ref h0, .int p0]) ++ List.replicate (2 - (lg_sl ([.ref h0, .int p0])).length) Slot.unset).toArray = ls at hl ⊢
  have hl : lv_has ls 2 [(0, .ref h0), (1, .int p0)] := hl
  refine lv_iload_n hx hb dX12_has_0 rfl (lv_at hl 1 rfl) ?_
  rcases sw_cases p0 11 (by decide) with h_sw | ⟨j_sw, hj_sw, e_sw⟩
  · refine lv_tableOut (tgt := 145) hx hb dX12_has_1 (h_sw.imp id (fun q => q)) (by decide) ?_
    refine lv_iconst (v := (-1)) hx hb dX12_has_145 (by decide) ?_
    exact W.iret (v := (-1)) hx hb hr (fun t ht hW => ⟨⟨(-1), (), rfl, (has_out h_sw), trivial⟩, hS.F ht⟩) hS.2.2 dX12_has_146
  · subst e_sw
    rcases (show j_sw = 0 ∨ j_sw = 1 ∨ j_sw = 2 ∨ j_sw = 3 ∨ j_sw = 4 ∨ j_sw = 5 ∨ j_sw = 6 ∨ j_sw = 7 ∨ j_sw = 8 ∨ j_sw = 9 ∨ j_sw = 10 by omega) with rfl | rfl | rfl | rfl | rfl | rfl | rfl | rfl | rfl | rfl | rfl
    · refine lv_tableIn (tgt := 60) (off := 59) hx hb dX12_has_1 (by decide) (by decide) (by decide) (by decide) ?_
      refine lv_aload_n hx hb dX12_has_60 rfl (lv_at hl 0 rfl) ?_
      refine va_get (D := (dC, dI)) (ci := 12) (v := .ref (r 1)) (C := RX12) (T := TX12) (N := 98) hx hb hts h_in_X12 hown hK hP 0 rfl rfl 14 (by decide) (hts (.fieldLink RX12 54 "MatchTreesModel" "kindMany" "[I") (by decide +kernel)) (fun _ h9 => h9) rfl dX12_has_61 ?_
      refine lv_aload_n hx hb dX12_has_64 rfl (lv_at hl 0 rfl) ?_
      refine va_get (D := (dC, dI)) (ci := 12) (v := .int 0) (C := RX12) (T := TX12) (N := 98) hx hb hts h_in_X12 hown hK hP 0 rfl rfl 13 (by decide) (hts (.fieldLink RX12 51 "MatchTreesModel" "bank" "I") (by decide +kernel)) (fun _ h9 => h9) rfl dX12_has_65 ?_
      refine va_iald hx hb hK hP 1 0 rfl rfl (vpd (by decide)) dX12_has_68 ?_
      refine lv_topi (fun t9 e9 => ?_)
      obtain rfl : t9 = 0 := e9
      exact W.iret (v := 0) hx hb hr (fun t ht hW => ⟨⟨0, (), rfl, (by decide), trivial⟩, hS.F ht⟩) hS.2.2 dX12_has_69
    · refine lv_tableIn (tgt := 70) (off := 69) hx hb dX12_has_1 (by decide) (by decide) (by decide) (by decide) ?_
      refine lv_aload_n hx hb dX12_has_70 rfl (lv_at hl 0 rfl) ?_
      refine va_get (D := (dC, dI)) (ci := 12) (v := .ref (r 4)) (C := RX12) (T := TX12) (N := 98) hx hb hts h_in_X12 hown hK hP 0 rfl rfl 17 (by decide) (hts (.fieldLink RX12 63 "MatchTreesModel" "conMany" "[I") (by decide +kernel)) (fun _ h9 => h9) rfl dX12_has_71 ?_
      refine lv_aload_n hx hb dX12_has_74 rfl (lv_at hl 0 rfl) ?_
      refine va_get (D := (dC, dI)) (ci := 12) (v := .int 0) (C := RX12) (T := TX12) (N := 98) hx hb hts h_in_X12 hown hK hP 0 rfl rfl 13 (by decide) (hts (.fieldLink RX12 51 "MatchTreesModel" "bank" "I") (by decide +kernel)) (fun _ h9 => h9) rfl dX12_has_75 ?_
      refine va_iald hx hb hK hP 2 0 rfl rfl (vpd (by decide)) dX12_has_78 ?_
      refine lv_topi (fun t9 e9 => ?_)
      obtain rfl : t9 = 0 := e9
      exact W.iret (v := 0) hx hb hr (fun t ht hW => ⟨⟨0, (), rfl, (by decide), trivial⟩, hS.F ht⟩) hS.2.2 dX12_has_79
    · refine lv_tableIn (tgt := 80) (off := 79) hx hb dX12_has_1 (by decide) (by decide) (by decide) (by decide) ?_
      refine lv_aload_n hx hb dX12_has_80 rfl (lv_at hl 0 rfl) ?_
      have hPc := hP.sub (ws' := [(h0, .inr (12, (o12 r))), ((r 10), .inl (cI, 2, .inl (fun _ => 0)))]) [0, 3] rfl
      have hDc := hD.sub (ws' := [(h0, .inr (12, (o12 r))), ((r 10), .inl (cI, 2, .inl (fun _ => 0)))]) [0, 3] (by decide) rfl
      have hFc := va_free (wc := [(h0, .inr (12, (o12 r))), ((r 10), .inl (cI, 2, .inl (fun _ => 0)))]) hD hS hA [0, 3] rfl
      refine va_calli (va_runV (As := []) (rest := []) ⟨hx, hb, hml, hown, hts⟩ (c_X12_columns l dC dI cI cJ h0 r s.heap.size) (cwV 0 hts gX12_has_X12_columns rfl rfl rfl (by decide +kernel) ⟨Nat.le_of_ble_eq_true rfl, Nat.le_of_ble_eq_true rfl⟩) ⟨mBlind, va_recv hK hPc (ci := 12) (q0 := 0) rfl rfl, mGo hPc hK hDc hN⟩ rfl rfl hl.1 rfl (lv_room (Nat.le_of_ble_eq_true rfl)) dX12_has_81 ⟨Nat.le_of_ble_eq_true rfl, Nat.le_of_ble_eq_true rfl⟩) hS (fun q _ h => hFc q h) hFc (fun r_1 u t H1 locs ht hvm hw hB hz1 hk1 hS => ?_)
      obtain ⟨hP1, hD1⟩ := hB
      obtain rfl : r_1 = 0 := hw
      rw [ht] at hP1
      obtain ⟨hP, hD⟩ := va_join (wr := [((r 1), .inl (cI, 2, .inl (fun _ => 0))), ((r 4), .inl (cI, 2, .inl (fun _ => 0))), ((r 34), .inl (cI, 22, .inl (fun _ => 0))), ((r 36), .inl (cI, 22, .inl (fun _ => 0))), ((r 37), .inl (cI, 22, .inl (fun _ => 0))), ((r 38), .inl (cI, 22, .inl (fun _ => 0)))]) (w1 := [(h0, .inr (12, (o12 r))), ((r 10), .inl (cI, 2, .inl (fun _ => 0)))]) hP hD [0, 3] [1, 2, 4, 5, 6, 7] rfl rfl (by decide) (by decide) hk1 hFc hP1 hD1
      generalize H1 = H at hP hS ⊢
      have hP : va_P (dC, dI) vwCl [((r 1), .inl (cI, 2, .inl (fun _ => 0))), ((r 4), .inl (cI, 2, .inl (fun _ => 0))), ((r 34), .inl (cI, 22, .inl (fun _ => 0))), ((r 36), .inl (cI, 22, .inl (fun _ => 0))), ((r 37), .inl (cI, 22, .inl (fun _ => 0))), ((r 38), .inl (cI, 22, .inl (fun _ => 0))), (h0, .inr (12, (o12 r))), ((r 10), .inl (cI, 2, .inl (fun _ => 0)))] H := hP
      have hD : va_D A [((r 1), .inl (cI, 2, .inl (fun _ => 0))), ((r 4), .inl (cI, 2, .inl (fun _ => 0))), ((r 34), .inl (cI, 22, .inl (fun _ => 0))), ((r 36), .inl (cI, 22, .inl (fun _ => 0))), ((r 37), .inl (cI, 22, .inl (fun _ => 0))), ((r 38), .inl (cI, 22, .inl (fun _ => 0))), (h0, .inr (12, (o12 r))), ((r 10), .inl (cI, 2, .inl (fun _ => 0)))] := hD
      exact W.iret (v := 0) hx hb hr (fun t ht hW => ⟨⟨0, (), rfl, (by decide), trivial⟩, hS.F ht⟩) hS.2.2 dX12_has_84
    · refine lv_tableIn (tgt := 85) (off := 84) hx hb dX12_has_1 (by decide) (by decide) (by decide) (by decide) ?_
      refine lv_aload_n hx hb dX12_has_85 rfl (lv_at hl 0 rfl) ?_
      refine va_get (D := (dC, dI)) (ci := 12) (v := .int 0) (C := RX12) (T := TX12) (N := 98) hx hb hts h_in_X12 hown hK hP 0 rfl rfl 44 (by decide) (hts (.fieldLink RX12 146 "MatchTreesModel" "isMatch" "Z") (by decide +kernel)) (fun _ h9 => h9) rfl dX12_has_86 ?_
      refine lv_if_eq (tgt := 99) hx hb dX12_has_89 (by decide) (fun _ => ?_) (fun c => absurd (by decide) c)
      refine lv_iconst (v := 0) hx hb dX12_has_99 (by decide) ?_
      exact W.iret (v := 0) hx hb hr (fun t ht hW => ⟨⟨0, (), rfl, (by decide), trivial⟩, hS.F ht⟩) hS.2.2 dX12_has_100
    · refine lv_tableIn (tgt := 101) (off := 100) hx hb dX12_has_1 (by decide) (by decide) (by decide) (by decide) ?_
      refine lv_aload_n hx hb dX12_has_101 rfl (lv_at hl 0 rfl) ?_
      refine va_get (D := (dC, dI)) (ci := 12) (v := .ref (r 34)) (C := RX12) (T := TX12) (N := 98) hx hb hts h_in_X12 hown hK hP 0 rfl rfl 53 (by decide) (hts (.fieldLink RX12 173 "MatchTreesModel" "armsOf" "[I") (by decide +kernel)) (fun _ h9 => h9) rfl dX12_has_102 ?_
      refine lv_iconst (v := 0) hx hb dX12_has_105 (by decide) ?_
      refine va_iald hx hb hK hP 4 0 rfl rfl (vpd (by decide)) dX12_has_106 ?_
      refine lv_topi (fun t9 e9 => ?_)
      obtain rfl : t9 = 0 := e9
      exact W.iret (v := 0) hx hb hr (fun t ht hW => ⟨⟨0, (), rfl, (by decide), trivial⟩, hS.F ht⟩) hS.2.2 dX12_has_107
    · refine lv_tableIn (tgt := 108) (off := 107) hx hb dX12_has_1 (by decide) (by decide) (by decide) (by decide) ?_
      refine lv_aload_n hx hb dX12_has_108 rfl (lv_at hl 0 rfl) ?_
      refine va_get (D := (dC, dI)) (ci := 12) (v := .ref (r 36)) (C := RX12) (T := TX12) (N := 98) hx hb hts h_in_X12 hown hK hP 0 rfl rfl 55 (by decide) (hts (.fieldLink RX12 179 "MatchTreesModel" "guardsOf" "[I") (by decide +kernel)) (fun _ h9 => h9) rfl dX12_has_109 ?_
      refine lv_iconst (v := 0) hx hb dX12_has_112 (by decide) ?_
      refine va_iald hx hb hK hP 5 0 rfl rfl (vpd (by decide)) dX12_has_113 ?_
      refine lv_topi (fun t9 e9 => ?_)
      obtain rfl : t9 = 0 := e9
      exact W.iret (v := 0) hx hb hr (fun t ht hW => ⟨⟨0, (), rfl, (by decide), trivial⟩, hS.F ht⟩) hS.2.2 dX12_has_114
    · refine lv_tableIn (tgt := 115) (off := 114) hx hb dX12_has_1 (by decide) (by decide) (by decide) (by decide) ?_
      refine lv_aload_n hx hb dX12_has_115 rfl (lv_at hl 0 rfl) ?_
      refine va_get (D := (dC, dI)) (ci := 12) (v := .ref (r 37)) (C := RX12) (T := TX12) (N := 98) hx hb hts h_in_X12 hown hK hP 0 rfl rfl 56 (by decide) (hts (.fieldLink RX12 182 "MatchTreesModel" "ruleOf" "[I") (by decide +kernel)) (fun _ h9 => h9) rfl dX12_has_116 ?_
      refine lv_iconst (v := 0) hx hb dX12_has_119 (by decide) ?_
      refine va_iald hx hb hK hP 6 0 rfl rfl (vpd (by decide)) dX12_has_120 ?_
      refine lv_topi (fun t9 e9 => ?_)
      obtain rfl : t9 = 0 := e9
      exact W.iret (v := 0) hx hb hr (fun t ht hW => ⟨⟨0, (), rfl, (by decide), trivial⟩, hS.F ht⟩) hS.2.2 dX12_has_121
    · refine lv_tableIn (tgt := 122) (off := 121) hx hb dX12_has_1 (by decide) (by decide) (by decide) (by decide) ?_
      refine lv_aload_n hx hb dX12_has_122 rfl (lv_at hl 0 rfl) ?_
      refine va_get (D := (dC, dI)) (ci := 12) (v := .ref (r 38)) (C := RX12) (T := TX12) (N := 98) hx hb hts h_in_X12 hown hK hP 0 rfl rfl 57 (by decide) (hts (.fieldLink RX12 185 "MatchTreesModel" "keptMany" "[I") (by decide +kernel)) (fun _ h9 => h9) rfl dX12_has_123 ?_
      refine lv_iconst (v := 0) hx hb dX12_has_126 (by decide) ?_
      refine va_iald hx hb hK hP 7 0 rfl rfl (vpd (by decide)) dX12_has_127 ?_
      refine lv_topi (fun t9 e9 => ?_)
      obtain rfl : t9 = 0 := e9
      exact W.iret (v := 0) hx hb hr (fun t ht hW => ⟨⟨0, (), rfl, (by decide), trivial⟩, hS.F ht⟩) hS.2.2 dX12_has_128
    · refine lv_tableIn (tgt := 129) (off := 128) hx hb dX12_has_1 (by decide) (by decide) (by decide) (by decide) ?_
      refine lv_aload_n hx hb dX12_has_129 rfl (lv_at hl 0 rfl) ?_
      refine va_get (D := (dC, dI)) (ci := 12) (v := .int 0) (C := RX12) (T := TX12) (N := 98) hx hb hts h_in_X12 hown hK hP 0 rfl rfl 92 (by decide) (hts (.fieldLink RX12 291 "MatchTreesModel" "seenMany" "I") (by decide +kernel)) (fun _ h9 => h9) rfl dX12_has_130 ?_
      exact W.iret (v := 0) hx hb hr (fun t ht hW => ⟨⟨0, (), rfl, (by decide), trivial⟩, hS.F ht⟩) hS.2.2 dX12_has_133
    · refine lv_tableIn (tgt := 134) (off := 133) hx hb dX12_has_1 (by decide) (by decide) (by decide) (by decide) ?_
      refine lv_aload_n hx hb dX12_has_134 rfl (lv_at hl 0 rfl) ?_
      refine va_get (D := (dC, dI)) (ci := 12) (v := .int 0) (C := RX12) (T := TX12) (N := 98) hx hb hts h_in_X12 hown hK hP 0 rfl rfl 60 (by decide) (hts (.fieldLink RX12 194 "MatchTreesModel" "undos" "I") (by decide +kernel)) (fun _ h9 => h9) rfl dX12_has_135 ?_
      exact W.iret (v := 0) hx hb hr (fun t ht hW => ⟨⟨0, (), rfl, (by decide), trivial⟩, hS.F ht⟩) hS.2.2 dX12_has_138
    · refine lv_tableIn (tgt := 139) (off := 138) hx hb dX12_has_1 (by decide) (by decide) (by decide) (by decide) ?_
      refine lv_aload_n hx hb dX12_has_139 rfl (lv_at hl 0 rfl) ?_
      refine va_get (D := (dC, dI)) (ci := 12) (v := .long 1) (C := RX12) (T := TX12) (N := 98) hx hb hts h_in_X12 hown hK hP 0 rfl rfl 61 (by decide) (hts (.fieldLink RX12 197 "MatchTreesModel" "seeds" "J") (by decide +kernel)) (fun _ h9 => h9) rfl dX12_has_140 ?_
      refine lv_l2i (v := 1) hx hb dX12_has_143 (by decide) ?_
      exact W.iret (v := 1) hx hb hr (fun t ht hW => ⟨⟨1, (), rfl, (by decide), trivial⟩, hS.F ht⟩) hS.2.2 dX12_has_144
abbrev w0_c_X12_put (cI : ClassId) (h0 : Nat) (r : Nat → Nat) (k : Nat) (f : Nat → Int32) (p0 : Int32) : va_W := [(h0, .inr (12, (o12t r (nI k)))), ((r 0), .inl (cI, 1800, .inl f))]
set_option maxHeartbeats 4000000 in
set_option maxRecDepth 100000 in
theorem c_X12_put (l : Launch) (dC : Nat → ClassId) (dI : Nat → Nat → Nat) (cI cJ : ClassId) (h0 : Nat) (r : Nat → Nat) (k : Nat) (f : Nat → Int32) (p0 : Int32) (sz : Nat) (hk : k + 4 ≤ 1800) : Met l yX12_put wsX12_put ({ frames := 1, cells := 0, slots := 0, locals := 60 }) (va_Pc [.ref h0, .int p0] (mPre dC dI cI cJ sz (w0_c_X12_put cI h0 r k f p0))) (va_Qv (fun _ : Unit => True) (fun (u : Unit) (t : State) => ∃ (g : Nat → Int32), va_P (dC, dI) vwCl [(h0, .inr (12, (o12t r (nI (k + 4))))), ((r 0), .inl (cI, 1800, .inl g))] t.heap ∧ va_D (va_A (w0_c_X12_put cI h0 r k f p0) sz) [(h0, .inr (12, (o12t r (nI (k + 4))))), ((r 0), .inl (cI, 1800, .inl g))]) (va_A (w0_c_X12_put cI h0 r k f p0) sz)) 0 0 (va_A (w0_c_X12_put cI h0 r k f p0) sz) := by
  refine Met.ofW (cc := cX12_put) (maxL := 3) (ret := none) (by decide) rfl ?_
  intro p e s m args below meth c s₁ B hml hv
  obtain ⟨rfl, hsz, hP, hK, hD0, hN⟩ := hv
  have hx := B.exec
  have hb := B.bytes
  have hr := B.returns
  have hts := atoms_spec (ws := wsX12_put) B.pre
  have hown : s.vm.findClass RX12 = some m.cls := findClass_of_methodNamed B.named
  have hlocks := B.notSynchronized
  have h_in_X12 : ∀ w ∈ wsX120, w ∈ wsX12_put := fun w h => List.mem_cons_of_mem _ (List.mem_append_right _ h)
  subst hsz
  have hD := hD0.self (sz := s.heap.size)
  generalize hAe : va_A (w0_c_X12_put cI h0 r k f p0) s.heap.size = A at hD ⊢
  have hA : ∀ q : Nat, s.heap.size ≤ q → A q := fun q h => by rw [← hAe]; exact Or.inr h
  have hS : va_S A s.heap s.heap [] := va_S.rf
  have hP : va_P (dC, dI) vwCl [(h0, .inr (12, (o12t r (nI k)))), ((r 0), .inl (cI, 1800, .inl f))] s.heap := hP
  have hD : va_D A [(h0, .inr (12, (o12t r (nI k)))), ((r 0), .inl (cI, 1800, .inl f))] := hD
  have hl := lv_entry ([.ref h0, .int p0]) (n := 3) (Nat.le_of_ble_eq_true rfl)
  rw [lg_entry_eq]
  generalize (lg_sl ([.ref h0, .int p0]) ++ List.replicate (3 - (lg_sl ([.ref h0, .int p0])).length) Slot.unset).toArray = ls at hl ⊢
  have hl : lv_has ls 3 [(0, .ref h0), (1, .int p0)] := hl
  refine lv_bipush (v := 24) hx hb dX12_put_0 (by decide) ?_
  refine lv_istore_n (lv' := [(2, .int 24), (0, .ref h0), (1, .int p0)]) hx hb dX12_put_2 rfl hl (by decide) rfl (fun ls hl => ?_)
  refine lv_iload_n hx hb dX12_put_3 rfl (lv_at hl 0 rfl) ?_
  refine lv_if_lt (tgt := 39) hx hb dX12_put_4 (by decide) (fun c => absurd c (by decide)) (fun _ => ?_)
  refine lv_aload_n hx hb dX12_put_7 rfl (lv_at hl 1 rfl) ?_
  refine va_get (D := (dC, dI)) (ci := 12) (v := .ref (r 0)) (C := RX12) (T := TX12) (N := 98) hx hb hts h_in_X12 hown hK hP 0 rfl rfl 0 (by decide) (hts (.fieldLink RX12 7 "MatchTreesModel" "tape" "[I") (by decide +kernel)) (fun _ h9 => h9) rfl dX12_put_8 ?_
  refine lv_aload_n hx hb dX12_put_11 rfl (lv_at hl 1 rfl) ?_
  refine va_get (D := (dC, dI)) (ci := 12) (v := .int (nI k)) (C := RX12) (T := TX12) (N := 98) hx hb hts h_in_X12 hown hK hP 0 rfl rfl 1 (by decide) (hts (.fieldLink RX12 13 "MatchTreesModel" "taped" "I") (by decide +kernel)) (fun _ h9 => h9) rfl dX12_put_12 ?_
  refine lv_iload_n hx hb dX12_put_15 rfl (lv_at hl 2 rfl) ?_
  refine lv_iload_n hx hb dX12_put_16 rfl (lv_at hl 0 rfl) ?_
  refine lv_ishr hx hb dX12_put_17 ?_
  refine lv_topi (fun f_1 e_f_1 => ?_)
  refine lv_sipush (v := 255) hx hb dX12_put_18 (by decide) ?_
  refine lv_iand hx hb dX12_put_21 ?_
  refine lv_topi (fun f_2 e_f_2 => ?_)
  refine va_iast hx hb hK hP hD hS 1 0 rfl rfl (vp_in_nI (by omega) (by decide)) dX12_put_22 (fun H locs hP hD hS => ?_)
  obtain ⟨g_3, e_g_3⟩ : ∃ y : Nat → Int32, y = upd f ((nI k) : Int32).toNatClampNeg f_2 := ⟨_, rfl⟩
  have hP : va_P (dC, dI) vwCl [(h0, .inr (12, (o12t r (nI k)))), ((r 0), .inl (cI, 1800, .inl g_3))] H := by rw [e_g_3]; exact hP
  have hD : va_D A [(h0, .inr (12, (o12t r (nI k)))), ((r 0), .inl (cI, 1800, .inl g_3))] := by rw [e_g_3]; exact hD
  refine lv_aload_n hx hb dX12_put_23 rfl (lv_at hl 1 rfl) ?_
  refine lv_dup hx hb dX12_put_24 rfl ?_
  refine va_get (D := (dC, dI)) (ci := 12) (v := .int (nI k)) (C := RX12) (T := TX12) (N := 98) hx hb hts h_in_X12 hown hK hP 0 rfl rfl 1 (by decide) (hts (.fieldLink RX12 13 "MatchTreesModel" "taped" "I") (by decide +kernel)) (fun _ h9 => h9) rfl dX12_put_25 ?_
  refine lv_iconst (v := 1) hx hb dX12_put_28 (by decide) ?_
  refine k_iadd (v := nI (k + 1)) hx hb (nI_1 k) dX12_put_29 ?_
  refine va_put (D := (dC, dI)) (ci := 12) (v := .int (nI (k + 1))) (ty := .int) (C := RX12) (T := TX12) (N := 98) hx hb hts h_in_X12 tyX12 tyX12_ok nmX12 hown hK hP hD hS 0 rfl rfl 1 (by decide) (hts (.fieldLink RX12 13 "MatchTreesModel" "taped" "I") (by decide +kernel)) (fun _ h9 => h9) rfl (by decide +kernel) rfl rfl (Nat.le_of_ble_eq_true rfl) dX12_put_30 (fun H locs hP hD hS => ?_)
  have hP : va_P (dC, dI) vwCl [(h0, .inr (12, [.ref (r 0), .int (nI (k + 1)), .int 0, .int 0, .int 0, .int 0, .int 0, .long 0, .int 0, .int (-1), .int 0, .int (-1), .int (-1), .int 0, .ref (r 1), .ref (r 2), .ref (r 3), .ref (r 4), .ref (r 5), .ref (r 6), .ref (r 7), .ref (r 8), .ref (r 9), .ref (r 10), .ref (r 11), .ref (r 12), .ref (r 13), .ref (r 14), .ref (r 15), .ref (r 16), .ref (r 17), .ref (r 18), .ref (r 19), .ref (r 20), .ref (r 21), .ref (r 22), .int 0, .int 1, .int 0, .ref (r 23), .ref (r 24), .ref (r 25), .ref (r 26), .int 0, .int 0, .ref (r 27), .ref (r 28), .ref (r 29), .ref (r 30), .ref (r 31), .ref (r 32), .ref (r 33), .int 0, .ref (r 34), .ref (r 35), .ref (r 36), .ref (r 37), .ref (r 38), .ref (r 39), .int 0, .int 0, .long 1, .int 0, .ref (r 40), .ref (r 41), .ref (r 42), .int 0, .ref (r 43), .ref (r 44), .ref (r 45), .int 0, .ref (r 46), .ref (r 47), .int 0, .int 0, .ref (r 48), .int 0, .ref (r 49), .int 0, .ref (r 50), .ref (r 51), .int 0, .ref (r 52), .ref (r 53), .ref (r 54), .ref (r 55), .ref (r 56), .int 0, .int 0, .int 0, .int 0, .ref (r 57), .int 0, .ref (r 58), .ref (r 59), .ref (r 60), .ref (r 61), .ref (r 62)])), ((r 0), .inl (cI, 1800, .inl g_3))] H := hP
  have hD : va_D A [(h0, .inr (12, [.ref (r 0), .int (nI (k + 1)), .int 0, .int 0, .int 0, .int 0, .int 0, .long 0, .int 0, .int (-1), .int 0, .int (-1), .int (-1), .int 0, .ref (r 1), .ref (r 2), .ref (r 3), .ref (r 4), .ref (r 5), .ref (r 6), .ref (r 7), .ref (r 8), .ref (r 9), .ref (r 10), .ref (r 11), .ref (r 12), .ref (r 13), .ref (r 14), .ref (r 15), .ref (r 16), .ref (r 17), .ref (r 18), .ref (r 19), .ref (r 20), .ref (r 21), .ref (r 22), .int 0, .int 1, .int 0, .ref (r 23), .ref (r 24), .ref (r 25), .ref (r 26), .int 0, .int 0, .ref (r 27), .ref (r 28), .ref (r 29), .ref (r 30), .ref (r 31), .ref (r 32), .ref (r 33), .int 0, .ref (r 34), .ref (r 35), .ref (r 36), .ref (r 37), .ref (r 38), .ref (r 39), .int 0, .int 0, .long 1, .int 0, .ref (r 40), .ref (r 41), .ref (r 42), .int 0, .ref (r 43), .ref (r 44), .ref (r 45), .int 0, .ref (r 46), .ref (r 47), .int 0, .int 0, .ref (r 48), .int 0, .ref (r 49), .int 0, .ref (r 50), .ref (r 51), .int 0, .ref (r 52), .ref (r 53), .ref (r 54), .ref (r 55), .ref (r 56), .int 0, .int 0, .int 0, .int 0, .ref (r 57), .int 0, .ref (r 58), .ref (r 59), .ref (r 60), .ref (r 61), .ref (r 62)])), ((r 0), .inl (cI, 1800, .inl g_3))] := hD
  refine lv_iinc (v := 16) (lv' := [(2, .int 16), (0, .ref h0), (1, .int p0)]) hx hb dX12_put_33 hl (k := 0) rfl (by decide) (by decide) rfl (fun ls hl => ?_)
  refine lv_goto (tgt := 3) hx hb dX12_put_36 (by decide) ?_
  refine lv_iload_n hx hb dX12_put_3 rfl (lv_at hl 0 rfl) ?_
  refine lv_if_lt (tgt := 39) hx hb dX12_put_4 (by decide) (fun c => absurd c (by decide)) (fun _ => ?_)
  refine lv_aload_n hx hb dX12_put_7 rfl (lv_at hl 1 rfl) ?_
  refine va_get (D := (dC, dI)) (ci := 12) (v := .ref (r 0)) (C := RX12) (T := TX12) (N := 98) hx hb hts h_in_X12 hown hK hP 0 rfl rfl 0 (by decide) (hts (.fieldLink RX12 7 "MatchTreesModel" "tape" "[I") (by decide +kernel)) (fun _ h9 => h9) rfl dX12_put_8 ?_
  refine lv_aload_n hx hb dX12_put_11 rfl (lv_at hl 1 rfl) ?_
  refine va_get (D := (dC, dI)) (ci := 12) (v := .int (nI (k + 1))) (C := RX12) (T := TX12) (N := 98) hx hb hts h_in_X12 hown hK hP 0 rfl rfl 1 (by decide) (hts (.fieldLink RX12 13 "MatchTreesModel" "taped" "I") (by decide +kernel)) (fun _ h9 => h9) rfl dX12_put_12 ?_
  refine lv_iload_n hx hb dX12_put_15 rfl (lv_at hl 2 rfl) ?_
  refine lv_iload_n hx hb dX12_put_16 rfl (lv_at hl 0 rfl) ?_
  refine lv_ishr hx hb dX12_put_17 ?_
  refine lv_topi (fun f_4 e_f_4 => ?_)
  refine lv_sipush (v := 255) hx hb dX12_put_18 (by decide) ?_
  refine lv_iand hx hb dX12_put_21 ?_
  refine lv_topi (fun f_5 e_f_5 => ?_)
  refine va_iast hx hb hK hP hD hS 1 0 rfl rfl (vp_in_nI (by omega) (by decide)) dX12_put_22 (fun H locs hP hD hS => ?_)
  obtain ⟨g_6, e_g_6⟩ : ∃ y : Nat → Int32, y = upd g_3 ((nI (k + 1)) : Int32).toNatClampNeg f_5 := ⟨_, rfl⟩
  have hP : va_P (dC, dI) vwCl [(h0, .inr (12, [.ref (r 0), .int (nI (k + 1)), .int 0, .int 0, .int 0, .int 0, .int 0, .long 0, .int 0, .int (-1), .int 0, .int (-1), .int (-1), .int 0, .ref (r 1), .ref (r 2), .ref (r 3), .ref (r 4), .ref (r 5), .ref (r 6), .ref (r 7), .ref (r 8), .ref (r 9), .ref (r 10), .ref (r 11), .ref (r 12), .ref (r 13), .ref (r 14), .ref (r 15), .ref (r 16), .ref (r 17), .ref (r 18), .ref (r 19), .ref (r 20), .ref (r 21), .ref (r 22), .int 0, .int 1, .int 0, .ref (r 23), .ref (r 24), .ref (r 25), .ref (r 26), .int 0, .int 0, .ref (r 27), .ref (r 28), .ref (r 29), .ref (r 30), .ref (r 31), .ref (r 32), .ref (r 33), .int 0, .ref (r 34), .ref (r 35), .ref (r 36), .ref (r 37), .ref (r 38), .ref (r 39), .int 0, .int 0, .long 1, .int 0, .ref (r 40), .ref (r 41), .ref (r 42), .int 0, .ref (r 43), .ref (r 44), .ref (r 45), .int 0, .ref (r 46), .ref (r 47), .int 0, .int 0, .ref (r 48), .int 0, .ref (r 49), .int 0, .ref (r 50), .ref (r 51), .int 0, .ref (r 52), .ref (r 53), .ref (r 54), .ref (r 55), .ref (r 56), .int 0, .int 0, .int 0, .int 0, .ref (r 57), .int 0, .ref (r 58), .ref (r 59), .ref (r 60), .ref (r 61), .ref (r 62)])), ((r 0), .inl (cI, 1800, .inl g_6))] H := by rw [e_g_6]; exact hP
  have hD : va_D A [(h0, .inr (12, [.ref (r 0), .int (nI (k + 1)), .int 0, .int 0, .int 0, .int 0, .int 0, .long 0, .int 0, .int (-1), .int 0, .int (-1), .int (-1), .int 0, .ref (r 1), .ref (r 2), .ref (r 3), .ref (r 4), .ref (r 5), .ref (r 6), .ref (r 7), .ref (r 8), .ref (r 9), .ref (r 10), .ref (r 11), .ref (r 12), .ref (r 13), .ref (r 14), .ref (r 15), .ref (r 16), .ref (r 17), .ref (r 18), .ref (r 19), .ref (r 20), .ref (r 21), .ref (r 22), .int 0, .int 1, .int 0, .ref (r 23), .ref (r 24), .ref (r 25), .ref (r 26), .int 0, .int 0, .ref (r 27), .ref (r 28), .ref (r 29), .ref (r 30), .ref (r 31), .ref (r 32), .ref (r 33), .int 0, .ref (r 34), .ref (r 35), .ref (r 36), .ref (r 37), .ref (r 38), .ref (r 39), .int 0, .int 0, .long 1, .int 0, .ref (r 40), .ref (r 41), .ref (r 42), .int 0, .ref (r 43), .ref (r 44), .ref (r 45), .int 0, .ref (r 46), .ref (r 47), .int 0, .int 0, .ref (r 48), .int 0, .ref (r 49), .int 0, .ref (r 50), .ref (r 51), .int 0, .ref (r 52), .ref (r 53), .ref (r 54), .ref (r 55), .ref (r 56), .int 0, .int 0, .int 0, .int 0, .ref (r 57), .int 0, .ref (r 58), .ref (r 59), .ref (r 60), .ref (r 61), .ref (r 62)])), ((r 0), .inl (cI, 1800, .inl g_6))] := by rw [e_g_6]; exact hD
  refine lv_aload_n hx hb dX12_put_23 rfl (lv_at hl 1 rfl) ?_
  refine lv_dup hx hb dX12_put_24 rfl ?_
  refine va_get (D := (dC, dI)) (ci := 12) (v := .int (nI (k + 1))) (C := RX12) (T := TX12) (N := 98) hx hb hts h_in_X12 hown hK hP 0 rfl rfl 1 (by decide) (hts (.fieldLink RX12 13 "MatchTreesModel" "taped" "I") (by decide +kernel)) (fun _ h9 => h9) rfl dX12_put_25 ?_
  refine lv_iconst (v := 1) hx hb dX12_put_28 (by decide) ?_
  refine k_iadd (v := nI ((k + 1) + 1)) hx hb (nI_1 (k + 1)) dX12_put_29 ?_
  refine va_put (D := (dC, dI)) (ci := 12) (v := .int (nI ((k + 1) + 1))) (ty := .int) (C := RX12) (T := TX12) (N := 98) hx hb hts h_in_X12 tyX12 tyX12_ok nmX12 hown hK hP hD hS 0 rfl rfl 1 (by decide) (hts (.fieldLink RX12 13 "MatchTreesModel" "taped" "I") (by decide +kernel)) (fun _ h9 => h9) rfl (by decide +kernel) rfl rfl (Nat.le_of_ble_eq_true rfl) dX12_put_30 (fun H locs hP hD hS => ?_)
  have hP : va_P (dC, dI) vwCl [(h0, .inr (12, [.ref (r 0), .int (nI ((k + 1) + 1)), .int 0, .int 0, .int 0, .int 0, .int 0, .long 0, .int 0, .int (-1), .int 0, .int (-1), .int (-1), .int 0, .ref (r 1), .ref (r 2), .ref (r 3), .ref (r 4), .ref (r 5), .ref (r 6), .ref (r 7), .ref (r 8), .ref (r 9), .ref (r 10), .ref (r 11), .ref (r 12), .ref (r 13), .ref (r 14), .ref (r 15), .ref (r 16), .ref (r 17), .ref (r 18), .ref (r 19), .ref (r 20), .ref (r 21), .ref (r 22), .int 0, .int 1, .int 0, .ref (r 23), .ref (r 24), .ref (r 25), .ref (r 26), .int 0, .int 0, .ref (r 27), .ref (r 28), .ref (r 29), .ref (r 30), .ref (r 31), .ref (r 32), .ref (r 33), .int 0, .ref (r 34), .ref (r 35), .ref (r 36), .ref (r 37), .ref (r 38), .ref (r 39), .int 0, .int 0, .long 1, .int 0, .ref (r 40), .ref (r 41), .ref (r 42), .int 0, .ref (r 43), .ref (r 44), .ref (r 45), .int 0, .ref (r 46), .ref (r 47), .int 0, .int 0, .ref (r 48), .int 0, .ref (r 49), .int 0, .ref (r 50), .ref (r 51), .int 0, .ref (r 52), .ref (r 53), .ref (r 54), .ref (r 55), .ref (r 56), .int 0, .int 0, .int 0, .int 0, .ref (r 57), .int 0, .ref (r 58), .ref (r 59), .ref (r 60), .ref (r 61), .ref (r 62)])), ((r 0), .inl (cI, 1800, .inl g_6))] H := hP
  have hD : va_D A [(h0, .inr (12, [.ref (r 0), .int (nI ((k + 1) + 1)), .int 0, .int 0, .int 0, .int 0, .int 0, .long 0, .int 0, .int (-1), .int 0, .int (-1), .int (-1), .int 0, .ref (r 1), .ref (r 2), .ref (r 3), .ref (r 4), .ref (r 5), .ref (r 6), .ref (r 7), .ref (r 8), .ref (r 9), .ref (r 10), .ref (r 11), .ref (r 12), .ref (r 13), .ref (r 14), .ref (r 15), .ref (r 16), .ref (r 17), .ref (r 18), .ref (r 19), .ref (r 20), .ref (r 21), .ref (r 22), .int 0, .int 1, .int 0, .ref (r 23), .ref (r 24), .ref (r 25), .ref (r 26), .int 0, .int 0, .ref (r 27), .ref (r 28), .ref (r 29), .ref (r 30), .ref (r 31), .ref (r 32), .ref (r 33), .int 0, .ref (r 34), .ref (r 35), .ref (r 36), .ref (r 37), .ref (r 38), .ref (r 39), .int 0, .int 0, .long 1, .int 0, .ref (r 40), .ref (r 41), .ref (r 42), .int 0, .ref (r 43), .ref (r 44), .ref (r 45), .int 0, .ref (r 46), .ref (r 47), .int 0, .int 0, .ref (r 48), .int 0, .ref (r 49), .int 0, .ref (r 50), .ref (r 51), .int 0, .ref (r 52), .ref (r 53), .ref (r 54), .ref (r 55), .ref (r 56), .int 0, .int 0, .int 0, .int 0, .ref (r 57), .int 0, .ref (r 58), .ref (r 59), .ref (r 60), .ref (r 61), .ref (r 62)])), ((r 0), .inl (cI, 1800, .inl g_6))] := hD
  refine lv_iinc (v := 8) (lv' := [(2, .int 8), (0, .ref h0), (1, .int p0)]) hx hb dX12_put_33 hl (k := 0) rfl (by decide) (by decide) rfl (fun ls hl => ?_)
  refine lv_goto (tgt := 3) hx hb dX12_put_36 (by decide) ?_
  refine lv_iload_n hx hb dX12_put_3 rfl (lv_at hl 0 rfl) ?_
  refine lv_if_lt (tgt := 39) hx hb dX12_put_4 (by decide) (fun c => absurd c (by decide)) (fun _ => ?_)
  refine lv_aload_n hx hb dX12_put_7 rfl (lv_at hl 1 rfl) ?_
  refine va_get (D := (dC, dI)) (ci := 12) (v := .ref (r 0)) (C := RX12) (T := TX12) (N := 98) hx hb hts h_in_X12 hown hK hP 0 rfl rfl 0 (by decide) (hts (.fieldLink RX12 7 "MatchTreesModel" "tape" "[I") (by decide +kernel)) (fun _ h9 => h9) rfl dX12_put_8 ?_
  refine lv_aload_n hx hb dX12_put_11 rfl (lv_at hl 1 rfl) ?_
  refine va_get (D := (dC, dI)) (ci := 12) (v := .int (nI ((k + 1) + 1))) (C := RX12) (T := TX12) (N := 98) hx hb hts h_in_X12 hown hK hP 0 rfl rfl 1 (by decide) (hts (.fieldLink RX12 13 "MatchTreesModel" "taped" "I") (by decide +kernel)) (fun _ h9 => h9) rfl dX12_put_12 ?_
  refine lv_iload_n hx hb dX12_put_15 rfl (lv_at hl 2 rfl) ?_
  refine lv_iload_n hx hb dX12_put_16 rfl (lv_at hl 0 rfl) ?_
  refine lv_ishr hx hb dX12_put_17 ?_
  refine lv_topi (fun f_7 e_f_7 => ?_)
  refine lv_sipush (v := 255) hx hb dX12_put_18 (by decide) ?_
  refine lv_iand hx hb dX12_put_21 ?_
  refine lv_topi (fun f_8 e_f_8 => ?_)
  refine va_iast hx hb hK hP hD hS 1 0 rfl rfl (vp_in_nI (by omega) (by decide)) dX12_put_22 (fun H locs hP hD hS => ?_)
  obtain ⟨g_9, e_g_9⟩ : ∃ y : Nat → Int32, y = upd g_6 ((nI ((k + 1) + 1)) : Int32).toNatClampNeg f_8 := ⟨_, rfl⟩
  have hP : va_P (dC, dI) vwCl [(h0, .inr (12, [.ref (r 0), .int (nI ((k + 1) + 1)), .int 0, .int 0, .int 0, .int 0, .int 0, .long 0, .int 0, .int (-1), .int 0, .int (-1), .int (-1), .int 0, .ref (r 1), .ref (r 2), .ref (r 3), .ref (r 4), .ref (r 5), .ref (r 6), .ref (r 7), .ref (r 8), .ref (r 9), .ref (r 10), .ref (r 11), .ref (r 12), .ref (r 13), .ref (r 14), .ref (r 15), .ref (r 16), .ref (r 17), .ref (r 18), .ref (r 19), .ref (r 20), .ref (r 21), .ref (r 22), .int 0, .int 1, .int 0, .ref (r 23), .ref (r 24), .ref (r 25), .ref (r 26), .int 0, .int 0, .ref (r 27), .ref (r 28), .ref (r 29), .ref (r 30), .ref (r 31), .ref (r 32), .ref (r 33), .int 0, .ref (r 34), .ref (r 35), .ref (r 36), .ref (r 37), .ref (r 38), .ref (r 39), .int 0, .int 0, .long 1, .int 0, .ref (r 40), .ref (r 41), .ref (r 42), .int 0, .ref (r 43), .ref (r 44), .ref (r 45), .int 0, .ref (r 46), .ref (r 47), .int 0, .int 0, .ref (r 48), .int 0, .ref (r 49), .int 0, .ref (r 50), .ref (r 51), .int 0, .ref (r 52), .ref (r 53), .ref (r 54), .ref (r 55), .ref (r 56), .int 0, .int 0, .int 0, .int 0, .ref (r 57), .int 0, .ref (r 58), .ref (r 59), .ref (r 60), .ref (r 61), .ref (r 62)])), ((r 0), .inl (cI, 1800, .inl g_9))] H := by rw [e_g_9]; exact hP
  have hD : va_D A [(h0, .inr (12, [.ref (r 0), .int (nI ((k + 1) + 1)), .int 0, .int 0, .int 0, .int 0, .int 0, .long 0, .int 0, .int (-1), .int 0, .int (-1), .int (-1), .int 0, .ref (r 1), .ref (r 2), .ref (r 3), .ref (r 4), .ref (r 5), .ref (r 6), .ref (r 7), .ref (r 8), .ref (r 9), .ref (r 10), .ref (r 11), .ref (r 12), .ref (r 13), .ref (r 14), .ref (r 15), .ref (r 16), .ref (r 17), .ref (r 18), .ref (r 19), .ref (r 20), .ref (r 21), .ref (r 22), .int 0, .int 1, .int 0, .ref (r 23), .ref (r 24), .ref (r 25), .ref (r 26), .int 0, .int 0, .ref (r 27), .ref (r 28), .ref (r 29), .ref (r 30), .ref (r 31), .ref (r 32), .ref (r 33), .int 0, .ref (r 34), .ref (r 35), .ref (r 36), .ref (r 37), .ref (r 38), .ref (r 39), .int 0, .int 0, .long 1, .int 0, .ref (r 40), .ref (r 41), .ref (r 42), .int 0, .ref (r 43), .ref (r 44), .ref (r 45), .int 0, .ref (r 46), .ref (r 47), .int 0, .int 0, .ref (r 48), .int 0, .ref (r 49), .int 0, .ref (r 50), .ref (r 51), .int 0, .ref (r 52), .ref (r 53), .ref (r 54), .ref (r 55), .ref (r 56), .int 0, .int 0, .int 0, .int 0, .ref (r 57), .int 0, .ref (r 58), .ref (r 59), .ref (r 60), .ref (r 61), .ref (r 62)])), ((r 0), .inl (cI, 1800, .inl g_9))] := by rw [e_g_9]; exact hD
  refine lv_aload_n hx hb dX12_put_23 rfl (lv_at hl 1 rfl) ?_
  refine lv_dup hx hb dX12_put_24 rfl ?_
  refine va_get (D := (dC, dI)) (ci := 12) (v := .int (nI ((k + 1) + 1))) (C := RX12) (T := TX12) (N := 98) hx hb hts h_in_X12 hown hK hP 0 rfl rfl 1 (by decide) (hts (.fieldLink RX12 13 "MatchTreesModel" "taped" "I") (by decide +kernel)) (fun _ h9 => h9) rfl dX12_put_25 ?_
  refine lv_iconst (v := 1) hx hb dX12_put_28 (by decide) ?_
  refine k_iadd (v := nI (((k + 1) + 1) + 1)) hx hb (nI_1 (((k + 1) + 1))) dX12_put_29 ?_
  refine va_put (D := (dC, dI)) (ci := 12) (v := .int (nI (((k + 1) + 1) + 1))) (ty := .int) (C := RX12) (T := TX12) (N := 98) hx hb hts h_in_X12 tyX12 tyX12_ok nmX12 hown hK hP hD hS 0 rfl rfl 1 (by decide) (hts (.fieldLink RX12 13 "MatchTreesModel" "taped" "I") (by decide +kernel)) (fun _ h9 => h9) rfl (by decide +kernel) rfl rfl (Nat.le_of_ble_eq_true rfl) dX12_put_30 (fun H locs hP hD hS => ?_)
  have hP : va_P (dC, dI) vwCl [(h0, .inr (12, [.ref (r 0), .int (nI (((k + 1) + 1) + 1)), .int 0, .int 0, .int 0, .int 0, .int 0, .long 0, .int 0, .int (-1), .int 0, .int (-1), .int (-1), .int 0, .ref (r 1), .ref (r 2), .ref (r 3), .ref (r 4), .ref (r 5), .ref (r 6), .ref (r 7), .ref (r 8), .ref (r 9), .ref (r 10), .ref (r 11), .ref (r 12), .ref (r 13), .ref (r 14), .ref (r 15), .ref (r 16), .ref (r 17), .ref (r 18), .ref (r 19), .ref (r 20), .ref (r 21), .ref (r 22), .int 0, .int 1, .int 0, .ref (r 23), .ref (r 24), .ref (r 25), .ref (r 26), .int 0, .int 0, .ref (r 27), .ref (r 28), .ref (r 29), .ref (r 30), .ref (r 31), .ref (r 32), .ref (r 33), .int 0, .ref (r 34), .ref (r 35), .ref (r 36), .ref (r 37), .ref (r 38), .ref (r 39), .int 0, .int 0, .long 1, .int 0, .ref (r 40), .ref (r 41), .ref (r 42), .int 0, .ref (r 43), .ref (r 44), .ref (r 45), .int 0, .ref (r 46), .ref (r 47), .int 0, .int 0, .ref (r 48), .int 0, .ref (r 49), .int 0, .ref (r 50), .ref (r 51), .int 0, .ref (r 52), .ref (r 53), .ref (r 54), .ref (r 55), .ref (r 56), .int 0, .int 0, .int 0, .int 0, .ref (r 57), .int 0, .ref (r 58), .ref (r 59), .ref (r 60), .ref (r 61), .ref (r 62)])), ((r 0), .inl (cI, 1800, .inl g_9))] H := hP
  have hD : va_D A [(h0, .inr (12, [.ref (r 0), .int (nI (((k + 1) + 1) + 1)), .int 0, .int 0, .int 0, .int 0, .int 0, .long 0, .int 0, .int (-1), .int 0, .int (-1), .int (-1), .int 0, .ref (r 1), .ref (r 2), .ref (r 3), .ref (r 4), .ref (r 5), .ref (r 6), .ref (r 7), .ref (r 8), .ref (r 9), .ref (r 10), .ref (r 11), .ref (r 12), .ref (r 13), .ref (r 14), .ref (r 15), .ref (r 16), .ref (r 17), .ref (r 18), .ref (r 19), .ref (r 20), .ref (r 21), .ref (r 22), .int 0, .int 1, .int 0, .ref (r 23), .ref (r 24), .ref (r 25), .ref (r 26), .int 0, .int 0, .ref (r 27), .ref (r 28), .ref (r 29), .ref (r 30), .ref (r 31), .ref (r 32), .ref (r 33), .int 0, .ref (r 34), .ref (r 35), .ref (r 36), .ref (r 37), .ref (r 38), .ref (r 39), .int 0, .int 0, .long 1, .int 0, .ref (r 40), .ref (r 41), .ref (r 42), .int 0, .ref (r 43), .ref (r 44), .ref (r 45), .int 0, .ref (r 46), .ref (r 47), .int 0, .int 0, .ref (r 48), .int 0, .ref (r 49), .int 0, .ref (r 50), .ref (r 51), .int 0, .ref (r 52), .ref (r 53), .ref (r 54), .ref (r 55), .ref (r 56), .int 0, .int 0, .int 0, .int 0, .ref (r 57), .int 0, .ref (r 58), .ref (r 59), .ref (r 60), .ref (r 61), .ref (r 62)])), ((r 0), .inl (cI, 1800, .inl g_9))] := hD
  refine lv_iinc (v := 0) (lv' := [(2, .int 0), (0, .ref h0), (1, .int p0)]) hx hb dX12_put_33 hl (k := 0) rfl (by decide) (by decide) rfl (fun ls hl => ?_)
  refine lv_goto (tgt := 3) hx hb dX12_put_36 (by decide) ?_
  refine lv_iload_n hx hb dX12_put_3 rfl (lv_at hl 0 rfl) ?_
  refine lv_if_lt (tgt := 39) hx hb dX12_put_4 (by decide) (fun c => absurd c (by decide)) (fun _ => ?_)
  refine lv_aload_n hx hb dX12_put_7 rfl (lv_at hl 1 rfl) ?_
  refine va_get (D := (dC, dI)) (ci := 12) (v := .ref (r 0)) (C := RX12) (T := TX12) (N := 98) hx hb hts h_in_X12 hown hK hP 0 rfl rfl 0 (by decide) (hts (.fieldLink RX12 7 "MatchTreesModel" "tape" "[I") (by decide +kernel)) (fun _ h9 => h9) rfl dX12_put_8 ?_
  refine lv_aload_n hx hb dX12_put_11 rfl (lv_at hl 1 rfl) ?_
  refine va_get (D := (dC, dI)) (ci := 12) (v := .int (nI (((k + 1) + 1) + 1))) (C := RX12) (T := TX12) (N := 98) hx hb hts h_in_X12 hown hK hP 0 rfl rfl 1 (by decide) (hts (.fieldLink RX12 13 "MatchTreesModel" "taped" "I") (by decide +kernel)) (fun _ h9 => h9) rfl dX12_put_12 ?_
  refine lv_iload_n hx hb dX12_put_15 rfl (lv_at hl 2 rfl) ?_
  refine lv_iload_n hx hb dX12_put_16 rfl (lv_at hl 0 rfl) ?_
  refine lv_ishr hx hb dX12_put_17 ?_
  refine lv_topi (fun f_10 e_f_10 => ?_)
  refine lv_sipush (v := 255) hx hb dX12_put_18 (by decide) ?_
  refine lv_iand hx hb dX12_put_21 ?_
  refine lv_topi (fun f_11 e_f_11 => ?_)
  refine va_iast hx hb hK hP hD hS 1 0 rfl rfl (vp_in_nI (by omega) (by decide)) dX12_put_22 (fun H locs hP hD hS => ?_)
  obtain ⟨g_12, e_g_12⟩ : ∃ y : Nat → Int32, y = upd g_9 ((nI (((k + 1) + 1) + 1)) : Int32).toNatClampNeg f_11 := ⟨_, rfl⟩
  have hP : va_P (dC, dI) vwCl [(h0, .inr (12, [.ref (r 0), .int (nI (((k + 1) + 1) + 1)), .int 0, .int 0, .int 0, .int 0, .int 0, .long 0, .int 0, .int (-1), .int 0, .int (-1), .int (-1), .int 0, .ref (r 1), .ref (r 2), .ref (r 3), .ref (r 4), .ref (r 5), .ref (r 6), .ref (r 7), .ref (r 8), .ref (r 9), .ref (r 10), .ref (r 11), .ref (r 12), .ref (r 13), .ref (r 14), .ref (r 15), .ref (r 16), .ref (r 17), .ref (r 18), .ref (r 19), .ref (r 20), .ref (r 21), .ref (r 22), .int 0, .int 1, .int 0, .ref (r 23), .ref (r 24), .ref (r 25), .ref (r 26), .int 0, .int 0, .ref (r 27), .ref (r 28), .ref (r 29), .ref (r 30), .ref (r 31), .ref (r 32), .ref (r 33), .int 0, .ref (r 34), .ref (r 35), .ref (r 36), .ref (r 37), .ref (r 38), .ref (r 39), .int 0, .int 0, .long 1, .int 0, .ref (r 40), .ref (r 41), .ref (r 42), .int 0, .ref (r 43), .ref (r 44), .ref (r 45), .int 0, .ref (r 46), .ref (r 47), .int 0, .int 0, .ref (r 48), .int 0, .ref (r 49), .int 0, .ref (r 50), .ref (r 51), .int 0, .ref (r 52), .ref (r 53), .ref (r 54), .ref (r 55), .ref (r 56), .int 0, .int 0, .int 0, .int 0, .ref (r 57), .int 0, .ref (r 58), .ref (r 59), .ref (r 60), .ref (r 61), .ref (r 62)])), ((r 0), .inl (cI, 1800, .inl g_12))] H := by rw [e_g_12]; exact hP
  have hD : va_D A [(h0, .inr (12, [.ref (r 0), .int (nI (((k + 1) + 1) + 1)), .int 0, .int 0, .int 0, .int 0, .int 0, .long 0, .int 0, .int (-1), .int 0, .int (-1), .int (-1), .int 0, .ref (r 1), .ref (r 2), .ref (r 3), .ref (r 4), .ref (r 5), .ref (r 6), .ref (r 7), .ref (r 8), .ref (r 9), .ref (r 10), .ref (r 11), .ref (r 12), .ref (r 13), .ref (r 14), .ref (r 15), .ref (r 16), .ref (r 17), .ref (r 18), .ref (r 19), .ref (r 20), .ref (r 21), .ref (r 22), .int 0, .int 1, .int 0, .ref (r 23), .ref (r 24), .ref (r 25), .ref (r 26), .int 0, .int 0, .ref (r 27), .ref (r 28), .ref (r 29), .ref (r 30), .ref (r 31), .ref (r 32), .ref (r 33), .int 0, .ref (r 34), .ref (r 35), .ref (r 36), .ref (r 37), .ref (r 38), .ref (r 39), .int 0, .int 0, .long 1, .int 0, .ref (r 40), .ref (r 41), .ref (r 42), .int 0, .ref (r 43), .ref (r 44), .ref (r 45), .int 0, .ref (r 46), .ref (r 47), .int 0, .int 0, .ref (r 48), .int 0, .ref (r 49), .int 0, .ref (r 50), .ref (r 51), .int 0, .ref (r 52), .ref (r 53), .ref (r 54), .ref (r 55), .ref (r 56), .int 0, .int 0, .int 0, .int 0, .ref (r 57), .int 0, .ref (r 58), .ref (r 59), .ref (r 60), .ref (r 61), .ref (r 62)])), ((r 0), .inl (cI, 1800, .inl g_12))] := by rw [e_g_12]; exact hD
  refine lv_aload_n hx hb dX12_put_23 rfl (lv_at hl 1 rfl) ?_
  refine lv_dup hx hb dX12_put_24 rfl ?_
  refine va_get (D := (dC, dI)) (ci := 12) (v := .int (nI (((k + 1) + 1) + 1))) (C := RX12) (T := TX12) (N := 98) hx hb hts h_in_X12 hown hK hP 0 rfl rfl 1 (by decide) (hts (.fieldLink RX12 13 "MatchTreesModel" "taped" "I") (by decide +kernel)) (fun _ h9 => h9) rfl dX12_put_25 ?_
  refine lv_iconst (v := 1) hx hb dX12_put_28 (by decide) ?_
  refine k_iadd (v := nI ((((k + 1) + 1) + 1) + 1)) hx hb (nI_1 ((((k + 1) + 1) + 1))) dX12_put_29 ?_
  refine va_put (D := (dC, dI)) (ci := 12) (v := .int (nI ((((k + 1) + 1) + 1) + 1))) (ty := .int) (C := RX12) (T := TX12) (N := 98) hx hb hts h_in_X12 tyX12 tyX12_ok nmX12 hown hK hP hD hS 0 rfl rfl 1 (by decide) (hts (.fieldLink RX12 13 "MatchTreesModel" "taped" "I") (by decide +kernel)) (fun _ h9 => h9) rfl (by decide +kernel) rfl rfl (Nat.le_of_ble_eq_true rfl) dX12_put_30 (fun H locs hP hD hS => ?_)
  have hP : va_P (dC, dI) vwCl [(h0, .inr (12, [.ref (r 0), .int (nI ((((k + 1) + 1) + 1) + 1)), .int 0, .int 0, .int 0, .int 0, .int 0, .long 0, .int 0, .int (-1), .int 0, .int (-1), .int (-1), .int 0, .ref (r 1), .ref (r 2), .ref (r 3), .ref (r 4), .ref (r 5), .ref (r 6), .ref (r 7), .ref (r 8), .ref (r 9), .ref (r 10), .ref (r 11), .ref (r 12), .ref (r 13), .ref (r 14), .ref (r 15), .ref (r 16), .ref (r 17), .ref (r 18), .ref (r 19), .ref (r 20), .ref (r 21), .ref (r 22), .int 0, .int 1, .int 0, .ref (r 23), .ref (r 24), .ref (r 25), .ref (r 26), .int 0, .int 0, .ref (r 27), .ref (r 28), .ref (r 29), .ref (r 30), .ref (r 31), .ref (r 32), .ref (r 33), .int 0, .ref (r 34), .ref (r 35), .ref (r 36), .ref (r 37), .ref (r 38), .ref (r 39), .int 0, .int 0, .long 1, .int 0, .ref (r 40), .ref (r 41), .ref (r 42), .int 0, .ref (r 43), .ref (r 44), .ref (r 45), .int 0, .ref (r 46), .ref (r 47), .int 0, .int 0, .ref (r 48), .int 0, .ref (r 49), .int 0, .ref (r 50), .ref (r 51), .int 0, .ref (r 52), .ref (r 53), .ref (r 54), .ref (r 55), .ref (r 56), .int 0, .int 0, .int 0, .int 0, .ref (r 57), .int 0, .ref (r 58), .ref (r 59), .ref (r 60), .ref (r 61), .ref (r 62)])), ((r 0), .inl (cI, 1800, .inl g_12))] H := hP
  have hD : va_D A [(h0, .inr (12, [.ref (r 0), .int (nI ((((k + 1) + 1) + 1) + 1)), .int 0, .int 0, .int 0, .int 0, .int 0, .long 0, .int 0, .int (-1), .int 0, .int (-1), .int (-1), .int 0, .ref (r 1), .ref (r 2), .ref (r 3), .ref (r 4), .ref (r 5), .ref (r 6), .ref (r 7), .ref (r 8), .ref (r 9), .ref (r 10), .ref (r 11), .ref (r 12), .ref (r 13), .ref (r 14), .ref (r 15), .ref (r 16), .ref (r 17), .ref (r 18), .ref (r 19), .ref (r 20), .ref (r 21), .ref (r 22), .int 0, .int 1, .int 0, .ref (r 23), .ref (r 24), .ref (r 25), .ref (r 26), .int 0, .int 0, .ref (r 27), .ref (r 28), .ref (r 29), .ref (r 30), .ref (r 31), .ref (r 32), .ref (r 33), .int 0, .ref (r 34), .ref (r 35), .ref (r 36), .ref (r 37), .ref (r 38), .ref (r 39), .int 0, .int 0, .long 1, .int 0, .ref (r 40), .ref (r 41), .ref (r 42), .int 0, .ref (r 43), .ref (r 44), .ref (r 45), .int 0, .ref (r 46), .ref (r 47), .int 0, .int 0, .ref (r 48), .int 0, .ref (r 49), .int 0, .ref (r 50), .ref (r 51), .int 0, .ref (r 52), .ref (r 53), .ref (r 54), .ref (r 55), .ref (r 56), .int 0, .int 0, .int 0, .int 0, .ref (r 57), .int 0, .ref (r 58), .ref (r 59), .ref (r 60), .ref (r 61), .ref (r 62)])), ((r 0), .inl (cI, 1800, .inl g_12))] := hD
  refine lv_iinc (v := (-8)) (lv' := [(2, .int (-8)), (0, .ref h0), (1, .int p0)]) hx hb dX12_put_33 hl (k := 0) rfl (by decide) (by decide) rfl (fun ls hl => ?_)
  refine lv_goto (tgt := 3) hx hb dX12_put_36 (by decide) ?_
  refine lv_iload_n hx hb dX12_put_3 rfl (lv_at hl 0 rfl) ?_
  refine lv_if_lt (tgt := 39) hx hb dX12_put_4 (by decide) (fun _ => ?_) (fun c => absurd (by decide) c)
  have hP9 := hP.sub (ws' := [(h0, .inr (12, [.ref (r 0), .int (nI ((((k + 1) + 1) + 1) + 1)), .int 0, .int 0, .int 0, .int 0, .int 0, .long 0, .int 0, .int (-1), .int 0, .int (-1), .int (-1), .int 0, .ref (r 1), .ref (r 2), .ref (r 3), .ref (r 4), .ref (r 5), .ref (r 6), .ref (r 7), .ref (r 8), .ref (r 9), .ref (r 10), .ref (r 11), .ref (r 12), .ref (r 13), .ref (r 14), .ref (r 15), .ref (r 16), .ref (r 17), .ref (r 18), .ref (r 19), .ref (r 20), .ref (r 21), .ref (r 22), .int 0, .int 1, .int 0, .ref (r 23), .ref (r 24), .ref (r 25), .ref (r 26), .int 0, .int 0, .ref (r 27), .ref (r 28), .ref (r 29), .ref (r 30), .ref (r 31), .ref (r 32), .ref (r 33), .int 0, .ref (r 34), .ref (r 35), .ref (r 36), .ref (r 37), .ref (r 38), .ref (r 39), .int 0, .int 0, .long 1, .int 0, .ref (r 40), .ref (r 41), .ref (r 42), .int 0, .ref (r 43), .ref (r 44), .ref (r 45), .int 0, .ref (r 46), .ref (r 47), .int 0, .int 0, .ref (r 48), .int 0, .ref (r 49), .int 0, .ref (r 50), .ref (r 51), .int 0, .ref (r 52), .ref (r 53), .ref (r 54), .ref (r 55), .ref (r 56), .int 0, .int 0, .int 0, .int 0, .ref (r 57), .int 0, .ref (r 58), .ref (r 59), .ref (r 60), .ref (r 61), .ref (r 62)])), ((r 0), .inl (cI, 1800, .inl g_12))]) [0, 1] rfl
  have hD9 := hD.sub (ws' := [(h0, .inr (12, [.ref (r 0), .int (nI ((((k + 1) + 1) + 1) + 1)), .int 0, .int 0, .int 0, .int 0, .int 0, .long 0, .int 0, .int (-1), .int 0, .int (-1), .int (-1), .int 0, .ref (r 1), .ref (r 2), .ref (r 3), .ref (r 4), .ref (r 5), .ref (r 6), .ref (r 7), .ref (r 8), .ref (r 9), .ref (r 10), .ref (r 11), .ref (r 12), .ref (r 13), .ref (r 14), .ref (r 15), .ref (r 16), .ref (r 17), .ref (r 18), .ref (r 19), .ref (r 20), .ref (r 21), .ref (r 22), .int 0, .int 1, .int 0, .ref (r 23), .ref (r 24), .ref (r 25), .ref (r 26), .int 0, .int 0, .ref (r 27), .ref (r 28), .ref (r 29), .ref (r 30), .ref (r 31), .ref (r 32), .ref (r 33), .int 0, .ref (r 34), .ref (r 35), .ref (r 36), .ref (r 37), .ref (r 38), .ref (r 39), .int 0, .int 0, .long 1, .int 0, .ref (r 40), .ref (r 41), .ref (r 42), .int 0, .ref (r 43), .ref (r 44), .ref (r 45), .int 0, .ref (r 46), .ref (r 47), .int 0, .int 0, .ref (r 48), .int 0, .ref (r 49), .int 0, .ref (r 50), .ref (r 51), .int 0, .ref (r 52), .ref (r 53), .ref (r 54), .ref (r 55), .ref (r 56), .int 0, .int 0, .int 0, .int 0, .ref (r 57), .int 0, .ref (r 58), .ref (r 59), .ref (r 60), .ref (r 61), .ref (r 62)])), ((r 0), .inl (cI, 1800, .inl g_12))]) [0, 1] (by decide) rfl
  exact W.vret hx hb hr (fun t ht hW => ⟨⟨(), rfl, trivial, g_12, by rw [ht]; exact hP9, hD9⟩, hS.F ht⟩) hS.2.2 dX12_put_39
abbrev w0_c_X12_writes (cI : ClassId) (h0 : Nat) (r : Nat → Nat) (k : Nat) (f : Nat → Int32) (p0 : Int32) : va_W := [(h0, .inr (12, (o12w r (nI k)))), ((r 45), .inl (cI, 1800, .inl f))]
set_option maxHeartbeats 4000000 in
set_option maxRecDepth 100000 in
theorem c_X12_writes (l : Launch) (dC : Nat → ClassId) (dI : Nat → Nat → Nat) (cI cJ : ClassId) (h0 : Nat) (r : Nat → Nat) (k : Nat) (f : Nat → Int32) (p0 : Int32) (sz : Nat) (hk : k + 1 ≤ 1800) : Met l yX12_writes wsX12_writes ({ frames := 1, cells := 0, slots := 0, locals := 60 }) (va_Pc [.ref h0, .int p0] (mPre dC dI cI cJ sz (w0_c_X12_writes cI h0 r k f p0))) (va_Qv (fun _ : Unit => True) (fun (u : Unit) (t : State) => ∃ (g : Nat → Int32), va_P (dC, dI) vwCl [(h0, .inr (12, (o12w r (nI (k + 1))))), ((r 45), .inl (cI, 1800, .inl g))] t.heap ∧ va_D (va_A (w0_c_X12_writes cI h0 r k f p0) sz) [(h0, .inr (12, (o12w r (nI (k + 1))))), ((r 45), .inl (cI, 1800, .inl g))]) (va_A (w0_c_X12_writes cI h0 r k f p0) sz)) 0 0 (va_A (w0_c_X12_writes cI h0 r k f p0) sz) := by
  refine Met.ofW (cc := cX12_writes) (maxL := 2) (ret := none) (by decide) rfl ?_
  intro p e s m args below meth c s₁ B hml hv
  obtain ⟨rfl, hsz, hP, hK, hD0, hN⟩ := hv
  have hx := B.exec
  have hb := B.bytes
  have hr := B.returns
  have hts := atoms_spec (ws := wsX12_writes) B.pre
  have hown : s.vm.findClass RX12 = some m.cls := findClass_of_methodNamed B.named
  have hlocks := B.notSynchronized
  have h_in_X12 : ∀ w ∈ wsX120, w ∈ wsX12_writes := fun w h => List.mem_cons_of_mem _ (List.mem_append_right _ h)
  subst hsz
  have hD := hD0.self (sz := s.heap.size)
  generalize hAe : va_A (w0_c_X12_writes cI h0 r k f p0) s.heap.size = A at hD ⊢
  have hA : ∀ q : Nat, s.heap.size ≤ q → A q := fun q h => by rw [← hAe]; exact Or.inr h
  have hS : va_S A s.heap s.heap [] := va_S.rf
  have hP : va_P (dC, dI) vwCl [(h0, .inr (12, (o12w r (nI k)))), ((r 45), .inl (cI, 1800, .inl f))] s.heap := hP
  have hD : va_D A [(h0, .inr (12, (o12w r (nI k)))), ((r 45), .inl (cI, 1800, .inl f))] := hD
  have hl := lv_entry ([.ref h0, .int p0]) (n := 2) (Nat.le_of_ble_eq_true rfl)
  rw [lg_entry_eq]
  generalize (lg_sl ([.ref h0, .int p0]) ++ List.replicate (2 - (lg_sl ([.ref h0, .int p0])).length) Slot.unset).toArray = ls at hl ⊢
  have hl : lv_has ls 2 [(0, .ref h0), (1, .int p0)] := hl
  refine lv_aload_n hx hb dX12_writes_0 rfl (lv_at hl 0 rfl) ?_
  refine va_get (D := (dC, dI)) (ci := 12) (v := .ref (r 45)) (C := RX12) (T := TX12) (N := 98) hx hb hts h_in_X12 hown hK hP 0 rfl rfl 69 (by decide) (hts (.fieldLink RX12 221 "MatchTreesModel" "out" "[I") (by decide +kernel)) (fun _ h9 => h9) rfl dX12_writes_1 ?_
  refine lv_aload_n hx hb dX12_writes_4 rfl (lv_at hl 0 rfl) ?_
  refine va_get (D := (dC, dI)) (ci := 12) (v := .int (nI k)) (C := RX12) (T := TX12) (N := 98) hx hb hts h_in_X12 hown hK hP 0 rfl rfl 70 (by decide) (hts (.fieldLink RX12 224 "MatchTreesModel" "outs" "I") (by decide +kernel)) (fun _ h9 => h9) rfl dX12_writes_5 ?_
  refine lv_iload_n hx hb dX12_writes_8 rfl (lv_at hl 1 rfl) ?_
  refine lv_sipush (v := 255) hx hb dX12_writes_9 (by decide) ?_
  refine lv_iand hx hb dX12_writes_12 ?_
  refine lv_topi (fun f_1 e_f_1 => ?_)
  refine va_iast hx hb hK hP hD hS 1 0 rfl rfl (vp_in_nI (by omega) (by decide)) dX12_writes_13 (fun H locs hP hD hS => ?_)
  obtain ⟨g_2, e_g_2⟩ : ∃ y : Nat → Int32, y = upd f ((nI k) : Int32).toNatClampNeg f_1 := ⟨_, rfl⟩
  have hP : va_P (dC, dI) vwCl [(h0, .inr (12, (o12w r (nI k)))), ((r 45), .inl (cI, 1800, .inl g_2))] H := by rw [e_g_2]; exact hP
  have hD : va_D A [(h0, .inr (12, (o12w r (nI k)))), ((r 45), .inl (cI, 1800, .inl g_2))] := by rw [e_g_2]; exact hD
  refine lv_aload_n hx hb dX12_writes_14 rfl (lv_at hl 0 rfl) ?_
  refine lv_dup hx hb dX12_writes_15 rfl ?_
  refine va_get (D := (dC, dI)) (ci := 12) (v := .int (nI k)) (C := RX12) (T := TX12) (N := 98) hx hb hts h_in_X12 hown hK hP 0 rfl rfl 70 (by decide) (hts (.fieldLink RX12 224 "MatchTreesModel" "outs" "I") (by decide +kernel)) (fun _ h9 => h9) rfl dX12_writes_16 ?_
  refine lv_iconst (v := 1) hx hb dX12_writes_19 (by decide) ?_
  refine k_iadd (v := nI (k + 1)) hx hb (nI_1 k) dX12_writes_20 ?_
  refine va_put (D := (dC, dI)) (ci := 12) (v := .int (nI (k + 1))) (ty := .int) (C := RX12) (T := TX12) (N := 98) hx hb hts h_in_X12 tyX12 tyX12_ok nmX12 hown hK hP hD hS 0 rfl rfl 70 (by decide) (hts (.fieldLink RX12 224 "MatchTreesModel" "outs" "I") (by decide +kernel)) (fun _ h9 => h9) rfl (by decide +kernel) rfl rfl (Nat.le_of_ble_eq_true rfl) dX12_writes_21 (fun H locs hP hD hS => ?_)
  have hP : va_P (dC, dI) vwCl [(h0, .inr (12, (o12w r (nI (k + 1))))), ((r 45), .inl (cI, 1800, .inl g_2))] H := hP
  have hD : va_D A [(h0, .inr (12, (o12w r (nI (k + 1))))), ((r 45), .inl (cI, 1800, .inl g_2))] := hD
  have hP9 := hP.sub (ws' := [(h0, .inr (12, (o12w r (nI (k + 1))))), ((r 45), .inl (cI, 1800, .inl g_2))]) [0, 1] rfl
  have hD9 := hD.sub (ws' := [(h0, .inr (12, (o12w r (nI (k + 1))))), ((r 45), .inl (cI, 1800, .inl g_2))]) [0, 1] (by decide) rfl
  exact W.vret hx hb hr (fun t ht hW => ⟨⟨(), rfl, trivial, g_2, by rw [ht]; exact hP9, hD9⟩, hS.F ht⟩) hS.2.2 dX12_writes_24
abbrev w0_c_X12_feed (cI : ClassId) (h0 : Nat) (r : Nat → Nat) (p0 p1 p2 p3 p4 : Int32) : va_W := [(h0, .inr (12, (o12 r))), ((r 0), .inl (cI, 1800, .inl (fun _ => 0)))]
set_option maxHeartbeats 4000000 in
set_option maxRecDepth 100000 in
theorem c_X12_feed (l : Launch) (dC : Nat → ClassId) (dI : Nat → Nat → Nat) (cI cJ : ClassId) (h0 : Nat) (r : Nat → Nat) (p0 p1 p2 p3 p4 : Int32) (sz : Nat) : Met l yX12_feed wsX12_feed ({ frames := 2, cells := 0, slots := 0, locals := 82 }) (va_Pc [.ref h0, .int p0, .int p1, .int p2, .int p3, .int p4] (mPre dC dI cI cJ sz (w0_c_X12_feed cI h0 r p0 p1 p2 p3 p4))) (va_Qi (fun (r : Int32) (u : Unit) => r = 20) (fun _ _ => True) (va_A (w0_c_X12_feed cI h0 r p0 p1 p2 p3 p4) sz)) 0 0 (va_A (w0_c_X12_feed cI h0 r p0 p1 p2 p3 p4) sz) := by
  refine Met.ofW (cc := cX12_feed) (maxL := 6) (ret := (some .int)) (by decide) rfl ?_
  intro p e s m args below meth c s₁ B hml hv
  obtain ⟨rfl, hsz, hP, hK, hD0, hN⟩ := hv
  have hx := B.exec
  have hb := B.bytes
  have hr := B.returns
  have hts := atoms_spec (ws := wsX12_feed) B.pre
  have hown : s.vm.findClass RX12 = some m.cls := findClass_of_methodNamed B.named
  have hlocks := B.notSynchronized
  have h_in_X12 : ∀ w ∈ wsX120, w ∈ wsX12_feed := fun w h => List.mem_cons_of_mem _ (List.mem_append_right _ h)
  subst hsz
  have hD := hD0.self (sz := s.heap.size)
  generalize hAe : va_A (w0_c_X12_feed cI h0 r p0 p1 p2 p3 p4) s.heap.size = A at hD ⊢
  have hA : ∀ q : Nat, s.heap.size ≤ q → A q := fun q h => by rw [← hAe]; exact Or.inr h
  have hS : va_S A s.heap s.heap [] := va_S.rf
  have hP : va_P (dC, dI) vwCl [(h0, .inr (12, (o12 r))), ((r 0), .inl (cI, 1800, .inl (fun _ => 0)))] s.heap := hP
  have hD : va_D A [(h0, .inr (12, (o12 r))), ((r 0), .inl (cI, 1800, .inl (fun _ => 0)))] := hD
  have hl := lv_entry ([.ref h0, .int p0, .int p1, .int p2, .int p3, .int p4]) (n := 6) (Nat.le_of_ble_eq_true rfl)
  rw [lg_entry_eq]
  generalize (lg_sl ([.ref h0, .int p0, .int p1, .int p2, .int p3, .int p4]) ++ List.replicate (6 - (lg_sl ([.ref h0, .int p0, .int p1, .int p2, .int p3, .int p4])).length) Slot.unset).toArray = ls at hl ⊢
  have hl : lv_has ls 6 [(0, .ref h0), (1, .int p0), (2, .int p1), (3, .int p2), (4, .int p3), (5, .int p4)] := hl
  refine lv_aload_n hx hb dX12_feed_0 rfl (lv_at hl 0 rfl) ?_
  refine va_get (D := (dC, dI)) (ci := 12) (v := .int 0) (C := RX12) (T := TX12) (N := 98) hx hb hts h_in_X12 hown hK hP 0 rfl rfl 1 (by decide) (hts (.fieldLink RX12 13 "MatchTreesModel" "taped" "I") (by decide +kernel)) (fun _ h9 => h9) rfl dX12_feed_1 ?_
  refine lv_bipush (v := 20) hx hb dX12_feed_4 (by decide) ?_
  refine k_iadd (v := 20) hx hb (by decide) dX12_feed_6 ?_
  refine lv_sipush (v := 1600) hx hb dX12_feed_7 (by decide) ?_
  refine lv_icmp_le (tgt := 19) hx hb dX12_feed_10 (by decide) (fun _ => ?_) (fun c => absurd (by decide) c)
  refine lv_aload_n hx hb dX12_feed_19 rfl (lv_at hl 0 rfl) ?_
  refine lv_iload_n hx hb dX12_feed_20 rfl (lv_at hl 1 rfl) ?_
  have hPc := hP.sub (ws' := [(h0, .inr (12, (o12 r))), ((r 0), .inl (cI, 1800, .inl (fun _ => 0)))]) [0, 1] rfl
  have hDc := hD.sub (ws' := [(h0, .inr (12, (o12 r))), ((r 0), .inl (cI, 1800, .inl (fun _ => 0)))]) [0, 1] (by decide) rfl
  have hFc := va_free (wc := [(h0, .inr (12, (o12 r))), ((r 0), .inl (cI, 1800, .inl (fun _ => 0)))]) hD hS hA [0, 1] rfl
  refine va_callv (va_runV (As := [.int p0]) (rest := []) ⟨hx, hb, hml, hown, hts⟩ (c_X12_put l dC dI cI cJ h0 r 0 (fun _ => 0) p0 s.heap.size (by omega)) (cwV 1 hts gX12_feed_X12_put rfl rfl rfl (by decide +kernel) ⟨Nat.le_of_ble_eq_true rfl, Nat.le_of_ble_eq_true rfl⟩) ⟨mBlind, va_recv hK hPc (ci := 12) (q0 := 0) rfl rfl, mGo hPc hK hDc hN⟩ rfl rfl hl.1 rfl (lv_room (Nat.le_of_ble_eq_true rfl)) dX12_feed_21 ⟨Nat.le_of_ble_eq_true rfl, Nat.le_of_ble_eq_true rfl⟩) hS (fun q _ h => hFc q h) hFc (fun u t H1 locs ht hvm hw hB hz1 hk1 hS => ?_)
  obtain ⟨g_2, hP1, hD1⟩ := hB
  rw [ht] at hP1
  obtain ⟨hP, hD⟩ := va_join (wr := []) (w1 := [(h0, .inr (12, (o12t r (nI (0 + 4))))), ((r 0), .inl (cI, 1800, .inl g_2))]) hP hD [0, 1] [] rfl rfl (by decide) (by decide) hk1 hFc hP1 hD1
  generalize H1 = H at hP hS ⊢
  have hP : va_P (dC, dI) vwCl [(h0, .inr (12, (o12t r (nI (0 + 4))))), ((r 0), .inl (cI, 1800, .inl g_2))] H := hP
  have hD : va_D A [(h0, .inr (12, (o12t r (nI (0 + 4))))), ((r 0), .inl (cI, 1800, .inl g_2))] := hD
  refine lv_aload_n hx hb dX12_feed_24 rfl (lv_at hl 0 rfl) ?_
  refine lv_iload_n hx hb dX12_feed_25 rfl (lv_at hl 2 rfl) ?_
  have hPc := hP.sub (ws' := [(h0, .inr (12, (o12t r (nI (0 + 4))))), ((r 0), .inl (cI, 1800, .inl g_2))]) [0, 1] rfl
  have hDc := hD.sub (ws' := [(h0, .inr (12, (o12t r (nI (0 + 4))))), ((r 0), .inl (cI, 1800, .inl g_2))]) [0, 1] (by decide) rfl
  have hFc := va_free (wc := [(h0, .inr (12, (o12t r (nI (0 + 4))))), ((r 0), .inl (cI, 1800, .inl g_2))]) hD hS hA [0, 1] rfl
  refine va_callv (va_runV (As := [.int p1]) (rest := []) ⟨hx, hb, hml, hown, hts⟩ (c_X12_put l dC dI cI cJ h0 r (0 + 4) g_2 p1 H.size (by omega)) (cwV 1 hts gX12_feed_X12_put rfl rfl rfl (by decide +kernel) ⟨Nat.le_of_ble_eq_true rfl, Nat.le_of_ble_eq_true rfl⟩) ⟨mBlind, va_recv hK hPc (ci := 12) (q0 := 0) rfl rfl, mGo hPc hK hDc hN⟩ rfl rfl hl.1 rfl (lv_room (Nat.le_of_ble_eq_true rfl)) dX12_feed_26 ⟨Nat.le_of_ble_eq_true rfl, Nat.le_of_ble_eq_true rfl⟩) hS (fun q _ h => hFc q h) hFc (fun u t H1 locs ht hvm hw hB hz1 hk1 hS => ?_)
  obtain ⟨g_4, hP1, hD1⟩ := hB
  rw [ht] at hP1
  obtain ⟨hP, hD⟩ := va_join (wr := []) (w1 := [(h0, .inr (12, (o12t r (nI ((0 + 4) + 4))))), ((r 0), .inl (cI, 1800, .inl g_4))]) hP hD [0, 1] [] rfl rfl (by decide) (by decide) hk1 hFc hP1 hD1
  generalize H1 = H at hP hS ⊢
  have hP : va_P (dC, dI) vwCl [(h0, .inr (12, (o12t r (nI ((0 + 4) + 4))))), ((r 0), .inl (cI, 1800, .inl g_4))] H := hP
  have hD : va_D A [(h0, .inr (12, (o12t r (nI ((0 + 4) + 4))))), ((r 0), .inl (cI, 1800, .inl g_4))] := hD
  refine lv_aload_n hx hb dX12_feed_29 rfl (lv_at hl 0 rfl) ?_
  refine lv_iload_n hx hb dX12_feed_30 rfl (lv_at hl 3 rfl) ?_
  have hPc := hP.sub (ws' := [(h0, .inr (12, (o12t r (nI ((0 + 4) + 4))))), ((r 0), .inl (cI, 1800, .inl g_4))]) [0, 1] rfl
  have hDc := hD.sub (ws' := [(h0, .inr (12, (o12t r (nI ((0 + 4) + 4))))), ((r 0), .inl (cI, 1800, .inl g_4))]) [0, 1] (by decide) rfl
  have hFc := va_free (wc := [(h0, .inr (12, (o12t r (nI ((0 + 4) + 4))))), ((r 0), .inl (cI, 1800, .inl g_4))]) hD hS hA [0, 1] rfl
  refine va_callv (va_runV (As := [.int p2]) (rest := []) ⟨hx, hb, hml, hown, hts⟩ (c_X12_put l dC dI cI cJ h0 r (((0 + 4) + 4)) g_4 p2 H.size (by omega)) (cwV 1 hts gX12_feed_X12_put rfl rfl rfl (by decide +kernel) ⟨Nat.le_of_ble_eq_true rfl, Nat.le_of_ble_eq_true rfl⟩) ⟨mBlind, va_recv hK hPc (ci := 12) (q0 := 0) rfl rfl, mGo hPc hK hDc hN⟩ rfl rfl hl.1 rfl (lv_room (Nat.le_of_ble_eq_true rfl)) dX12_feed_31 ⟨Nat.le_of_ble_eq_true rfl, Nat.le_of_ble_eq_true rfl⟩) hS (fun q _ h => hFc q h) hFc (fun u t H1 locs ht hvm hw hB hz1 hk1 hS => ?_)
  obtain ⟨g_6, hP1, hD1⟩ := hB
  rw [ht] at hP1
  obtain ⟨hP, hD⟩ := va_join (wr := []) (w1 := [(h0, .inr (12, (o12t r (nI (((0 + 4) + 4) + 4))))), ((r 0), .inl (cI, 1800, .inl g_6))]) hP hD [0, 1] [] rfl rfl (by decide) (by decide) hk1 hFc hP1 hD1
  generalize H1 = H at hP hS ⊢
  have hP : va_P (dC, dI) vwCl [(h0, .inr (12, (o12t r (nI (((0 + 4) + 4) + 4))))), ((r 0), .inl (cI, 1800, .inl g_6))] H := hP
  have hD : va_D A [(h0, .inr (12, (o12t r (nI (((0 + 4) + 4) + 4))))), ((r 0), .inl (cI, 1800, .inl g_6))] := hD
  refine lv_aload_n hx hb dX12_feed_34 rfl (lv_at hl 0 rfl) ?_
  refine lv_iload hx hb dX12_feed_35 (lv_at hl 4 rfl) ?_
  have hPc := hP.sub (ws' := [(h0, .inr (12, (o12t r (nI (((0 + 4) + 4) + 4))))), ((r 0), .inl (cI, 1800, .inl g_6))]) [0, 1] rfl
  have hDc := hD.sub (ws' := [(h0, .inr (12, (o12t r (nI (((0 + 4) + 4) + 4))))), ((r 0), .inl (cI, 1800, .inl g_6))]) [0, 1] (by decide) rfl
  have hFc := va_free (wc := [(h0, .inr (12, (o12t r (nI (((0 + 4) + 4) + 4))))), ((r 0), .inl (cI, 1800, .inl g_6))]) hD hS hA [0, 1] rfl
  refine va_callv (va_runV (As := [.int p3]) (rest := []) ⟨hx, hb, hml, hown, hts⟩ (c_X12_put l dC dI cI cJ h0 r ((((0 + 4) + 4) + 4)) g_6 p3 H.size (by omega)) (cwV 1 hts gX12_feed_X12_put rfl rfl rfl (by decide +kernel) ⟨Nat.le_of_ble_eq_true rfl, Nat.le_of_ble_eq_true rfl⟩) ⟨mBlind, va_recv hK hPc (ci := 12) (q0 := 0) rfl rfl, mGo hPc hK hDc hN⟩ rfl rfl hl.1 rfl (lv_room (Nat.le_of_ble_eq_true rfl)) dX12_feed_37 ⟨Nat.le_of_ble_eq_true rfl, Nat.le_of_ble_eq_true rfl⟩) hS (fun q _ h => hFc q h) hFc (fun u t H1 locs ht hvm hw hB hz1 hk1 hS => ?_)
  obtain ⟨g_8, hP1, hD1⟩ := hB
  rw [ht] at hP1
  obtain ⟨hP, hD⟩ := va_join (wr := []) (w1 := [(h0, .inr (12, (o12t r (nI ((((0 + 4) + 4) + 4) + 4))))), ((r 0), .inl (cI, 1800, .inl g_8))]) hP hD [0, 1] [] rfl rfl (by decide) (by decide) hk1 hFc hP1 hD1
  generalize H1 = H at hP hS ⊢
  have hP : va_P (dC, dI) vwCl [(h0, .inr (12, (o12t r (nI ((((0 + 4) + 4) + 4) + 4))))), ((r 0), .inl (cI, 1800, .inl g_8))] H := hP
  have hD : va_D A [(h0, .inr (12, (o12t r (nI ((((0 + 4) + 4) + 4) + 4))))), ((r 0), .inl (cI, 1800, .inl g_8))] := hD
  refine lv_aload_n hx hb dX12_feed_40 rfl (lv_at hl 0 rfl) ?_
  refine lv_iload hx hb dX12_feed_41 (lv_at hl 5 rfl) ?_
  have hPc := hP.sub (ws' := [(h0, .inr (12, (o12t r (nI ((((0 + 4) + 4) + 4) + 4))))), ((r 0), .inl (cI, 1800, .inl g_8))]) [0, 1] rfl
  have hDc := hD.sub (ws' := [(h0, .inr (12, (o12t r (nI ((((0 + 4) + 4) + 4) + 4))))), ((r 0), .inl (cI, 1800, .inl g_8))]) [0, 1] (by decide) rfl
  have hFc := va_free (wc := [(h0, .inr (12, (o12t r (nI ((((0 + 4) + 4) + 4) + 4))))), ((r 0), .inl (cI, 1800, .inl g_8))]) hD hS hA [0, 1] rfl
  refine va_callv (va_runV (As := [.int p4]) (rest := []) ⟨hx, hb, hml, hown, hts⟩ (c_X12_put l dC dI cI cJ h0 r (((((0 + 4) + 4) + 4) + 4)) g_8 p4 H.size (by omega)) (cwV 1 hts gX12_feed_X12_put rfl rfl rfl (by decide +kernel) ⟨Nat.le_of_ble_eq_true rfl, Nat.le_of_ble_eq_true rfl⟩) ⟨mBlind, va_recv hK hPc (ci := 12) (q0 := 0) rfl rfl, mGo hPc hK hDc hN⟩ rfl rfl hl.1 rfl (lv_room (Nat.le_of_ble_eq_true rfl)) dX12_feed_43 ⟨Nat.le_of_ble_eq_true rfl, Nat.le_of_ble_eq_true rfl⟩) hS (fun q _ h => hFc q h) hFc (fun u t H1 locs ht hvm hw hB hz1 hk1 hS => ?_)
  obtain ⟨g_10, hP1, hD1⟩ := hB
  rw [ht] at hP1
  obtain ⟨hP, hD⟩ := va_join (wr := []) (w1 := [(h0, .inr (12, (o12t r (nI (((((0 + 4) + 4) + 4) + 4) + 4))))), ((r 0), .inl (cI, 1800, .inl g_10))]) hP hD [0, 1] [] rfl rfl (by decide) (by decide) hk1 hFc hP1 hD1
  generalize H1 = H at hP hS ⊢
  have hP : va_P (dC, dI) vwCl [(h0, .inr (12, (o12t r (nI (((((0 + 4) + 4) + 4) + 4) + 4))))), ((r 0), .inl (cI, 1800, .inl g_10))] H := hP
  have hD : va_D A [(h0, .inr (12, (o12t r (nI (((((0 + 4) + 4) + 4) + 4) + 4))))), ((r 0), .inl (cI, 1800, .inl g_10))] := hD
  refine lv_aload_n hx hb dX12_feed_46 rfl (lv_at hl 0 rfl) ?_
  refine va_get (D := (dC, dI)) (ci := 12) (v := .int (nI (((((0 + 4) + 4) + 4) + 4) + 4))) (C := RX12) (T := TX12) (N := 98) hx hb hts h_in_X12 hown hK hP 0 rfl rfl 1 (by decide) (hts (.fieldLink RX12 13 "MatchTreesModel" "taped" "I") (by decide +kernel)) (fun _ h9 => h9) rfl dX12_feed_47 ?_
  exact W.iret (v := (nI (((((0 + 4) + 4) + 4) + 4) + 4))) hx hb hr (fun t ht hW => ⟨⟨(nI (((((0 + 4) + 4) + 4) + 4) + 4)), (), rfl, (by decide), trivial⟩, hS.F ht⟩) hS.2.2 dX12_feed_50
abbrev w0_c_X12_image (cI : ClassId) (h0 : Nat) (r : Nat → Nat) : va_W := [(h0, .inr (12, (o12 r))), ((r 45), .inl (cI, 1800, .inl (fun _ => 0))), ((r 34), .inl (cI, 22, .inl (fun _ => 0))), ((r 36), .inl (cI, 22, .inl (fun _ => 0))), ((r 37), .inl (cI, 22, .inl (fun _ => 0)))]
set_option maxHeartbeats 4000000 in
set_option maxRecDepth 100000 in
theorem c_X12_image (l : Launch) (dC : Nat → ClassId) (dI : Nat → Nat → Nat) (cI cJ : ClassId) (h0 : Nat) (r : Nat → Nat) (sz : Nat) : Met l yX12_image wsX12_image ({ frames := 2, cells := 0, slots := 0, locals := 81 }) (va_Pc [.ref h0] (mPre dC dI cI cJ sz (w0_c_X12_image cI h0 r))) (va_Qi (fun (r : Int32) (u : Unit) => r = 4) (fun _ _ => True) (va_A (w0_c_X12_image cI h0 r) sz)) 0 0 (va_A (w0_c_X12_image cI h0 r) sz) := by
  refine Met.ofW (cc := cX12_image) (maxL := 3) (ret := (some .int)) (by decide) rfl ?_
  intro p e s m args below meth c s₁ B hml hv
  obtain ⟨rfl, hsz, hP, hK, hD0, hN⟩ := hv
  have hx := B.exec
  have hb := B.bytes
  have hr := B.returns
  have hts := atoms_spec (ws := wsX12_image) B.pre
  have hown : s.vm.findClass RX12 = some m.cls := findClass_of_methodNamed B.named
  have hlocks := B.notSynchronized
  have h_in_X12 : ∀ w ∈ wsX120, w ∈ wsX12_image := fun w h => List.mem_cons_of_mem _ (List.mem_append_right _ h)
  subst hsz
  have hD := hD0.self (sz := s.heap.size)
  generalize hAe : va_A (w0_c_X12_image cI h0 r) s.heap.size = A at hD ⊢
  have hA : ∀ q : Nat, s.heap.size ≤ q → A q := fun q h => by rw [← hAe]; exact Or.inr h
  have hS : va_S A s.heap s.heap [] := va_S.rf
  have hP : va_P (dC, dI) vwCl [(h0, .inr (12, (o12 r))), ((r 45), .inl (cI, 1800, .inl (fun _ => 0))), ((r 34), .inl (cI, 22, .inl (fun _ => 0))), ((r 36), .inl (cI, 22, .inl (fun _ => 0))), ((r 37), .inl (cI, 22, .inl (fun _ => 0)))] s.heap := hP
  have hD : va_D A [(h0, .inr (12, (o12 r))), ((r 45), .inl (cI, 1800, .inl (fun _ => 0))), ((r 34), .inl (cI, 22, .inl (fun _ => 0))), ((r 36), .inl (cI, 22, .inl (fun _ => 0))), ((r 37), .inl (cI, 22, .inl (fun _ => 0)))] := hD
  have hl := lv_entry ([.ref h0]) (n := 3) (Nat.le_of_ble_eq_true rfl)
  rw [lg_entry_eq]
  generalize (lg_sl ([.ref h0]) ++ List.replicate (3 - (lg_sl ([.ref h0])).length) Slot.unset).toArray = ls at hl ⊢
  have hl : lv_has ls 3 [(0, .ref h0)] := hl
  refine lv_aload_n hx hb dX12_image_0 rfl (lv_at hl 0 rfl) ?_
  refine lv_iconst (v := 0) hx hb dX12_image_1 (by decide) ?_
  refine va_put (D := (dC, dI)) (ci := 12) (v := .int 0) (ty := .int) (C := RX12) (T := TX12) (N := 98) hx hb hts h_in_X12 tyX12 tyX12_ok nmX12 hown hK hP hD hS 0 rfl rfl 70 (by decide) (hts (.fieldLink RX12 224 "MatchTreesModel" "outs" "I") (by decide +kernel)) (fun _ h9 => h9) rfl (by decide +kernel) rfl rfl (Nat.le_of_ble_eq_true rfl) dX12_image_2 (fun H locs hP hD hS => ?_)
  have hP : va_P (dC, dI) vwCl [(h0, .inr (12, (o12 r))), ((r 45), .inl (cI, 1800, .inl (fun _ => 0))), ((r 34), .inl (cI, 22, .inl (fun _ => 0))), ((r 36), .inl (cI, 22, .inl (fun _ => 0))), ((r 37), .inl (cI, 22, .inl (fun _ => 0)))] H := hP
  have hD : va_D A [(h0, .inr (12, (o12 r))), ((r 45), .inl (cI, 1800, .inl (fun _ => 0))), ((r 34), .inl (cI, 22, .inl (fun _ => 0))), ((r 36), .inl (cI, 22, .inl (fun _ => 0))), ((r 37), .inl (cI, 22, .inl (fun _ => 0)))] := hD
  refine lv_aload_n hx hb dX12_image_5 rfl (lv_at hl 0 rfl) ?_
  refine lv_aload_n hx hb dX12_image_6 rfl (lv_at hl 0 rfl) ?_
  refine va_get (D := (dC, dI)) (ci := 12) (v := .ref (r 34)) (C := RX12) (T := TX12) (N := 98) hx hb hts h_in_X12 hown hK hP 0 rfl rfl 53 (by decide) (hts (.fieldLink RX12 173 "MatchTreesModel" "armsOf" "[I") (by decide +kernel)) (fun _ h9 => h9) rfl dX12_image_7 ?_
  refine lv_iconst (v := 0) hx hb dX12_image_10 (by decide) ?_
  refine va_iald hx hb hK hP 2 0 rfl rfl (vpd (by decide)) dX12_image_11 ?_
  refine lv_topi (fun t9 e9 => ?_)
  obtain rfl : t9 = 0 := e9
  have hPc := hP.sub (ws' := [(h0, .inr (12, (o12 r))), ((r 45), .inl (cI, 1800, .inl (fun _ => 0)))]) [0, 1] rfl
  have hDc := hD.sub (ws' := [(h0, .inr (12, (o12 r))), ((r 45), .inl (cI, 1800, .inl (fun _ => 0)))]) [0, 1] (by decide) rfl
  have hFc := va_free (wc := [(h0, .inr (12, (o12 r))), ((r 45), .inl (cI, 1800, .inl (fun _ => 0)))]) hD hS hA [0, 1] rfl
  refine va_callv (va_runV (As := [.int 0]) (rest := []) ⟨hx, hb, hml, hown, hts⟩ (c_X12_writes l dC dI cI cJ h0 r 0 (fun _ => 0) 0 H.size (by omega)) (cwV 1 hts gX12_image_X12_writes rfl rfl rfl (by decide +kernel) ⟨Nat.le_of_ble_eq_true rfl, Nat.le_of_ble_eq_true rfl⟩) ⟨mBlind, va_recv hK hPc (ci := 12) (q0 := 0) rfl rfl, mGo hPc hK hDc hN⟩ rfl rfl hl.1 rfl (lv_room (Nat.le_of_ble_eq_true rfl)) dX12_image_12 ⟨Nat.le_of_ble_eq_true rfl, Nat.le_of_ble_eq_true rfl⟩) hS (fun q _ h => hFc q h) hFc (fun u t H1 locs ht hvm hw hB hz1 hk1 hS => ?_)
  obtain ⟨g_2, hP1, hD1⟩ := hB
  rw [ht] at hP1
  obtain ⟨hP, hD⟩ := va_join (wr := [((r 34), .inl (cI, 22, .inl (fun _ => 0))), ((r 36), .inl (cI, 22, .inl (fun _ => 0))), ((r 37), .inl (cI, 22, .inl (fun _ => 0)))]) (w1 := [(h0, .inr (12, (o12w r (nI (0 + 1))))), ((r 45), .inl (cI, 1800, .inl g_2))]) hP hD [0, 1] [2, 3, 4] rfl rfl (by decide) (by decide) hk1 hFc hP1 hD1
  generalize H1 = H at hP hS ⊢
  have hP : va_P (dC, dI) vwCl [((r 34), .inl (cI, 22, .inl (fun _ => 0))), ((r 36), .inl (cI, 22, .inl (fun _ => 0))), ((r 37), .inl (cI, 22, .inl (fun _ => 0))), (h0, .inr (12, (o12w r (nI (0 + 1))))), ((r 45), .inl (cI, 1800, .inl g_2))] H := hP
  have hD : va_D A [((r 34), .inl (cI, 22, .inl (fun _ => 0))), ((r 36), .inl (cI, 22, .inl (fun _ => 0))), ((r 37), .inl (cI, 22, .inl (fun _ => 0))), (h0, .inr (12, (o12w r (nI (0 + 1))))), ((r 45), .inl (cI, 1800, .inl g_2))] := hD
  refine lv_iconst (v := 0) hx hb dX12_image_15 (by decide) ?_
  refine lv_istore_n (lv' := [(1, .int 0), (0, .ref h0)]) hx hb dX12_image_16 rfl hl (by decide) rfl (fun ls hl => ?_)
  refine lv_iload_n hx hb dX12_image_17 rfl (lv_at hl 0 rfl) ?_
  refine lv_aload_n hx hb dX12_image_18 rfl (lv_at hl 1 rfl) ?_
  refine va_get (D := (dC, dI)) (ci := 12) (v := .ref (r 34)) (C := RX12) (T := TX12) (N := 98) hx hb hts h_in_X12 hown hK hP 3 rfl rfl 53 (by decide) (hts (.fieldLink RX12 173 "MatchTreesModel" "armsOf" "[I") (by decide +kernel)) (fun _ h9 => h9) rfl dX12_image_19 ?_
  refine lv_iconst (v := 0) hx hb dX12_image_22 (by decide) ?_
  refine va_iald hx hb hK hP 0 0 rfl rfl (vpd (by decide)) dX12_image_23 ?_
  refine lv_topi (fun t9 e9 => ?_)
  obtain rfl : t9 = 0 := e9
  refine lv_icmp_ge (tgt := 43) hx hb dX12_image_24 (by decide) (fun _ => ?_) (fun c => absurd (by decide) c)
  refine lv_aload_n hx hb dX12_image_43 rfl (lv_at hl 1 rfl) ?_
  refine lv_aload_n hx hb dX12_image_44 rfl (lv_at hl 1 rfl) ?_
  refine va_get (D := (dC, dI)) (ci := 12) (v := .ref (r 36)) (C := RX12) (T := TX12) (N := 98) hx hb hts h_in_X12 hown hK hP 3 rfl rfl 55 (by decide) (hts (.fieldLink RX12 179 "MatchTreesModel" "guardsOf" "[I") (by decide +kernel)) (fun _ h9 => h9) rfl dX12_image_45 ?_
  refine lv_iconst (v := 0) hx hb dX12_image_48 (by decide) ?_
  refine va_iald hx hb hK hP 1 0 rfl rfl (vpd (by decide)) dX12_image_49 ?_
  refine lv_topi (fun t9 e9 => ?_)
  obtain rfl : t9 = 0 := e9
  have hPc := hP.sub (ws' := [(h0, .inr (12, (o12w r (nI (0 + 1))))), ((r 45), .inl (cI, 1800, .inl g_2))]) [3, 4] rfl
  have hDc := hD.sub (ws' := [(h0, .inr (12, (o12w r (nI (0 + 1))))), ((r 45), .inl (cI, 1800, .inl g_2))]) [3, 4] (by decide) rfl
  have hFc := va_free (wc := [(h0, .inr (12, (o12w r (nI (0 + 1))))), ((r 45), .inl (cI, 1800, .inl g_2))]) hD hS hA [3, 4] rfl
  refine va_callv (va_runV (As := [.int 0]) (rest := []) ⟨hx, hb, hml, hown, hts⟩ (c_X12_writes l dC dI cI cJ h0 r (0 + 1) g_2 0 H.size (by omega)) (cwV 1 hts gX12_image_X12_writes rfl rfl rfl (by decide +kernel) ⟨Nat.le_of_ble_eq_true rfl, Nat.le_of_ble_eq_true rfl⟩) ⟨mBlind, va_recv hK hPc (ci := 12) (q0 := 0) rfl rfl, mGo hPc hK hDc hN⟩ rfl rfl hl.1 rfl (lv_room (Nat.le_of_ble_eq_true rfl)) dX12_image_50 ⟨Nat.le_of_ble_eq_true rfl, Nat.le_of_ble_eq_true rfl⟩) hS (fun q _ h => hFc q h) hFc (fun u t H1 locs ht hvm hw hB hz1 hk1 hS => ?_)
  obtain ⟨g_4, hP1, hD1⟩ := hB
  rw [ht] at hP1
  obtain ⟨hP, hD⟩ := va_join (wr := [((r 34), .inl (cI, 22, .inl (fun _ => 0))), ((r 36), .inl (cI, 22, .inl (fun _ => 0))), ((r 37), .inl (cI, 22, .inl (fun _ => 0)))]) (w1 := [(h0, .inr (12, (o12w r (nI ((0 + 1) + 1))))), ((r 45), .inl (cI, 1800, .inl g_4))]) hP hD [3, 4] [0, 1, 2] rfl rfl (by decide) (by decide) hk1 hFc hP1 hD1
  generalize H1 = H at hP hS ⊢
  have hP : va_P (dC, dI) vwCl [((r 34), .inl (cI, 22, .inl (fun _ => 0))), ((r 36), .inl (cI, 22, .inl (fun _ => 0))), ((r 37), .inl (cI, 22, .inl (fun _ => 0))), (h0, .inr (12, (o12w r (nI ((0 + 1) + 1))))), ((r 45), .inl (cI, 1800, .inl g_4))] H := hP
  have hD : va_D A [((r 34), .inl (cI, 22, .inl (fun _ => 0))), ((r 36), .inl (cI, 22, .inl (fun _ => 0))), ((r 37), .inl (cI, 22, .inl (fun _ => 0))), (h0, .inr (12, (o12w r (nI ((0 + 1) + 1))))), ((r 45), .inl (cI, 1800, .inl g_4))] := hD
  refine lv_aload_n hx hb dX12_image_53 rfl (lv_at hl 1 rfl) ?_
  refine lv_aload_n hx hb dX12_image_54 rfl (lv_at hl 1 rfl) ?_
  refine va_get (D := (dC, dI)) (ci := 12) (v := .ref (r 37)) (C := RX12) (T := TX12) (N := 98) hx hb hts h_in_X12 hown hK hP 3 rfl rfl 56 (by decide) (hts (.fieldLink RX12 182 "MatchTreesModel" "ruleOf" "[I") (by decide +kernel)) (fun _ h9 => h9) rfl dX12_image_55 ?_
  refine lv_iconst (v := 0) hx hb dX12_image_58 (by decide) ?_
  refine va_iald hx hb hK hP 2 0 rfl rfl (vpd (by decide)) dX12_image_59 ?_
  refine lv_topi (fun t9 e9 => ?_)
  obtain rfl : t9 = 0 := e9
  have hPc := hP.sub (ws' := [(h0, .inr (12, (o12w r (nI ((0 + 1) + 1))))), ((r 45), .inl (cI, 1800, .inl g_4))]) [3, 4] rfl
  have hDc := hD.sub (ws' := [(h0, .inr (12, (o12w r (nI ((0 + 1) + 1))))), ((r 45), .inl (cI, 1800, .inl g_4))]) [3, 4] (by decide) rfl
  have hFc := va_free (wc := [(h0, .inr (12, (o12w r (nI ((0 + 1) + 1))))), ((r 45), .inl (cI, 1800, .inl g_4))]) hD hS hA [3, 4] rfl
  refine va_callv (va_runV (As := [.int 0]) (rest := []) ⟨hx, hb, hml, hown, hts⟩ (c_X12_writes l dC dI cI cJ h0 r (((0 + 1) + 1)) g_4 0 H.size (by omega)) (cwV 1 hts gX12_image_X12_writes rfl rfl rfl (by decide +kernel) ⟨Nat.le_of_ble_eq_true rfl, Nat.le_of_ble_eq_true rfl⟩) ⟨mBlind, va_recv hK hPc (ci := 12) (q0 := 0) rfl rfl, mGo hPc hK hDc hN⟩ rfl rfl hl.1 rfl (lv_room (Nat.le_of_ble_eq_true rfl)) dX12_image_60 ⟨Nat.le_of_ble_eq_true rfl, Nat.le_of_ble_eq_true rfl⟩) hS (fun q _ h => hFc q h) hFc (fun u t H1 locs ht hvm hw hB hz1 hk1 hS => ?_)
  obtain ⟨g_6, hP1, hD1⟩ := hB
  rw [ht] at hP1
  obtain ⟨hP, hD⟩ := va_join (wr := [((r 34), .inl (cI, 22, .inl (fun _ => 0))), ((r 36), .inl (cI, 22, .inl (fun _ => 0))), ((r 37), .inl (cI, 22, .inl (fun _ => 0)))]) (w1 := [(h0, .inr (12, (o12w r (nI (((0 + 1) + 1) + 1))))), ((r 45), .inl (cI, 1800, .inl g_6))]) hP hD [3, 4] [0, 1, 2] rfl rfl (by decide) (by decide) hk1 hFc hP1 hD1
  generalize H1 = H at hP hS ⊢
  have hP : va_P (dC, dI) vwCl [((r 34), .inl (cI, 22, .inl (fun _ => 0))), ((r 36), .inl (cI, 22, .inl (fun _ => 0))), ((r 37), .inl (cI, 22, .inl (fun _ => 0))), (h0, .inr (12, (o12w r (nI (((0 + 1) + 1) + 1))))), ((r 45), .inl (cI, 1800, .inl g_6))] H := hP
  have hD : va_D A [((r 34), .inl (cI, 22, .inl (fun _ => 0))), ((r 36), .inl (cI, 22, .inl (fun _ => 0))), ((r 37), .inl (cI, 22, .inl (fun _ => 0))), (h0, .inr (12, (o12w r (nI (((0 + 1) + 1) + 1))))), ((r 45), .inl (cI, 1800, .inl g_6))] := hD
  refine lv_sipush (v := 199) hx hb dX12_image_63 (by decide) ?_
  refine lv_istore_n (lv' := [(1, .int 199), (0, .ref h0)]) hx hb dX12_image_66 rfl hl (by decide) rfl (fun ls hl => ?_)
  refine lv_iconst (v := 0) hx hb dX12_image_67 (by decide) ?_
  refine lv_istore_n (lv' := [(2, .int 0), (1, .int 199), (0, .ref h0)]) hx hb dX12_image_68 rfl hl (by decide) rfl (fun ls hl => ?_)
  refine lv_iload_n hx hb dX12_image_69 rfl (lv_at hl 0 rfl) ?_
  refine lv_aload_n hx hb dX12_image_70 rfl (lv_at hl 2 rfl) ?_
  refine va_get (D := (dC, dI)) (ci := 12) (v := .int (nI (((0 + 1) + 1) + 1))) (C := RX12) (T := TX12) (N := 98) hx hb hts h_in_X12 hown hK hP 3 rfl rfl 70 (by decide) (hts (.fieldLink RX12 224 "MatchTreesModel" "outs" "I") (by decide +kernel)) (fun _ h9 => h9) rfl dX12_image_71 ?_
  refine lv_icmp_ge (tgt := 98) hx hb dX12_image_74 (by decide) (fun c => absurd c (by decide)) (fun _ => ?_)
  refine lv_iconst (v := 5) hx hb dX12_image_77 (by decide) ?_
  refine lv_iload_n hx hb dX12_image_78 rfl (lv_at hl 1 rfl) ?_
  refine k_imul (v := 995) hx hb (by decide) dX12_image_79 ?_
  refine lv_aload_n hx hb dX12_image_80 rfl (lv_at hl 2 rfl) ?_
  refine va_get (D := (dC, dI)) (ci := 12) (v := .ref (r 45)) (C := RX12) (T := TX12) (N := 98) hx hb hts h_in_X12 hown hK hP 3 rfl rfl 69 (by decide) (hts (.fieldLink RX12 221 "MatchTreesModel" "out" "[I") (by decide +kernel)) (fun _ h9 => h9) rfl dX12_image_81 ?_
  refine lv_iload_n hx hb dX12_image_84 rfl (lv_at hl 0 rfl) ?_
  refine va_iald hx hb hK hP 4 0 rfl rfl (vpd (by decide)) dX12_image_85 ?_
  refine lv_topi (fun f_7 e_f_7 => ?_)
  refine lv_iadd hx hb dX12_image_86 ?_
  refine lv_topi (fun f_8 e_f_8 => ?_)
  refine lv_sipush (v := 251) hx hb dX12_image_87 (by decide) ?_
  refine lv_irem hx hb dX12_image_90 (by decide) ?_
  refine lv_topi (fun f_9 e_f_9 => ?_)
  refine lv_istore_n (lv' := [(1, .int f_9), (2, .int 0), (0, .ref h0)]) hx hb dX12_image_91 rfl hl (by decide) rfl (fun ls hl => ?_)
  refine lv_iinc (v := 1) (lv' := [(2, .int 1), (1, .int f_9), (0, .ref h0)]) hx hb dX12_image_92 hl (k := 1) rfl (by decide) (by decide) rfl (fun ls hl => ?_)
  refine lv_goto (tgt := 69) hx hb dX12_image_95 (by decide) ?_
  refine lv_iload_n hx hb dX12_image_69 rfl (lv_at hl 0 rfl) ?_
  refine lv_aload_n hx hb dX12_image_70 rfl (lv_at hl 2 rfl) ?_
  refine va_get (D := (dC, dI)) (ci := 12) (v := .int (nI (((0 + 1) + 1) + 1))) (C := RX12) (T := TX12) (N := 98) hx hb hts h_in_X12 hown hK hP 3 rfl rfl 70 (by decide) (hts (.fieldLink RX12 224 "MatchTreesModel" "outs" "I") (by decide +kernel)) (fun _ h9 => h9) rfl dX12_image_71 ?_
  refine lv_icmp_ge (tgt := 98) hx hb dX12_image_74 (by decide) (fun c => absurd c (by decide)) (fun _ => ?_)
  refine lv_iconst (v := 5) hx hb dX12_image_77 (by decide) ?_
  refine lv_iload_n hx hb dX12_image_78 rfl (lv_at hl 1 rfl) ?_
  refine lv_imul hx hb dX12_image_79 ?_
  refine lv_topi (fun f_10 e_f_10 => ?_)
  refine lv_aload_n hx hb dX12_image_80 rfl (lv_at hl 2 rfl) ?_
  refine va_get (D := (dC, dI)) (ci := 12) (v := .ref (r 45)) (C := RX12) (T := TX12) (N := 98) hx hb hts h_in_X12 hown hK hP 3 rfl rfl 69 (by decide) (hts (.fieldLink RX12 221 "MatchTreesModel" "out" "[I") (by decide +kernel)) (fun _ h9 => h9) rfl dX12_image_81 ?_
  refine lv_iload_n hx hb dX12_image_84 rfl (lv_at hl 0 rfl) ?_
  refine va_iald hx hb hK hP 4 0 rfl rfl (vpd (by decide)) dX12_image_85 ?_
  refine lv_topi (fun f_11 e_f_11 => ?_)
  refine lv_iadd hx hb dX12_image_86 ?_
  refine lv_topi (fun f_12 e_f_12 => ?_)
  refine lv_sipush (v := 251) hx hb dX12_image_87 (by decide) ?_
  refine lv_irem hx hb dX12_image_90 (by decide) ?_
  refine lv_topi (fun f_13 e_f_13 => ?_)
  refine lv_istore_n (lv' := [(1, .int f_13), (2, .int 1), (0, .ref h0)]) hx hb dX12_image_91 rfl hl (by decide) rfl (fun ls hl => ?_)
  refine lv_iinc (v := 2) (lv' := [(2, .int 2), (1, .int f_13), (0, .ref h0)]) hx hb dX12_image_92 hl (k := 1) rfl (by decide) (by decide) rfl (fun ls hl => ?_)
  refine lv_goto (tgt := 69) hx hb dX12_image_95 (by decide) ?_
  refine lv_iload_n hx hb dX12_image_69 rfl (lv_at hl 0 rfl) ?_
  refine lv_aload_n hx hb dX12_image_70 rfl (lv_at hl 2 rfl) ?_
  refine va_get (D := (dC, dI)) (ci := 12) (v := .int (nI (((0 + 1) + 1) + 1))) (C := RX12) (T := TX12) (N := 98) hx hb hts h_in_X12 hown hK hP 3 rfl rfl 70 (by decide) (hts (.fieldLink RX12 224 "MatchTreesModel" "outs" "I") (by decide +kernel)) (fun _ h9 => h9) rfl dX12_image_71 ?_
  refine lv_icmp_ge (tgt := 98) hx hb dX12_image_74 (by decide) (fun c => absurd c (by decide)) (fun _ => ?_)
  refine lv_iconst (v := 5) hx hb dX12_image_77 (by decide) ?_
  refine lv_iload_n hx hb dX12_image_78 rfl (lv_at hl 1 rfl) ?_
  refine lv_imul hx hb dX12_image_79 ?_
  refine lv_topi (fun f_14 e_f_14 => ?_)
  refine lv_aload_n hx hb dX12_image_80 rfl (lv_at hl 2 rfl) ?_
  refine va_get (D := (dC, dI)) (ci := 12) (v := .ref (r 45)) (C := RX12) (T := TX12) (N := 98) hx hb hts h_in_X12 hown hK hP 3 rfl rfl 69 (by decide) (hts (.fieldLink RX12 221 "MatchTreesModel" "out" "[I") (by decide +kernel)) (fun _ h9 => h9) rfl dX12_image_81 ?_
  refine lv_iload_n hx hb dX12_image_84 rfl (lv_at hl 0 rfl) ?_
  refine va_iald hx hb hK hP 4 0 rfl rfl (vpd (by decide)) dX12_image_85 ?_
  refine lv_topi (fun f_15 e_f_15 => ?_)
  refine lv_iadd hx hb dX12_image_86 ?_
  refine lv_topi (fun f_16 e_f_16 => ?_)
  refine lv_sipush (v := 251) hx hb dX12_image_87 (by decide) ?_
  refine lv_irem hx hb dX12_image_90 (by decide) ?_
  refine lv_topi (fun f_17 e_f_17 => ?_)
  refine lv_istore_n (lv' := [(1, .int f_17), (2, .int 2), (0, .ref h0)]) hx hb dX12_image_91 rfl hl (by decide) rfl (fun ls hl => ?_)
  refine lv_iinc (v := 3) (lv' := [(2, .int 3), (1, .int f_17), (0, .ref h0)]) hx hb dX12_image_92 hl (k := 1) rfl (by decide) (by decide) rfl (fun ls hl => ?_)
  refine lv_goto (tgt := 69) hx hb dX12_image_95 (by decide) ?_
  refine lv_iload_n hx hb dX12_image_69 rfl (lv_at hl 0 rfl) ?_
  refine lv_aload_n hx hb dX12_image_70 rfl (lv_at hl 2 rfl) ?_
  refine va_get (D := (dC, dI)) (ci := 12) (v := .int (nI (((0 + 1) + 1) + 1))) (C := RX12) (T := TX12) (N := 98) hx hb hts h_in_X12 hown hK hP 3 rfl rfl 70 (by decide) (hts (.fieldLink RX12 224 "MatchTreesModel" "outs" "I") (by decide +kernel)) (fun _ h9 => h9) rfl dX12_image_71 ?_
  refine lv_icmp_ge (tgt := 98) hx hb dX12_image_74 (by decide) (fun _ => ?_) (fun c => absurd (by decide) c)
  refine lv_aload_n hx hb dX12_image_98 rfl (lv_at hl 2 rfl) ?_
  refine lv_iload_n hx hb dX12_image_99 rfl (lv_at hl 1 rfl) ?_
  have hPc := hP.sub (ws' := [(h0, .inr (12, (o12w r (nI (((0 + 1) + 1) + 1))))), ((r 45), .inl (cI, 1800, .inl g_6))]) [3, 4] rfl
  have hDc := hD.sub (ws' := [(h0, .inr (12, (o12w r (nI (((0 + 1) + 1) + 1))))), ((r 45), .inl (cI, 1800, .inl g_6))]) [3, 4] (by decide) rfl
  have hFc := va_free (wc := [(h0, .inr (12, (o12w r (nI (((0 + 1) + 1) + 1))))), ((r 45), .inl (cI, 1800, .inl g_6))]) hD hS hA [3, 4] rfl
  refine va_callv (va_runV (As := [.int f_17]) (rest := []) ⟨hx, hb, hml, hown, hts⟩ (c_X12_writes l dC dI cI cJ h0 r ((((0 + 1) + 1) + 1)) g_6 f_17 H.size (by omega)) (cwV 1 hts gX12_image_X12_writes rfl rfl rfl (by decide +kernel) ⟨Nat.le_of_ble_eq_true rfl, Nat.le_of_ble_eq_true rfl⟩) ⟨mBlind, va_recv hK hPc (ci := 12) (q0 := 0) rfl rfl, mGo hPc hK hDc hN⟩ rfl rfl hl.1 rfl (lv_room (Nat.le_of_ble_eq_true rfl)) dX12_image_100 ⟨Nat.le_of_ble_eq_true rfl, Nat.le_of_ble_eq_true rfl⟩) hS (fun q _ h => hFc q h) hFc (fun u t H1 locs ht hvm hw hB hz1 hk1 hS => ?_)
  obtain ⟨g_19, hP1, hD1⟩ := hB
  rw [ht] at hP1
  obtain ⟨hP, hD⟩ := va_join (wr := [((r 34), .inl (cI, 22, .inl (fun _ => 0))), ((r 36), .inl (cI, 22, .inl (fun _ => 0))), ((r 37), .inl (cI, 22, .inl (fun _ => 0)))]) (w1 := [(h0, .inr (12, (o12w r (nI ((((0 + 1) + 1) + 1) + 1))))), ((r 45), .inl (cI, 1800, .inl g_19))]) hP hD [3, 4] [0, 1, 2] rfl rfl (by decide) (by decide) hk1 hFc hP1 hD1
  generalize H1 = H at hP hS ⊢
  have hP : va_P (dC, dI) vwCl [((r 34), .inl (cI, 22, .inl (fun _ => 0))), ((r 36), .inl (cI, 22, .inl (fun _ => 0))), ((r 37), .inl (cI, 22, .inl (fun _ => 0))), (h0, .inr (12, (o12w r (nI ((((0 + 1) + 1) + 1) + 1))))), ((r 45), .inl (cI, 1800, .inl g_19))] H := hP
  have hD : va_D A [((r 34), .inl (cI, 22, .inl (fun _ => 0))), ((r 36), .inl (cI, 22, .inl (fun _ => 0))), ((r 37), .inl (cI, 22, .inl (fun _ => 0))), (h0, .inr (12, (o12w r (nI ((((0 + 1) + 1) + 1) + 1))))), ((r 45), .inl (cI, 1800, .inl g_19))] := hD
  refine lv_aload_n hx hb dX12_image_103 rfl (lv_at hl 2 rfl) ?_
  refine va_get (D := (dC, dI)) (ci := 12) (v := .int (nI ((((0 + 1) + 1) + 1) + 1))) (C := RX12) (T := TX12) (N := 98) hx hb hts h_in_X12 hown hK hP 3 rfl rfl 70 (by decide) (hts (.fieldLink RX12 224 "MatchTreesModel" "outs" "I") (by decide +kernel)) (fun _ h9 => h9) rfl dX12_image_104 ?_
  exact W.iret (v := (nI ((((0 + 1) + 1) + 1) + 1))) hx hb hr (fun t ht hW => ⟨⟨(nI ((((0 + 1) + 1) + 1) + 1)), (), rfl, (by decide), trivial⟩, hS.F ht⟩) hS.2.2 dX12_image_107
abbrev w0_c_X12_ahead (cI : ClassId) (h0 : Nat) (r : Nat → Nat) : va_W := [(h0, .inr (12, (o12 r)))]
set_option maxHeartbeats 4000000 in
set_option maxRecDepth 100000 in
theorem c_X12_ahead (l : Launch) (dC : Nat → ClassId) (dI : Nat → Nat → Nat) (cI cJ : ClassId) (h0 : Nat) (r : Nat → Nat) (sz : Nat) : Met l yX12_ahead wsX12_ahead ({ frames := 1, cells := 0, slots := 0, locals := 60 }) (va_Pc [.ref h0] (mPre dC dI cI cJ sz (w0_c_X12_ahead cI h0 r))) (va_Qv (fun _ : Unit => True) (fun (u : Unit) (t : State) => va_P (dC, dI) vwCl [(h0, .inr (12, (o12 r)))] t.heap ∧ va_D (va_A (w0_c_X12_ahead cI h0 r) sz) [(h0, .inr (12, (o12 r)))]) (va_A (w0_c_X12_ahead cI h0 r) sz)) 0 0 (va_A (w0_c_X12_ahead cI h0 r) sz) := by
  refine Met.ofW (cc := cX12_ahead) (maxL := 6) (ret := none) (by decide) rfl ?_
  intro p e s m args below meth c s₁ B hml hv
  obtain ⟨rfl, hsz, hP, hK, hD0, hN⟩ := hv
  have hx := B.exec
  have hb := B.bytes
  have hr := B.returns
  have hts := atoms_spec (ws := wsX12_ahead) B.pre
  have hown : s.vm.findClass RX12 = some m.cls := findClass_of_methodNamed B.named
  have hlocks := B.notSynchronized
  have h_in_X12 : ∀ w ∈ wsX120, w ∈ wsX12_ahead := fun w h => List.mem_cons_of_mem _ (List.mem_append_right _ h)
  subst hsz
  have hD := hD0.self (sz := s.heap.size)
  generalize hAe : va_A (w0_c_X12_ahead cI h0 r) s.heap.size = A at hD ⊢
  have hA : ∀ q : Nat, s.heap.size ≤ q → A q := fun q h => by rw [← hAe]; exact Or.inr h
  have hS : va_S A s.heap s.heap [] := va_S.rf
  have hP : va_P (dC, dI) vwCl [(h0, .inr (12, (o12 r)))] s.heap := hP
  have hD : va_D A [(h0, .inr (12, (o12 r)))] := hD
  have hl := lv_entry ([.ref h0]) (n := 6) (Nat.le_of_ble_eq_true rfl)
  rw [lg_entry_eq]
  generalize (lg_sl ([.ref h0]) ++ List.replicate (6 - (lg_sl ([.ref h0])).length) Slot.unset).toArray = ls at hl ⊢
  have hl : lv_has ls 6 [(0, .ref h0)] := hl
  refine lv_aload_n hx hb dX12_ahead_0 rfl (lv_at hl 0 rfl) ?_
  refine va_get (D := (dC, dI)) (ci := 12) (v := .int 0) (C := RX12) (T := TX12) (N := 98) hx hb hts h_in_X12 hown hK hP 0 rfl rfl 5 (by decide) (hts (.fieldLink RX12 26 "MatchTreesModel" "signEnd" "I") (by decide +kernel)) (fun _ h9 => h9) rfl dX12_ahead_1 ?_
  refine lv_istore_n (lv' := [(1, .int 0), (0, .ref h0)]) hx hb dX12_ahead_4 rfl hl (by decide) rfl (fun ls hl => ?_)
  refine lv_iload_n hx hb dX12_ahead_5 rfl (lv_at hl 0 rfl) ?_
  refine lv_aload_n hx hb dX12_ahead_6 rfl (lv_at hl 1 rfl) ?_
  refine va_get (D := (dC, dI)) (ci := 12) (v := .int 0) (C := RX12) (T := TX12) (N := 98) hx hb hts h_in_X12 hown hK hP 0 rfl rfl 2 (by decide) (hts (.fieldLink RX12 17 "MatchTreesModel" "size" "I") (by decide +kernel)) (fun _ h9 => h9) rfl dX12_ahead_7 ?_
  refine lv_icmp_ge (tgt := 41) hx hb dX12_ahead_10 (by decide) (fun _ => ?_) (fun c => absurd (by decide) c)
  refine lv_aload_n hx hb dX12_ahead_41 rfl (lv_at hl 1 rfl) ?_
  refine lv_iload_n hx hb dX12_ahead_42 rfl (lv_at hl 0 rfl) ?_
  refine va_put (D := (dC, dI)) (ci := 12) (v := .int 0) (ty := .int) (C := RX12) (T := TX12) (N := 98) hx hb hts h_in_X12 tyX12 tyX12_ok nmX12 hown hK hP hD hS 0 rfl rfl 4 (by decide) (hts (.fieldLink RX12 23 "MatchTreesModel" "signAt" "I") (by decide +kernel)) (fun _ h9 => h9) rfl (by decide +kernel) rfl rfl (Nat.le_of_ble_eq_true rfl) dX12_ahead_43 (fun H locs hP hD hS => ?_)
  have hP : va_P (dC, dI) vwCl [(h0, .inr (12, (o12 r)))] H := hP
  have hD : va_D A [(h0, .inr (12, (o12 r)))] := hD
  refine lv_aload_n hx hb dX12_ahead_46 rfl (lv_at hl 1 rfl) ?_
  refine lv_iload_n hx hb dX12_ahead_47 rfl (lv_at hl 0 rfl) ?_
  refine va_put (D := (dC, dI)) (ci := 12) (v := .int 0) (ty := .int) (C := RX12) (T := TX12) (N := 98) hx hb hts h_in_X12 tyX12 tyX12_ok nmX12 hown hK hP hD hS 0 rfl rfl 5 (by decide) (hts (.fieldLink RX12 26 "MatchTreesModel" "signEnd" "I") (by decide +kernel)) (fun _ h9 => h9) rfl (by decide +kernel) rfl rfl (Nat.le_of_ble_eq_true rfl) dX12_ahead_48 (fun H locs hP hD hS => ?_)
  have hP : va_P (dC, dI) vwCl [(h0, .inr (12, (o12 r)))] H := hP
  have hD : va_D A [(h0, .inr (12, (o12 r)))] := hD
  refine lv_aload_n hx hb dX12_ahead_51 rfl (lv_at hl 1 rfl) ?_
  refine lv_iconst (v := 0) hx hb dX12_ahead_52 (by decide) ?_
  refine va_put (D := (dC, dI)) (ci := 12) (v := .int 0) (ty := .int) (C := RX12) (T := TX12) (N := 98) hx hb hts h_in_X12 tyX12 tyX12_ok nmX12 hown hK hP hD hS 0 rfl rfl 3 (by decide) (hts (.fieldLink RX12 20 "MatchTreesModel" "sign" "I") (by decide +kernel)) (fun _ h9 => h9) rfl (by decide +kernel) rfl rfl (Nat.le_of_ble_eq_true rfl) dX12_ahead_53 (fun H locs hP hD hS => ?_)
  have hP : va_P (dC, dI) vwCl [(h0, .inr (12, (o12 r)))] H := hP
  have hD : va_D A [(h0, .inr (12, (o12 r)))] := hD
  refine lv_aload_n hx hb dX12_ahead_56 rfl (lv_at hl 1 rfl) ?_
  refine lv_iconst (v := (-1)) hx hb dX12_ahead_57 (by decide) ?_
  refine va_put (D := (dC, dI)) (ci := 12) (v := .int (-1)) (ty := .int) (C := RX12) (T := TX12) (N := 98) hx hb hts h_in_X12 tyX12 tyX12_ok nmX12 hown hK hP hD hS 0 rfl rfl 12 (by decide) (hts (.fieldLink RX12 48 "MatchTreesModel" "lexAt" "I") (by decide +kernel)) (fun _ h9 => h9) rfl (by decide +kernel) rfl rfl (Nat.le_of_ble_eq_true rfl) dX12_ahead_58 (fun H locs hP hD hS => ?_)
  have hP : va_P (dC, dI) vwCl [(h0, .inr (12, (o12 r)))] H := hP
  have hD : va_D A [(h0, .inr (12, (o12 r)))] := hD
  refine lv_iload_n hx hb dX12_ahead_61 rfl (lv_at hl 0 rfl) ?_
  refine lv_aload_n hx hb dX12_ahead_62 rfl (lv_at hl 1 rfl) ?_
  refine va_get (D := (dC, dI)) (ci := 12) (v := .int 0) (C := RX12) (T := TX12) (N := 98) hx hb hts h_in_X12 hown hK hP 0 rfl rfl 2 (by decide) (hts (.fieldLink RX12 17 "MatchTreesModel" "size" "I") (by decide +kernel)) (fun _ h9 => h9) rfl dX12_ahead_63 ?_
  refine lv_icmp_lt (tgt := 70) hx hb dX12_ahead_66 (by decide) (fun c => absurd c (by decide)) (fun _ => ?_)
  have hP9 := hP.sub (ws' := [(h0, .inr (12, (o12 r)))]) [0] rfl
  have hD9 := hD.sub (ws' := [(h0, .inr (12, (o12 r)))]) [0] (by decide) rfl
  exact W.vret hx hb hr (fun t ht hW => ⟨⟨(), rfl, trivial, by rw [ht]; exact hP9, hD9⟩, hS.F ht⟩) hS.2.2 dX12_ahead_69
abbrev w0_c_X12_blame_1_0 (cI : ClassId) (h0 : Nat) (r : Nat → Nat) : va_W := [(h0, .inr (12, (o12 r)))]
set_option maxHeartbeats 4000000 in
set_option maxRecDepth 100000 in
theorem c_X12_blame_1_0 (l : Launch) (dC : Nat → ClassId) (dI : Nat → Nat → Nat) (cI cJ : ClassId) (h0 : Nat) (r : Nat → Nat) (sz : Nat) : Met l yX12_blame wsX12_blame ({ frames := 1, cells := 0, slots := 0, locals := 60 }) (va_Pc [.ref h0, .int 1, .int 0] (mPre dC dI cI cJ sz (w0_c_X12_blame_1_0 cI h0 r))) (va_Qv (fun _ : Unit => True) (fun (u : Unit) (t : State) => va_P (dC, dI) vwCl [(h0, .inr (12, [.ref (r 0), .int 0, .int 0, .int 0, .int 0, .int 0, .int 0, .long 0, .int 1, .int 0, .int 0, .int (-1), .int (-1), .int 0, .ref (r 1), .ref (r 2), .ref (r 3), .ref (r 4), .ref (r 5), .ref (r 6), .ref (r 7), .ref (r 8), .ref (r 9), .ref (r 10), .ref (r 11), .ref (r 12), .ref (r 13), .ref (r 14), .ref (r 15), .ref (r 16), .ref (r 17), .ref (r 18), .ref (r 19), .ref (r 20), .ref (r 21), .ref (r 22), .int 0, .int 1, .int 0, .ref (r 23), .ref (r 24), .ref (r 25), .ref (r 26), .int 0, .int 0, .ref (r 27), .ref (r 28), .ref (r 29), .ref (r 30), .ref (r 31), .ref (r 32), .ref (r 33), .int 0, .ref (r 34), .ref (r 35), .ref (r 36), .ref (r 37), .ref (r 38), .ref (r 39), .int 0, .int 0, .long 1, .int 0, .ref (r 40), .ref (r 41), .ref (r 42), .int 0, .ref (r 43), .ref (r 44), .ref (r 45), .int 0, .ref (r 46), .ref (r 47), .int 0, .int 0, .ref (r 48), .int 0, .ref (r 49), .int 0, .ref (r 50), .ref (r 51), .int 0, .ref (r 52), .ref (r 53), .ref (r 54), .ref (r 55), .ref (r 56), .int 0, .int 0, .int 0, .int 0, .ref (r 57), .int 0, .ref (r 58), .ref (r 59), .ref (r 60), .ref (r 61), .ref (r 62)]))] t.heap ∧ va_D (va_A (w0_c_X12_blame_1_0 cI h0 r) sz) [(h0, .inr (12, [.ref (r 0), .int 0, .int 0, .int 0, .int 0, .int 0, .int 0, .long 0, .int 1, .int 0, .int 0, .int (-1), .int (-1), .int 0, .ref (r 1), .ref (r 2), .ref (r 3), .ref (r 4), .ref (r 5), .ref (r 6), .ref (r 7), .ref (r 8), .ref (r 9), .ref (r 10), .ref (r 11), .ref (r 12), .ref (r 13), .ref (r 14), .ref (r 15), .ref (r 16), .ref (r 17), .ref (r 18), .ref (r 19), .ref (r 20), .ref (r 21), .ref (r 22), .int 0, .int 1, .int 0, .ref (r 23), .ref (r 24), .ref (r 25), .ref (r 26), .int 0, .int 0, .ref (r 27), .ref (r 28), .ref (r 29), .ref (r 30), .ref (r 31), .ref (r 32), .ref (r 33), .int 0, .ref (r 34), .ref (r 35), .ref (r 36), .ref (r 37), .ref (r 38), .ref (r 39), .int 0, .int 0, .long 1, .int 0, .ref (r 40), .ref (r 41), .ref (r 42), .int 0, .ref (r 43), .ref (r 44), .ref (r 45), .int 0, .ref (r 46), .ref (r 47), .int 0, .int 0, .ref (r 48), .int 0, .ref (r 49), .int 0, .ref (r 50), .ref (r 51), .int 0, .ref (r 52), .ref (r 53), .ref (r 54), .ref (r 55), .ref (r 56), .int 0, .int 0, .int 0, .int 0, .ref (r 57), .int 0, .ref (r 58), .ref (r 59), .ref (r 60), .ref (r 61), .ref (r 62)]))]) (va_A (w0_c_X12_blame_1_0 cI h0 r) sz)) 0 0 (va_A (w0_c_X12_blame_1_0 cI h0 r) sz) := by
  refine Met.ofW (cc := cX12_blame) (maxL := 3) (ret := none) (by decide) rfl ?_
  intro p e s m args below meth c s₁ B hml hv
  obtain ⟨rfl, hsz, hP, hK, hD0, hN⟩ := hv
  have hx := B.exec
  have hb := B.bytes
  have hr := B.returns
  have hts := atoms_spec (ws := wsX12_blame) B.pre
  have hown : s.vm.findClass RX12 = some m.cls := findClass_of_methodNamed B.named
  have hlocks := B.notSynchronized
  have h_in_X12 : ∀ w ∈ wsX120, w ∈ wsX12_blame := fun w h => List.mem_cons_of_mem _ (List.mem_append_right _ h)
  subst hsz
  have hD := hD0.self (sz := s.heap.size)
  generalize hAe : va_A (w0_c_X12_blame_1_0 cI h0 r) s.heap.size = A at hD ⊢
  have hA : ∀ q : Nat, s.heap.size ≤ q → A q := fun q h => by rw [← hAe]; exact Or.inr h
  have hS : va_S A s.heap s.heap [] := va_S.rf
  have hP : va_P (dC, dI) vwCl [(h0, .inr (12, (o12 r)))] s.heap := hP
  have hD : va_D A [(h0, .inr (12, (o12 r)))] := hD
  have hl := lv_entry ([.ref h0, .int 1, .int 0]) (n := 3) (Nat.le_of_ble_eq_true rfl)
  rw [lg_entry_eq]
  generalize (lg_sl ([.ref h0, .int 1, .int 0]) ++ List.replicate (3 - (lg_sl ([.ref h0, .int 1, .int 0])).length) Slot.unset).toArray = ls at hl ⊢
  have hl : lv_has ls 3 [(0, .ref h0), (1, .int 1), (2, .int 0)] := hl
  refine lv_aload_n hx hb dX12_blame_0 rfl (lv_at hl 0 rfl) ?_
  refine va_get (D := (dC, dI)) (ci := 12) (v := .int 0) (C := RX12) (T := TX12) (N := 98) hx hb hts h_in_X12 hown hK hP 0 rfl rfl 8 (by decide) (hts (.fieldLink RX12 36 "MatchTreesModel" "faultKind" "I") (by decide +kernel)) (fun _ h9 => h9) rfl dX12_blame_1 ?_
  refine lv_if_le (tgt := 8) hx hb dX12_blame_4 (by decide) (fun _ => ?_) (fun c => absurd (by decide) c)
  refine lv_aload_n hx hb dX12_blame_8 rfl (lv_at hl 0 rfl) ?_
  refine lv_iload_n hx hb dX12_blame_9 rfl (lv_at hl 1 rfl) ?_
  refine va_put (D := (dC, dI)) (ci := 12) (v := .int 1) (ty := .int) (C := RX12) (T := TX12) (N := 98) hx hb hts h_in_X12 tyX12 tyX12_ok nmX12 hown hK hP hD hS 0 rfl rfl 8 (by decide) (hts (.fieldLink RX12 36 "MatchTreesModel" "faultKind" "I") (by decide +kernel)) (fun _ h9 => h9) rfl (by decide +kernel) rfl rfl (Nat.le_of_ble_eq_true rfl) dX12_blame_10 (fun H locs hP hD hS => ?_)
  have hP : va_P (dC, dI) vwCl [(h0, .inr (12, [.ref (r 0), .int 0, .int 0, .int 0, .int 0, .int 0, .int 0, .long 0, .int 1, .int (-1), .int 0, .int (-1), .int (-1), .int 0, .ref (r 1), .ref (r 2), .ref (r 3), .ref (r 4), .ref (r 5), .ref (r 6), .ref (r 7), .ref (r 8), .ref (r 9), .ref (r 10), .ref (r 11), .ref (r 12), .ref (r 13), .ref (r 14), .ref (r 15), .ref (r 16), .ref (r 17), .ref (r 18), .ref (r 19), .ref (r 20), .ref (r 21), .ref (r 22), .int 0, .int 1, .int 0, .ref (r 23), .ref (r 24), .ref (r 25), .ref (r 26), .int 0, .int 0, .ref (r 27), .ref (r 28), .ref (r 29), .ref (r 30), .ref (r 31), .ref (r 32), .ref (r 33), .int 0, .ref (r 34), .ref (r 35), .ref (r 36), .ref (r 37), .ref (r 38), .ref (r 39), .int 0, .int 0, .long 1, .int 0, .ref (r 40), .ref (r 41), .ref (r 42), .int 0, .ref (r 43), .ref (r 44), .ref (r 45), .int 0, .ref (r 46), .ref (r 47), .int 0, .int 0, .ref (r 48), .int 0, .ref (r 49), .int 0, .ref (r 50), .ref (r 51), .int 0, .ref (r 52), .ref (r 53), .ref (r 54), .ref (r 55), .ref (r 56), .int 0, .int 0, .int 0, .int 0, .ref (r 57), .int 0, .ref (r 58), .ref (r 59), .ref (r 60), .ref (r 61), .ref (r 62)]))] H := hP
  have hD : va_D A [(h0, .inr (12, [.ref (r 0), .int 0, .int 0, .int 0, .int 0, .int 0, .int 0, .long 0, .int 1, .int (-1), .int 0, .int (-1), .int (-1), .int 0, .ref (r 1), .ref (r 2), .ref (r 3), .ref (r 4), .ref (r 5), .ref (r 6), .ref (r 7), .ref (r 8), .ref (r 9), .ref (r 10), .ref (r 11), .ref (r 12), .ref (r 13), .ref (r 14), .ref (r 15), .ref (r 16), .ref (r 17), .ref (r 18), .ref (r 19), .ref (r 20), .ref (r 21), .ref (r 22), .int 0, .int 1, .int 0, .ref (r 23), .ref (r 24), .ref (r 25), .ref (r 26), .int 0, .int 0, .ref (r 27), .ref (r 28), .ref (r 29), .ref (r 30), .ref (r 31), .ref (r 32), .ref (r 33), .int 0, .ref (r 34), .ref (r 35), .ref (r 36), .ref (r 37), .ref (r 38), .ref (r 39), .int 0, .int 0, .long 1, .int 0, .ref (r 40), .ref (r 41), .ref (r 42), .int 0, .ref (r 43), .ref (r 44), .ref (r 45), .int 0, .ref (r 46), .ref (r 47), .int 0, .int 0, .ref (r 48), .int 0, .ref (r 49), .int 0, .ref (r 50), .ref (r 51), .int 0, .ref (r 52), .ref (r 53), .ref (r 54), .ref (r 55), .ref (r 56), .int 0, .int 0, .int 0, .int 0, .ref (r 57), .int 0, .ref (r 58), .ref (r 59), .ref (r 60), .ref (r 61), .ref (r 62)]))] := hD
  refine lv_aload_n hx hb dX12_blame_13 rfl (lv_at hl 0 rfl) ?_
  refine lv_iload_n hx hb dX12_blame_14 rfl (lv_at hl 2 rfl) ?_
  refine va_put (D := (dC, dI)) (ci := 12) (v := .int 0) (ty := .int) (C := RX12) (T := TX12) (N := 98) hx hb hts h_in_X12 tyX12 tyX12_ok nmX12 hown hK hP hD hS 0 rfl rfl 9 (by decide) (hts (.fieldLink RX12 39 "MatchTreesModel" "faultPlace" "I") (by decide +kernel)) (fun _ h9 => h9) rfl (by decide +kernel) rfl rfl (Nat.le_of_ble_eq_true rfl) dX12_blame_15 (fun H locs hP hD hS => ?_)
  have hP : va_P (dC, dI) vwCl [(h0, .inr (12, [.ref (r 0), .int 0, .int 0, .int 0, .int 0, .int 0, .int 0, .long 0, .int 1, .int 0, .int 0, .int (-1), .int (-1), .int 0, .ref (r 1), .ref (r 2), .ref (r 3), .ref (r 4), .ref (r 5), .ref (r 6), .ref (r 7), .ref (r 8), .ref (r 9), .ref (r 10), .ref (r 11), .ref (r 12), .ref (r 13), .ref (r 14), .ref (r 15), .ref (r 16), .ref (r 17), .ref (r 18), .ref (r 19), .ref (r 20), .ref (r 21), .ref (r 22), .int 0, .int 1, .int 0, .ref (r 23), .ref (r 24), .ref (r 25), .ref (r 26), .int 0, .int 0, .ref (r 27), .ref (r 28), .ref (r 29), .ref (r 30), .ref (r 31), .ref (r 32), .ref (r 33), .int 0, .ref (r 34), .ref (r 35), .ref (r 36), .ref (r 37), .ref (r 38), .ref (r 39), .int 0, .int 0, .long 1, .int 0, .ref (r 40), .ref (r 41), .ref (r 42), .int 0, .ref (r 43), .ref (r 44), .ref (r 45), .int 0, .ref (r 46), .ref (r 47), .int 0, .int 0, .ref (r 48), .int 0, .ref (r 49), .int 0, .ref (r 50), .ref (r 51), .int 0, .ref (r 52), .ref (r 53), .ref (r 54), .ref (r 55), .ref (r 56), .int 0, .int 0, .int 0, .int 0, .ref (r 57), .int 0, .ref (r 58), .ref (r 59), .ref (r 60), .ref (r 61), .ref (r 62)]))] H := hP
  have hD : va_D A [(h0, .inr (12, [.ref (r 0), .int 0, .int 0, .int 0, .int 0, .int 0, .int 0, .long 0, .int 1, .int 0, .int 0, .int (-1), .int (-1), .int 0, .ref (r 1), .ref (r 2), .ref (r 3), .ref (r 4), .ref (r 5), .ref (r 6), .ref (r 7), .ref (r 8), .ref (r 9), .ref (r 10), .ref (r 11), .ref (r 12), .ref (r 13), .ref (r 14), .ref (r 15), .ref (r 16), .ref (r 17), .ref (r 18), .ref (r 19), .ref (r 20), .ref (r 21), .ref (r 22), .int 0, .int 1, .int 0, .ref (r 23), .ref (r 24), .ref (r 25), .ref (r 26), .int 0, .int 0, .ref (r 27), .ref (r 28), .ref (r 29), .ref (r 30), .ref (r 31), .ref (r 32), .ref (r 33), .int 0, .ref (r 34), .ref (r 35), .ref (r 36), .ref (r 37), .ref (r 38), .ref (r 39), .int 0, .int 0, .long 1, .int 0, .ref (r 40), .ref (r 41), .ref (r 42), .int 0, .ref (r 43), .ref (r 44), .ref (r 45), .int 0, .ref (r 46), .ref (r 47), .int 0, .int 0, .ref (r 48), .int 0, .ref (r 49), .int 0, .ref (r 50), .ref (r 51), .int 0, .ref (r 52), .ref (r 53), .ref (r 54), .ref (r 55), .ref (r 56), .int 0, .int 0, .int 0, .int 0, .ref (r 57), .int 0, .ref (r 58), .ref (r 59), .ref (r 60), .ref (r 61), .ref (r 62)]))] := hD
  have hP9 := hP.sub (ws' := [(h0, .inr (12, [.ref (r 0), .int 0, .int 0, .int 0, .int 0, .int 0, .int 0, .long 0, .int 1, .int 0, .int 0, .int (-1), .int (-1), .int 0, .ref (r 1), .ref (r 2), .ref (r 3), .ref (r 4), .ref (r 5), .ref (r 6), .ref (r 7), .ref (r 8), .ref (r 9), .ref (r 10), .ref (r 11), .ref (r 12), .ref (r 13), .ref (r 14), .ref (r 15), .ref (r 16), .ref (r 17), .ref (r 18), .ref (r 19), .ref (r 20), .ref (r 21), .ref (r 22), .int 0, .int 1, .int 0, .ref (r 23), .ref (r 24), .ref (r 25), .ref (r 26), .int 0, .int 0, .ref (r 27), .ref (r 28), .ref (r 29), .ref (r 30), .ref (r 31), .ref (r 32), .ref (r 33), .int 0, .ref (r 34), .ref (r 35), .ref (r 36), .ref (r 37), .ref (r 38), .ref (r 39), .int 0, .int 0, .long 1, .int 0, .ref (r 40), .ref (r 41), .ref (r 42), .int 0, .ref (r 43), .ref (r 44), .ref (r 45), .int 0, .ref (r 46), .ref (r 47), .int 0, .int 0, .ref (r 48), .int 0, .ref (r 49), .int 0, .ref (r 50), .ref (r 51), .int 0, .ref (r 52), .ref (r 53), .ref (r 54), .ref (r 55), .ref (r 56), .int 0, .int 0, .int 0, .int 0, .ref (r 57), .int 0, .ref (r 58), .ref (r 59), .ref (r 60), .ref (r 61), .ref (r 62)]))]) [0] rfl
  have hD9 := hD.sub (ws' := [(h0, .inr (12, [.ref (r 0), .int 0, .int 0, .int 0, .int 0, .int 0, .int 0, .long 0, .int 1, .int 0, .int 0, .int (-1), .int (-1), .int 0, .ref (r 1), .ref (r 2), .ref (r 3), .ref (r 4), .ref (r 5), .ref (r 6), .ref (r 7), .ref (r 8), .ref (r 9), .ref (r 10), .ref (r 11), .ref (r 12), .ref (r 13), .ref (r 14), .ref (r 15), .ref (r 16), .ref (r 17), .ref (r 18), .ref (r 19), .ref (r 20), .ref (r 21), .ref (r 22), .int 0, .int 1, .int 0, .ref (r 23), .ref (r 24), .ref (r 25), .ref (r 26), .int 0, .int 0, .ref (r 27), .ref (r 28), .ref (r 29), .ref (r 30), .ref (r 31), .ref (r 32), .ref (r 33), .int 0, .ref (r 34), .ref (r 35), .ref (r 36), .ref (r 37), .ref (r 38), .ref (r 39), .int 0, .int 0, .long 1, .int 0, .ref (r 40), .ref (r 41), .ref (r 42), .int 0, .ref (r 43), .ref (r 44), .ref (r 45), .int 0, .ref (r 46), .ref (r 47), .int 0, .int 0, .ref (r 48), .int 0, .ref (r 49), .int 0, .ref (r 50), .ref (r 51), .int 0, .ref (r 52), .ref (r 53), .ref (r 54), .ref (r 55), .ref (r 56), .int 0, .int 0, .int 0, .int 0, .ref (r 57), .int 0, .ref (r 58), .ref (r 59), .ref (r 60), .ref (r 61), .ref (r 62)]))]) [0] (by decide) rfl
  exact W.vret hx hb hr (fun t ht hW => ⟨⟨(), rfl, trivial, by rw [ht]; exact hP9, hD9⟩, hS.F ht⟩) hS.2.2 dX12_blame_18
abbrev w0_c_X12_refuses_s1_1 (cI : ClassId) (h0 : Nat) (r : Nat → Nat) : va_W := [(h0, .inr (12, [.ref (r 0), .int 0, .int 0, .int 0, .int 0, .int 0, .int 0, .long 0, .int 1, .int 0, .int 1, .int 0, .int (-1), .int 0, .ref (r 1), .ref (r 2), .ref (r 3), .ref (r 4), .ref (r 5), .ref (r 6), .ref (r 7), .ref (r 8), .ref (r 9), .ref (r 10), .ref (r 11), .ref (r 12), .ref (r 13), .ref (r 14), .ref (r 15), .ref (r 16), .ref (r 17), .ref (r 18), .ref (r 19), .ref (r 20), .ref (r 21), .ref (r 22), .int 0, .int 1, .int 0, .ref (r 23), .ref (r 24), .ref (r 25), .ref (r 26), .int 0, .int 0, .ref (r 27), .ref (r 28), .ref (r 29), .ref (r 30), .ref (r 31), .ref (r 32), .ref (r 33), .int 0, .ref (r 34), .ref (r 35), .ref (r 36), .ref (r 37), .ref (r 38), .ref (r 39), .int 0, .int 0, .long 1, .int 0, .ref (r 40), .ref (r 41), .ref (r 42), .int 0, .ref (r 43), .ref (r 44), .ref (r 45), .int 0, .ref (r 46), .ref (r 47), .int 0, .int 0, .ref (r 48), .int 0, .ref (r 49), .int 0, .ref (r 50), .ref (r 51), .int 0, .ref (r 52), .ref (r 53), .ref (r 54), .ref (r 55), .ref (r 56), .int 0, .int 0, .int 0, .int 0, .ref (r 57), .int 0, .ref (r 58), .ref (r 59), .ref (r 60), .ref (r 61), .ref (r 62)])), ((r 27), .inl (cI, 6, .inl (fun _ => 0)))]
set_option maxHeartbeats 4000000 in
set_option maxRecDepth 100000 in
theorem c_X12_refuses_s1_1 (l : Launch) (dC : Nat → ClassId) (dI : Nat → Nat → Nat) (cI cJ : ClassId) (h0 : Nat) (r : Nat → Nat) (sz : Nat) : Met l yX12_refuses wsX12_refuses ({ frames := 1, cells := 0, slots := 0, locals := 60 }) (va_Pc [.ref h0, .int 1] (mPre dC dI cI cJ sz (w0_c_X12_refuses_s1_1 cI h0 r))) (va_Qi (fun (r : Int32) (u : Unit) => r = -1) (fun (u : Unit) (t : State) => ∃ (g : Nat → Int32), va_P (dC, dI) vwCl [(h0, .inr (12, [.ref (r 0), .int 0, .int 0, .int 0, .int 0, .int 0, .int 0, .long 0, .int 1, .int 0, .int 1, .int 0, .int (-1), .int 0, .ref (r 1), .ref (r 2), .ref (r 3), .ref (r 4), .ref (r 5), .ref (r 6), .ref (r 7), .ref (r 8), .ref (r 9), .ref (r 10), .ref (r 11), .ref (r 12), .ref (r 13), .ref (r 14), .ref (r 15), .ref (r 16), .ref (r 17), .ref (r 18), .ref (r 19), .ref (r 20), .ref (r 21), .ref (r 22), .int 0, .int 1, .int 0, .ref (r 23), .ref (r 24), .ref (r 25), .ref (r 26), .int 0, .int 0, .ref (r 27), .ref (r 28), .ref (r 29), .ref (r 30), .ref (r 31), .ref (r 32), .ref (r 33), .int 0, .ref (r 34), .ref (r 35), .ref (r 36), .ref (r 37), .ref (r 38), .ref (r 39), .int 0, .int 0, .long 1, .int 0, .ref (r 40), .ref (r 41), .ref (r 42), .int 0, .ref (r 43), .ref (r 44), .ref (r 45), .int 0, .ref (r 46), .ref (r 47), .int 0, .int 0, .ref (r 48), .int 0, .ref (r 49), .int 0, .ref (r 50), .ref (r 51), .int 0, .ref (r 52), .ref (r 53), .ref (r 54), .ref (r 55), .ref (r 56), .int 0, .int 0, .int 0, .int 0, .ref (r 57), .int 0, .ref (r 58), .ref (r 59), .ref (r 60), .ref (r 61), .ref (r 62)])), ((r 27), .inl (cI, 6, .inl g))] t.heap ∧ va_D (va_A (w0_c_X12_refuses_s1_1 cI h0 r) sz) [(h0, .inr (12, [.ref (r 0), .int 0, .int 0, .int 0, .int 0, .int 0, .int 0, .long 0, .int 1, .int 0, .int 1, .int 0, .int (-1), .int 0, .ref (r 1), .ref (r 2), .ref (r 3), .ref (r 4), .ref (r 5), .ref (r 6), .ref (r 7), .ref (r 8), .ref (r 9), .ref (r 10), .ref (r 11), .ref (r 12), .ref (r 13), .ref (r 14), .ref (r 15), .ref (r 16), .ref (r 17), .ref (r 18), .ref (r 19), .ref (r 20), .ref (r 21), .ref (r 22), .int 0, .int 1, .int 0, .ref (r 23), .ref (r 24), .ref (r 25), .ref (r 26), .int 0, .int 0, .ref (r 27), .ref (r 28), .ref (r 29), .ref (r 30), .ref (r 31), .ref (r 32), .ref (r 33), .int 0, .ref (r 34), .ref (r 35), .ref (r 36), .ref (r 37), .ref (r 38), .ref (r 39), .int 0, .int 0, .long 1, .int 0, .ref (r 40), .ref (r 41), .ref (r 42), .int 0, .ref (r 43), .ref (r 44), .ref (r 45), .int 0, .ref (r 46), .ref (r 47), .int 0, .int 0, .ref (r 48), .int 0, .ref (r 49), .int 0, .ref (r 50), .ref (r 51), .int 0, .ref (r 52), .ref (r 53), .ref (r 54), .ref (r 55), .ref (r 56), .int 0, .int 0, .int 0, .int 0, .ref (r 57), .int 0, .ref (r 58), .ref (r 59), .ref (r 60), .ref (r 61), .ref (r 62)])), ((r 27), .inl (cI, 6, .inl g))]) (va_A (w0_c_X12_refuses_s1_1 cI h0 r) sz)) 0 0 (va_A (w0_c_X12_refuses_s1_1 cI h0 r) sz) := by
  refine Met.ofW (cc := cX12_refuses) (maxL := 2) (ret := (some .int)) (by decide) rfl ?_
  intro p e s m args below meth c s₁ B hml hv
  obtain ⟨rfl, hsz, hP, hK, hD0, hN⟩ := hv
  have hx := B.exec
  have hb := B.bytes
  have hr := B.returns
  have hts := atoms_spec (ws := wsX12_refuses) B.pre
  have hown : s.vm.findClass RX12 = some m.cls := findClass_of_methodNamed B.named
  have hlocks := B.notSynchronized
  have h_in_X12 : ∀ w ∈ wsX120, w ∈ wsX12_refuses := fun w h => List.mem_cons_of_mem _ (List.mem_append_right _ h)
  subst hsz
  have hD := hD0.self (sz := s.heap.size)
  generalize hAe : va_A (w0_c_X12_refuses_s1_1 cI h0 r) s.heap.size = A at hD ⊢
  have hA : ∀ q : Nat, s.heap.size ≤ q → A q := fun q h => by rw [← hAe]; exact Or.inr h
  have hS : va_S A s.heap s.heap [] := va_S.rf
  have hP : va_P (dC, dI) vwCl [(h0, .inr (12, [.ref (r 0), .int 0, .int 0, .int 0, .int 0, .int 0, .int 0, .long 0, .int 1, .int 0, .int 1, .int 0, .int (-1), .int 0, .ref (r 1), .ref (r 2), .ref (r 3), .ref (r 4), .ref (r 5), .ref (r 6), .ref (r 7), .ref (r 8), .ref (r 9), .ref (r 10), .ref (r 11), .ref (r 12), .ref (r 13), .ref (r 14), .ref (r 15), .ref (r 16), .ref (r 17), .ref (r 18), .ref (r 19), .ref (r 20), .ref (r 21), .ref (r 22), .int 0, .int 1, .int 0, .ref (r 23), .ref (r 24), .ref (r 25), .ref (r 26), .int 0, .int 0, .ref (r 27), .ref (r 28), .ref (r 29), .ref (r 30), .ref (r 31), .ref (r 32), .ref (r 33), .int 0, .ref (r 34), .ref (r 35), .ref (r 36), .ref (r 37), .ref (r 38), .ref (r 39), .int 0, .int 0, .long 1, .int 0, .ref (r 40), .ref (r 41), .ref (r 42), .int 0, .ref (r 43), .ref (r 44), .ref (r 45), .int 0, .ref (r 46), .ref (r 47), .int 0, .int 0, .ref (r 48), .int 0, .ref (r 49), .int 0, .ref (r 50), .ref (r 51), .int 0, .ref (r 52), .ref (r 53), .ref (r 54), .ref (r 55), .ref (r 56), .int 0, .int 0, .int 0, .int 0, .ref (r 57), .int 0, .ref (r 58), .ref (r 59), .ref (r 60), .ref (r 61), .ref (r 62)])), ((r 27), .inl (cI, 6, .inl (fun _ => 0)))] s.heap := hP
  have hD : va_D A [(h0, .inr (12, [.ref (r 0), .int 0, .int 0, .int 0, .int 0, .int 0, .int 0, .long 0, .int 1, .int 0, .int 1, .int 0, .int (-1), .int 0, .ref (r 1), .ref (r 2), .ref (r 3), .ref (r 4), .ref (r 5), .ref (r 6), .ref (r 7), .ref (r 8), .ref (r 9), .ref (r 10), .ref (r 11), .ref (r 12), .ref (r 13), .ref (r 14), .ref (r 15), .ref (r 16), .ref (r 17), .ref (r 18), .ref (r 19), .ref (r 20), .ref (r 21), .ref (r 22), .int 0, .int 1, .int 0, .ref (r 23), .ref (r 24), .ref (r 25), .ref (r 26), .int 0, .int 0, .ref (r 27), .ref (r 28), .ref (r 29), .ref (r 30), .ref (r 31), .ref (r 32), .ref (r 33), .int 0, .ref (r 34), .ref (r 35), .ref (r 36), .ref (r 37), .ref (r 38), .ref (r 39), .int 0, .int 0, .long 1, .int 0, .ref (r 40), .ref (r 41), .ref (r 42), .int 0, .ref (r 43), .ref (r 44), .ref (r 45), .int 0, .ref (r 46), .ref (r 47), .int 0, .int 0, .ref (r 48), .int 0, .ref (r 49), .int 0, .ref (r 50), .ref (r 51), .int 0, .ref (r 52), .ref (r 53), .ref (r 54), .ref (r 55), .ref (r 56), .int 0, .int 0, .int 0, .int 0, .ref (r 57), .int 0, .ref (r 58), .ref (r 59), .ref (r 60), .ref (r 61), .ref (r 62)])), ((r 27), .inl (cI, 6, .inl (fun _ => 0)))] := hD
  have hl := lv_entry ([.ref h0, .int 1]) (n := 2) (Nat.le_of_ble_eq_true rfl)
  rw [lg_entry_eq]
  generalize (lg_sl ([.ref h0, .int 1]) ++ List.replicate (2 - (lg_sl ([.ref h0, .int 1])).length) Slot.unset).toArray = ls at hl ⊢
  have hl : lv_has ls 2 [(0, .ref h0), (1, .int 1)] := hl
  refine lv_aload_n hx hb dX12_refuses_0 rfl (lv_at hl 0 rfl) ?_
  refine va_get (D := (dC, dI)) (ci := 12) (v := .ref (r 27)) (C := RX12) (T := TX12) (N := 98) hx hb hts h_in_X12 hown hK hP 0 rfl rfl 45 (by decide) (hts (.fieldLink RX12 149 "MatchTreesModel" "refused" "[I") (by decide +kernel)) (fun _ h9 => h9) rfl dX12_refuses_1 ?_
  refine lv_iload_n hx hb dX12_refuses_4 rfl (lv_at hl 1 rfl) ?_
  refine lv_dup2_11 hx hb dX12_refuses_5 rfl rfl ?_
  refine va_iald hx hb hK hP 1 0 rfl rfl (vpd (by decide)) dX12_refuses_6 ?_
  refine lv_topi (fun t9 e9 => ?_)
  obtain rfl : t9 = 0 := e9
  refine lv_iconst (v := 1) hx hb dX12_refuses_7 (by decide) ?_
  refine k_iadd (v := 1) hx hb (by decide) dX12_refuses_8 ?_
  refine va_iast hx hb hK hP hD hS 1 0 rfl rfl (vpd (by decide)) dX12_refuses_9 (fun H locs hP hD hS => ?_)
  obtain ⟨g_1, e_g_1⟩ : ∃ y : Nat → Int32, y = upd (fun _ => 0) (1 : Int32).toNatClampNeg 1 := ⟨_, rfl⟩
  have hP : va_P (dC, dI) vwCl [(h0, .inr (12, [.ref (r 0), .int 0, .int 0, .int 0, .int 0, .int 0, .int 0, .long 0, .int 1, .int 0, .int 1, .int 0, .int (-1), .int 0, .ref (r 1), .ref (r 2), .ref (r 3), .ref (r 4), .ref (r 5), .ref (r 6), .ref (r 7), .ref (r 8), .ref (r 9), .ref (r 10), .ref (r 11), .ref (r 12), .ref (r 13), .ref (r 14), .ref (r 15), .ref (r 16), .ref (r 17), .ref (r 18), .ref (r 19), .ref (r 20), .ref (r 21), .ref (r 22), .int 0, .int 1, .int 0, .ref (r 23), .ref (r 24), .ref (r 25), .ref (r 26), .int 0, .int 0, .ref (r 27), .ref (r 28), .ref (r 29), .ref (r 30), .ref (r 31), .ref (r 32), .ref (r 33), .int 0, .ref (r 34), .ref (r 35), .ref (r 36), .ref (r 37), .ref (r 38), .ref (r 39), .int 0, .int 0, .long 1, .int 0, .ref (r 40), .ref (r 41), .ref (r 42), .int 0, .ref (r 43), .ref (r 44), .ref (r 45), .int 0, .ref (r 46), .ref (r 47), .int 0, .int 0, .ref (r 48), .int 0, .ref (r 49), .int 0, .ref (r 50), .ref (r 51), .int 0, .ref (r 52), .ref (r 53), .ref (r 54), .ref (r 55), .ref (r 56), .int 0, .int 0, .int 0, .int 0, .ref (r 57), .int 0, .ref (r 58), .ref (r 59), .ref (r 60), .ref (r 61), .ref (r 62)])), ((r 27), .inl (cI, 6, .inl g_1))] H := by rw [e_g_1]; exact hP
  have hD : va_D A [(h0, .inr (12, [.ref (r 0), .int 0, .int 0, .int 0, .int 0, .int 0, .int 0, .long 0, .int 1, .int 0, .int 1, .int 0, .int (-1), .int 0, .ref (r 1), .ref (r 2), .ref (r 3), .ref (r 4), .ref (r 5), .ref (r 6), .ref (r 7), .ref (r 8), .ref (r 9), .ref (r 10), .ref (r 11), .ref (r 12), .ref (r 13), .ref (r 14), .ref (r 15), .ref (r 16), .ref (r 17), .ref (r 18), .ref (r 19), .ref (r 20), .ref (r 21), .ref (r 22), .int 0, .int 1, .int 0, .ref (r 23), .ref (r 24), .ref (r 25), .ref (r 26), .int 0, .int 0, .ref (r 27), .ref (r 28), .ref (r 29), .ref (r 30), .ref (r 31), .ref (r 32), .ref (r 33), .int 0, .ref (r 34), .ref (r 35), .ref (r 36), .ref (r 37), .ref (r 38), .ref (r 39), .int 0, .int 0, .long 1, .int 0, .ref (r 40), .ref (r 41), .ref (r 42), .int 0, .ref (r 43), .ref (r 44), .ref (r 45), .int 0, .ref (r 46), .ref (r 47), .int 0, .int 0, .ref (r 48), .int 0, .ref (r 49), .int 0, .ref (r 50), .ref (r 51), .int 0, .ref (r 52), .ref (r 53), .ref (r 54), .ref (r 55), .ref (r 56), .int 0, .int 0, .int 0, .int 0, .ref (r 57), .int 0, .ref (r 58), .ref (r 59), .ref (r 60), .ref (r 61), .ref (r 62)])), ((r 27), .inl (cI, 6, .inl g_1))] := by rw [e_g_1]; exact hD
  refine lv_iconst (v := (-1)) hx hb dX12_refuses_10 (by decide) ?_
  have hP9 := hP.sub (ws' := [(h0, .inr (12, [.ref (r 0), .int 0, .int 0, .int 0, .int 0, .int 0, .int 0, .long 0, .int 1, .int 0, .int 1, .int 0, .int (-1), .int 0, .ref (r 1), .ref (r 2), .ref (r 3), .ref (r 4), .ref (r 5), .ref (r 6), .ref (r 7), .ref (r 8), .ref (r 9), .ref (r 10), .ref (r 11), .ref (r 12), .ref (r 13), .ref (r 14), .ref (r 15), .ref (r 16), .ref (r 17), .ref (r 18), .ref (r 19), .ref (r 20), .ref (r 21), .ref (r 22), .int 0, .int 1, .int 0, .ref (r 23), .ref (r 24), .ref (r 25), .ref (r 26), .int 0, .int 0, .ref (r 27), .ref (r 28), .ref (r 29), .ref (r 30), .ref (r 31), .ref (r 32), .ref (r 33), .int 0, .ref (r 34), .ref (r 35), .ref (r 36), .ref (r 37), .ref (r 38), .ref (r 39), .int 0, .int 0, .long 1, .int 0, .ref (r 40), .ref (r 41), .ref (r 42), .int 0, .ref (r 43), .ref (r 44), .ref (r 45), .int 0, .ref (r 46), .ref (r 47), .int 0, .int 0, .ref (r 48), .int 0, .ref (r 49), .int 0, .ref (r 50), .ref (r 51), .int 0, .ref (r 52), .ref (r 53), .ref (r 54), .ref (r 55), .ref (r 56), .int 0, .int 0, .int 0, .int 0, .ref (r 57), .int 0, .ref (r 58), .ref (r 59), .ref (r 60), .ref (r 61), .ref (r 62)])), ((r 27), .inl (cI, 6, .inl g_1))]) [0, 1] rfl
  have hD9 := hD.sub (ws' := [(h0, .inr (12, [.ref (r 0), .int 0, .int 0, .int 0, .int 0, .int 0, .int 0, .long 0, .int 1, .int 0, .int 1, .int 0, .int (-1), .int 0, .ref (r 1), .ref (r 2), .ref (r 3), .ref (r 4), .ref (r 5), .ref (r 6), .ref (r 7), .ref (r 8), .ref (r 9), .ref (r 10), .ref (r 11), .ref (r 12), .ref (r 13), .ref (r 14), .ref (r 15), .ref (r 16), .ref (r 17), .ref (r 18), .ref (r 19), .ref (r 20), .ref (r 21), .ref (r 22), .int 0, .int 1, .int 0, .ref (r 23), .ref (r 24), .ref (r 25), .ref (r 26), .int 0, .int 0, .ref (r 27), .ref (r 28), .ref (r 29), .ref (r 30), .ref (r 31), .ref (r 32), .ref (r 33), .int 0, .ref (r 34), .ref (r 35), .ref (r 36), .ref (r 37), .ref (r 38), .ref (r 39), .int 0, .int 0, .long 1, .int 0, .ref (r 40), .ref (r 41), .ref (r 42), .int 0, .ref (r 43), .ref (r 44), .ref (r 45), .int 0, .ref (r 46), .ref (r 47), .int 0, .int 0, .ref (r 48), .int 0, .ref (r 49), .int 0, .ref (r 50), .ref (r 51), .int 0, .ref (r 52), .ref (r 53), .ref (r 54), .ref (r 55), .ref (r 56), .int 0, .int 0, .int 0, .int 0, .ref (r 57), .int 0, .ref (r 58), .ref (r 59), .ref (r 60), .ref (r 61), .ref (r 62)])), ((r 27), .inl (cI, 6, .inl g_1))]) [0, 1] (by decide) rfl
  exact W.iret (v := (-1)) hx hb hr (fun t ht hW => ⟨⟨(-1), (), rfl, rfl, g_1, by rw [ht]; exact hP9, hD9⟩, hS.F ht⟩) hS.2.2 dX12_refuses_11
abbrev w0_c_X12_match (cI : ClassId) (h0 : Nat) (r : Nat → Nat) : va_W := [(h0, .inr (12, (o12 r))), ((r 1), .inl (cI, 2, .inl (fun _ => 0))), ((r 4), .inl (cI, 2, .inl (fun _ => 0))), ((r 10), .inl (cI, 2, .inl (fun _ => 0))), ((r 12), .inl (cI, 2, .inl (fun _ => 0))), ((r 14), .inl (cI, 2, .inl (fun _ => 0))), ((r 15), .inl (cI, 2, .inl (fun _ => 0))), ((r 27), .inl (cI, 6, .inl (fun _ => 0)))]
set_option maxHeartbeats 4000000 in
set_option maxRecDepth 100000 in
theorem c_X12_match (l : Launch) (dC : Nat → ClassId) (dI : Nat → Nat → Nat) (cI cJ : ClassId) (h0 : Nat) (r : Nat → Nat) (sz : Nat) : Met l yX12_match wsX12_match ({ frames := 2, cells := 0, slots := 0, locals := 85 }) (va_Pc [.ref h0] (mPre dC dI cI cJ sz (w0_c_X12_match cI h0 r))) (va_Qi (fun (r : Int32) (u : Unit) => r = -1) (fun _ _ => True) (va_A (w0_c_X12_match cI h0 r) sz)) 0 0 (va_A (w0_c_X12_match cI h0 r) sz) := by
  refine Met.ofW (cc := cX12_match) (maxL := 2) (ret := (some .int)) (by decide) rfl ?_
  intro p e s m args below meth c s₁ B hml hv
  obtain ⟨rfl, hsz, hP, hK, hD0, hN⟩ := hv
  have hx := B.exec
  have hb := B.bytes
  have hr := B.returns
  have hts := atoms_spec (ws := wsX12_match) B.pre
  have hown : s.vm.findClass RX12 = some m.cls := findClass_of_methodNamed B.named
  have hlocks := B.notSynchronized
  have h_in_X12 : ∀ w ∈ wsX120, w ∈ wsX12_match := fun w h => List.mem_cons_of_mem _ (List.mem_append_right _ h)
  subst hsz
  have hD := hD0.self (sz := s.heap.size)
  generalize hAe : va_A (w0_c_X12_match cI h0 r) s.heap.size = A at hD ⊢
  have hA : ∀ q : Nat, s.heap.size ≤ q → A q := fun q h => by rw [← hAe]; exact Or.inr h
  have hS : va_S A s.heap s.heap [] := va_S.rf
  have hP : va_P (dC, dI) vwCl [(h0, .inr (12, (o12 r))), ((r 1), .inl (cI, 2, .inl (fun _ => 0))), ((r 4), .inl (cI, 2, .inl (fun _ => 0))), ((r 10), .inl (cI, 2, .inl (fun _ => 0))), ((r 12), .inl (cI, 2, .inl (fun _ => 0))), ((r 14), .inl (cI, 2, .inl (fun _ => 0))), ((r 15), .inl (cI, 2, .inl (fun _ => 0))), ((r 27), .inl (cI, 6, .inl (fun _ => 0)))] s.heap := hP
  have hD : va_D A [(h0, .inr (12, (o12 r))), ((r 1), .inl (cI, 2, .inl (fun _ => 0))), ((r 4), .inl (cI, 2, .inl (fun _ => 0))), ((r 10), .inl (cI, 2, .inl (fun _ => 0))), ((r 12), .inl (cI, 2, .inl (fun _ => 0))), ((r 14), .inl (cI, 2, .inl (fun _ => 0))), ((r 15), .inl (cI, 2, .inl (fun _ => 0))), ((r 27), .inl (cI, 6, .inl (fun _ => 0)))] := hD
  have hl := lv_entry ([.ref h0]) (n := 2) (Nat.le_of_ble_eq_true rfl)
  rw [lg_entry_eq]
  generalize (lg_sl ([.ref h0]) ++ List.replicate (2 - (lg_sl ([.ref h0])).length) Slot.unset).toArray = ls at hl ⊢
  have hl : lv_has ls 2 [(0, .ref h0)] := hl
  refine lv_aload_n hx hb dX12_match_0 rfl (lv_at hl 0 rfl) ?_
  refine lv_aload_n hx hb dX12_match_1 rfl (lv_at hl 0 rfl) ?_
  refine va_get (D := (dC, dI)) (ci := 12) (v := .int 0) (C := RX12) (T := TX12) (N := 98) hx hb hts h_in_X12 hown hK hP 0 rfl rfl 1 (by decide) (hts (.fieldLink RX12 13 "MatchTreesModel" "taped" "I") (by decide +kernel)) (fun _ h9 => h9) rfl dX12_match_2 ?_
  refine va_put (D := (dC, dI)) (ci := 12) (v := .int 0) (ty := .int) (C := RX12) (T := TX12) (N := 98) hx hb hts h_in_X12 tyX12 tyX12_ok nmX12 hown hK hP hD hS 0 rfl rfl 2 (by decide) (hts (.fieldLink RX12 17 "MatchTreesModel" "size" "I") (by decide +kernel)) (fun _ h9 => h9) rfl (by decide +kernel) rfl rfl (Nat.le_of_ble_eq_true rfl) dX12_match_5 (fun H locs hP hD hS => ?_)
  have hP : va_P (dC, dI) vwCl [(h0, .inr (12, (o12 r))), ((r 1), .inl (cI, 2, .inl (fun _ => 0))), ((r 4), .inl (cI, 2, .inl (fun _ => 0))), ((r 10), .inl (cI, 2, .inl (fun _ => 0))), ((r 12), .inl (cI, 2, .inl (fun _ => 0))), ((r 14), .inl (cI, 2, .inl (fun _ => 0))), ((r 15), .inl (cI, 2, .inl (fun _ => 0))), ((r 27), .inl (cI, 6, .inl (fun _ => 0)))] H := hP
  have hD : va_D A [(h0, .inr (12, (o12 r))), ((r 1), .inl (cI, 2, .inl (fun _ => 0))), ((r 4), .inl (cI, 2, .inl (fun _ => 0))), ((r 10), .inl (cI, 2, .inl (fun _ => 0))), ((r 12), .inl (cI, 2, .inl (fun _ => 0))), ((r 14), .inl (cI, 2, .inl (fun _ => 0))), ((r 15), .inl (cI, 2, .inl (fun _ => 0))), ((r 27), .inl (cI, 6, .inl (fun _ => 0)))] := hD
  refine lv_aload_n hx hb dX12_match_8 rfl (lv_at hl 0 rfl) ?_
  refine lv_iconst (v := 0) hx hb dX12_match_9 (by decide) ?_
  refine va_put (D := (dC, dI)) (ci := 12) (v := .int 0) (ty := .int) (C := RX12) (T := TX12) (N := 98) hx hb hts h_in_X12 tyX12 tyX12_ok nmX12 hown hK hP hD hS 0 rfl rfl 1 (by decide) (hts (.fieldLink RX12 13 "MatchTreesModel" "taped" "I") (by decide +kernel)) (fun _ h9 => h9) rfl (by decide +kernel) rfl rfl (Nat.le_of_ble_eq_true rfl) dX12_match_10 (fun H locs hP hD hS => ?_)
  have hP : va_P (dC, dI) vwCl [(h0, .inr (12, (o12 r))), ((r 1), .inl (cI, 2, .inl (fun _ => 0))), ((r 4), .inl (cI, 2, .inl (fun _ => 0))), ((r 10), .inl (cI, 2, .inl (fun _ => 0))), ((r 12), .inl (cI, 2, .inl (fun _ => 0))), ((r 14), .inl (cI, 2, .inl (fun _ => 0))), ((r 15), .inl (cI, 2, .inl (fun _ => 0))), ((r 27), .inl (cI, 6, .inl (fun _ => 0)))] H := hP
  have hD : va_D A [(h0, .inr (12, (o12 r))), ((r 1), .inl (cI, 2, .inl (fun _ => 0))), ((r 4), .inl (cI, 2, .inl (fun _ => 0))), ((r 10), .inl (cI, 2, .inl (fun _ => 0))), ((r 12), .inl (cI, 2, .inl (fun _ => 0))), ((r 14), .inl (cI, 2, .inl (fun _ => 0))), ((r 15), .inl (cI, 2, .inl (fun _ => 0))), ((r 27), .inl (cI, 6, .inl (fun _ => 0)))] := hD
  refine lv_aload_n hx hb dX12_match_13 rfl (lv_at hl 0 rfl) ?_
  refine lv_iconst (v := 0) hx hb dX12_match_14 (by decide) ?_
  refine va_put (D := (dC, dI)) (ci := 12) (v := .int 0) (ty := .int) (C := RX12) (T := TX12) (N := 98) hx hb hts h_in_X12 tyX12 tyX12_ok nmX12 hown hK hP hD hS 0 rfl rfl 5 (by decide) (hts (.fieldLink RX12 26 "MatchTreesModel" "signEnd" "I") (by decide +kernel)) (fun _ h9 => h9) rfl (by decide +kernel) rfl rfl (Nat.le_of_ble_eq_true rfl) dX12_match_15 (fun H locs hP hD hS => ?_)
  have hP : va_P (dC, dI) vwCl [(h0, .inr (12, (o12 r))), ((r 1), .inl (cI, 2, .inl (fun _ => 0))), ((r 4), .inl (cI, 2, .inl (fun _ => 0))), ((r 10), .inl (cI, 2, .inl (fun _ => 0))), ((r 12), .inl (cI, 2, .inl (fun _ => 0))), ((r 14), .inl (cI, 2, .inl (fun _ => 0))), ((r 15), .inl (cI, 2, .inl (fun _ => 0))), ((r 27), .inl (cI, 6, .inl (fun _ => 0)))] H := hP
  have hD : va_D A [(h0, .inr (12, (o12 r))), ((r 1), .inl (cI, 2, .inl (fun _ => 0))), ((r 4), .inl (cI, 2, .inl (fun _ => 0))), ((r 10), .inl (cI, 2, .inl (fun _ => 0))), ((r 12), .inl (cI, 2, .inl (fun _ => 0))), ((r 14), .inl (cI, 2, .inl (fun _ => 0))), ((r 15), .inl (cI, 2, .inl (fun _ => 0))), ((r 27), .inl (cI, 6, .inl (fun _ => 0)))] := hD
  refine lv_aload_n hx hb dX12_match_18 rfl (lv_at hl 0 rfl) ?_
  refine lv_iconst (v := 0) hx hb dX12_match_19 (by decide) ?_
  refine va_put (D := (dC, dI)) (ci := 12) (v := .int 0) (ty := .int) (C := RX12) (T := TX12) (N := 98) hx hb hts h_in_X12 tyX12 tyX12_ok nmX12 hown hK hP hD hS 0 rfl rfl 8 (by decide) (hts (.fieldLink RX12 36 "MatchTreesModel" "faultKind" "I") (by decide +kernel)) (fun _ h9 => h9) rfl (by decide +kernel) rfl rfl (Nat.le_of_ble_eq_true rfl) dX12_match_20 (fun H locs hP hD hS => ?_)
  have hP : va_P (dC, dI) vwCl [(h0, .inr (12, (o12 r))), ((r 1), .inl (cI, 2, .inl (fun _ => 0))), ((r 4), .inl (cI, 2, .inl (fun _ => 0))), ((r 10), .inl (cI, 2, .inl (fun _ => 0))), ((r 12), .inl (cI, 2, .inl (fun _ => 0))), ((r 14), .inl (cI, 2, .inl (fun _ => 0))), ((r 15), .inl (cI, 2, .inl (fun _ => 0))), ((r 27), .inl (cI, 6, .inl (fun _ => 0)))] H := hP
  have hD : va_D A [(h0, .inr (12, (o12 r))), ((r 1), .inl (cI, 2, .inl (fun _ => 0))), ((r 4), .inl (cI, 2, .inl (fun _ => 0))), ((r 10), .inl (cI, 2, .inl (fun _ => 0))), ((r 12), .inl (cI, 2, .inl (fun _ => 0))), ((r 14), .inl (cI, 2, .inl (fun _ => 0))), ((r 15), .inl (cI, 2, .inl (fun _ => 0))), ((r 27), .inl (cI, 6, .inl (fun _ => 0)))] := hD
  refine lv_aload_n hx hb dX12_match_23 rfl (lv_at hl 0 rfl) ?_
  refine lv_iconst (v := (-1)) hx hb dX12_match_24 (by decide) ?_
  refine va_put (D := (dC, dI)) (ci := 12) (v := .int (-1)) (ty := .int) (C := RX12) (T := TX12) (N := 98) hx hb hts h_in_X12 tyX12 tyX12_ok nmX12 hown hK hP hD hS 0 rfl rfl 9 (by decide) (hts (.fieldLink RX12 39 "MatchTreesModel" "faultPlace" "I") (by decide +kernel)) (fun _ h9 => h9) rfl (by decide +kernel) rfl rfl (Nat.le_of_ble_eq_true rfl) dX12_match_25 (fun H locs hP hD hS => ?_)
  have hP : va_P (dC, dI) vwCl [(h0, .inr (12, (o12 r))), ((r 1), .inl (cI, 2, .inl (fun _ => 0))), ((r 4), .inl (cI, 2, .inl (fun _ => 0))), ((r 10), .inl (cI, 2, .inl (fun _ => 0))), ((r 12), .inl (cI, 2, .inl (fun _ => 0))), ((r 14), .inl (cI, 2, .inl (fun _ => 0))), ((r 15), .inl (cI, 2, .inl (fun _ => 0))), ((r 27), .inl (cI, 6, .inl (fun _ => 0)))] H := hP
  have hD : va_D A [(h0, .inr (12, (o12 r))), ((r 1), .inl (cI, 2, .inl (fun _ => 0))), ((r 4), .inl (cI, 2, .inl (fun _ => 0))), ((r 10), .inl (cI, 2, .inl (fun _ => 0))), ((r 12), .inl (cI, 2, .inl (fun _ => 0))), ((r 14), .inl (cI, 2, .inl (fun _ => 0))), ((r 15), .inl (cI, 2, .inl (fun _ => 0))), ((r 27), .inl (cI, 6, .inl (fun _ => 0)))] := hD
  refine lv_aload_n hx hb dX12_match_28 rfl (lv_at hl 0 rfl) ?_
  refine lv_iconst (v := 1) hx hb dX12_match_29 (by decide) ?_
  refine lv_aload_n hx hb dX12_match_30 rfl (lv_at hl 0 rfl) ?_
  refine va_get (D := (dC, dI)) (ci := 12) (v := .int 0) (C := RX12) (T := TX12) (N := 98) hx hb hts h_in_X12 hown hK hP 0 rfl rfl 13 (by decide) (hts (.fieldLink RX12 51 "MatchTreesModel" "bank" "I") (by decide +kernel)) (fun _ h9 => h9) rfl dX12_match_31 ?_
  refine k_isub (v := 1) hx hb (by decide) dX12_match_34 ?_
  refine va_put (D := (dC, dI)) (ci := 12) (v := .int 1) (ty := .int) (C := RX12) (T := TX12) (N := 98) hx hb hts h_in_X12 tyX12 tyX12_ok nmX12 hown hK hP hD hS 0 rfl rfl 37 (by decide) (hts (.fieldLink RX12 124 "MatchTreesModel" "in" "I") (by decide +kernel)) (fun _ h9 => h9) rfl (by decide +kernel) rfl rfl (Nat.le_of_ble_eq_true rfl) dX12_match_35 (fun H locs hP hD hS => ?_)
  have hP : va_P (dC, dI) vwCl [(h0, .inr (12, (o12 r))), ((r 1), .inl (cI, 2, .inl (fun _ => 0))), ((r 4), .inl (cI, 2, .inl (fun _ => 0))), ((r 10), .inl (cI, 2, .inl (fun _ => 0))), ((r 12), .inl (cI, 2, .inl (fun _ => 0))), ((r 14), .inl (cI, 2, .inl (fun _ => 0))), ((r 15), .inl (cI, 2, .inl (fun _ => 0))), ((r 27), .inl (cI, 6, .inl (fun _ => 0)))] H := hP
  have hD : va_D A [(h0, .inr (12, (o12 r))), ((r 1), .inl (cI, 2, .inl (fun _ => 0))), ((r 4), .inl (cI, 2, .inl (fun _ => 0))), ((r 10), .inl (cI, 2, .inl (fun _ => 0))), ((r 12), .inl (cI, 2, .inl (fun _ => 0))), ((r 14), .inl (cI, 2, .inl (fun _ => 0))), ((r 15), .inl (cI, 2, .inl (fun _ => 0))), ((r 27), .inl (cI, 6, .inl (fun _ => 0)))] := hD
  refine lv_aload_n hx hb dX12_match_38 rfl (lv_at hl 0 rfl) ?_
  refine va_get (D := (dC, dI)) (ci := 12) (v := .ref (r 1)) (C := RX12) (T := TX12) (N := 98) hx hb hts h_in_X12 hown hK hP 0 rfl rfl 14 (by decide) (hts (.fieldLink RX12 54 "MatchTreesModel" "kindMany" "[I") (by decide +kernel)) (fun _ h9 => h9) rfl dX12_match_39 ?_
  refine lv_aload_n hx hb dX12_match_42 rfl (lv_at hl 0 rfl) ?_
  refine va_get (D := (dC, dI)) (ci := 12) (v := .int 1) (C := RX12) (T := TX12) (N := 98) hx hb hts h_in_X12 hown hK hP 0 rfl rfl 37 (by decide) (hts (.fieldLink RX12 124 "MatchTreesModel" "in" "I") (by decide +kernel)) (fun _ h9 => h9) rfl dX12_match_43 ?_
  refine lv_iconst (v := 0) hx hb dX12_match_46 (by decide) ?_
  refine va_iast hx hb hK hP hD hS 1 0 rfl rfl (vpd (by decide)) dX12_match_47 (fun H locs hP hD hS => ?_)
  rw [upd_z] at hP hD
  have hP : va_P (dC, dI) vwCl [(h0, .inr (12, (o12 r))), ((r 1), .inl (cI, 2, .inl (fun _ => 0))), ((r 4), .inl (cI, 2, .inl (fun _ => 0))), ((r 10), .inl (cI, 2, .inl (fun _ => 0))), ((r 12), .inl (cI, 2, .inl (fun _ => 0))), ((r 14), .inl (cI, 2, .inl (fun _ => 0))), ((r 15), .inl (cI, 2, .inl (fun _ => 0))), ((r 27), .inl (cI, 6, .inl (fun _ => 0)))] H := hP
  have hD : va_D A [(h0, .inr (12, (o12 r))), ((r 1), .inl (cI, 2, .inl (fun _ => 0))), ((r 4), .inl (cI, 2, .inl (fun _ => 0))), ((r 10), .inl (cI, 2, .inl (fun _ => 0))), ((r 12), .inl (cI, 2, .inl (fun _ => 0))), ((r 14), .inl (cI, 2, .inl (fun _ => 0))), ((r 15), .inl (cI, 2, .inl (fun _ => 0))), ((r 27), .inl (cI, 6, .inl (fun _ => 0)))] := hD
  refine lv_aload_n hx hb dX12_match_48 rfl (lv_at hl 0 rfl) ?_
  refine va_get (D := (dC, dI)) (ci := 12) (v := .ref (r 4)) (C := RX12) (T := TX12) (N := 98) hx hb hts h_in_X12 hown hK hP 0 rfl rfl 17 (by decide) (hts (.fieldLink RX12 63 "MatchTreesModel" "conMany" "[I") (by decide +kernel)) (fun _ h9 => h9) rfl dX12_match_49 ?_
  refine lv_aload_n hx hb dX12_match_52 rfl (lv_at hl 0 rfl) ?_
  refine va_get (D := (dC, dI)) (ci := 12) (v := .int 1) (C := RX12) (T := TX12) (N := 98) hx hb hts h_in_X12 hown hK hP 0 rfl rfl 37 (by decide) (hts (.fieldLink RX12 124 "MatchTreesModel" "in" "I") (by decide +kernel)) (fun _ h9 => h9) rfl dX12_match_53 ?_
  refine lv_iconst (v := 0) hx hb dX12_match_56 (by decide) ?_
  refine va_iast hx hb hK hP hD hS 2 0 rfl rfl (vpd (by decide)) dX12_match_57 (fun H locs hP hD hS => ?_)
  rw [upd_z] at hP hD
  have hP : va_P (dC, dI) vwCl [(h0, .inr (12, (o12 r))), ((r 1), .inl (cI, 2, .inl (fun _ => 0))), ((r 4), .inl (cI, 2, .inl (fun _ => 0))), ((r 10), .inl (cI, 2, .inl (fun _ => 0))), ((r 12), .inl (cI, 2, .inl (fun _ => 0))), ((r 14), .inl (cI, 2, .inl (fun _ => 0))), ((r 15), .inl (cI, 2, .inl (fun _ => 0))), ((r 27), .inl (cI, 6, .inl (fun _ => 0)))] H := hP
  have hD : va_D A [(h0, .inr (12, (o12 r))), ((r 1), .inl (cI, 2, .inl (fun _ => 0))), ((r 4), .inl (cI, 2, .inl (fun _ => 0))), ((r 10), .inl (cI, 2, .inl (fun _ => 0))), ((r 12), .inl (cI, 2, .inl (fun _ => 0))), ((r 14), .inl (cI, 2, .inl (fun _ => 0))), ((r 15), .inl (cI, 2, .inl (fun _ => 0))), ((r 27), .inl (cI, 6, .inl (fun _ => 0)))] := hD
  refine lv_aload_n hx hb dX12_match_58 rfl (lv_at hl 0 rfl) ?_
  refine va_get (D := (dC, dI)) (ci := 12) (v := .ref (r 10)) (C := RX12) (T := TX12) (N := 98) hx hb hts h_in_X12 hown hK hP 0 rfl rfl 23 (by decide) (hts (.fieldLink RX12 81 "MatchTreesModel" "columnMany" "[I") (by decide +kernel)) (fun _ h9 => h9) rfl dX12_match_59 ?_
  refine lv_aload_n hx hb dX12_match_62 rfl (lv_at hl 0 rfl) ?_
  refine va_get (D := (dC, dI)) (ci := 12) (v := .int 1) (C := RX12) (T := TX12) (N := 98) hx hb hts h_in_X12 hown hK hP 0 rfl rfl 37 (by decide) (hts (.fieldLink RX12 124 "MatchTreesModel" "in" "I") (by decide +kernel)) (fun _ h9 => h9) rfl dX12_match_63 ?_
  refine lv_iconst (v := 0) hx hb dX12_match_66 (by decide) ?_
  refine va_iast hx hb hK hP hD hS 3 0 rfl rfl (vpd (by decide)) dX12_match_67 (fun H locs hP hD hS => ?_)
  rw [upd_z] at hP hD
  have hP : va_P (dC, dI) vwCl [(h0, .inr (12, (o12 r))), ((r 1), .inl (cI, 2, .inl (fun _ => 0))), ((r 4), .inl (cI, 2, .inl (fun _ => 0))), ((r 10), .inl (cI, 2, .inl (fun _ => 0))), ((r 12), .inl (cI, 2, .inl (fun _ => 0))), ((r 14), .inl (cI, 2, .inl (fun _ => 0))), ((r 15), .inl (cI, 2, .inl (fun _ => 0))), ((r 27), .inl (cI, 6, .inl (fun _ => 0)))] H := hP
  have hD : va_D A [(h0, .inr (12, (o12 r))), ((r 1), .inl (cI, 2, .inl (fun _ => 0))), ((r 4), .inl (cI, 2, .inl (fun _ => 0))), ((r 10), .inl (cI, 2, .inl (fun _ => 0))), ((r 12), .inl (cI, 2, .inl (fun _ => 0))), ((r 14), .inl (cI, 2, .inl (fun _ => 0))), ((r 15), .inl (cI, 2, .inl (fun _ => 0))), ((r 27), .inl (cI, 6, .inl (fun _ => 0)))] := hD
  refine lv_aload_n hx hb dX12_match_68 rfl (lv_at hl 0 rfl) ?_
  refine va_get (D := (dC, dI)) (ci := 12) (v := .ref (r 12)) (C := RX12) (T := TX12) (N := 98) hx hb hts h_in_X12 hown hK hP 0 rfl rfl 25 (by decide) (hts (.fieldLink RX12 87 "MatchTreesModel" "armMany" "[I") (by decide +kernel)) (fun _ h9 => h9) rfl dX12_match_69 ?_
  refine lv_aload_n hx hb dX12_match_72 rfl (lv_at hl 0 rfl) ?_
  refine va_get (D := (dC, dI)) (ci := 12) (v := .int 1) (C := RX12) (T := TX12) (N := 98) hx hb hts h_in_X12 hown hK hP 0 rfl rfl 37 (by decide) (hts (.fieldLink RX12 124 "MatchTreesModel" "in" "I") (by decide +kernel)) (fun _ h9 => h9) rfl dX12_match_73 ?_
  refine lv_iconst (v := 0) hx hb dX12_match_76 (by decide) ?_
  refine va_iast hx hb hK hP hD hS 4 0 rfl rfl (vpd (by decide)) dX12_match_77 (fun H locs hP hD hS => ?_)
  rw [upd_z] at hP hD
  have hP : va_P (dC, dI) vwCl [(h0, .inr (12, (o12 r))), ((r 1), .inl (cI, 2, .inl (fun _ => 0))), ((r 4), .inl (cI, 2, .inl (fun _ => 0))), ((r 10), .inl (cI, 2, .inl (fun _ => 0))), ((r 12), .inl (cI, 2, .inl (fun _ => 0))), ((r 14), .inl (cI, 2, .inl (fun _ => 0))), ((r 15), .inl (cI, 2, .inl (fun _ => 0))), ((r 27), .inl (cI, 6, .inl (fun _ => 0)))] H := hP
  have hD : va_D A [(h0, .inr (12, (o12 r))), ((r 1), .inl (cI, 2, .inl (fun _ => 0))), ((r 4), .inl (cI, 2, .inl (fun _ => 0))), ((r 10), .inl (cI, 2, .inl (fun _ => 0))), ((r 12), .inl (cI, 2, .inl (fun _ => 0))), ((r 14), .inl (cI, 2, .inl (fun _ => 0))), ((r 15), .inl (cI, 2, .inl (fun _ => 0))), ((r 27), .inl (cI, 6, .inl (fun _ => 0)))] := hD
  refine lv_aload_n hx hb dX12_match_78 rfl (lv_at hl 0 rfl) ?_
  refine va_get (D := (dC, dI)) (ci := 12) (v := .ref (r 14)) (C := RX12) (T := TX12) (N := 98) hx hb hts h_in_X12 hown hK hP 0 rfl rfl 27 (by decide) (hts (.fieldLink RX12 93 "MatchTreesModel" "ruleTold" "[I") (by decide +kernel)) (fun _ h9 => h9) rfl dX12_match_79 ?_
  refine lv_aload_n hx hb dX12_match_82 rfl (lv_at hl 0 rfl) ?_
  refine va_get (D := (dC, dI)) (ci := 12) (v := .int 1) (C := RX12) (T := TX12) (N := 98) hx hb hts h_in_X12 hown hK hP 0 rfl rfl 37 (by decide) (hts (.fieldLink RX12 124 "MatchTreesModel" "in" "I") (by decide +kernel)) (fun _ h9 => h9) rfl dX12_match_83 ?_
  refine lv_iconst (v := 0) hx hb dX12_match_86 (by decide) ?_
  refine va_iast hx hb hK hP hD hS 5 0 rfl rfl (vpd (by decide)) dX12_match_87 (fun H locs hP hD hS => ?_)
  rw [upd_z] at hP hD
  have hP : va_P (dC, dI) vwCl [(h0, .inr (12, (o12 r))), ((r 1), .inl (cI, 2, .inl (fun _ => 0))), ((r 4), .inl (cI, 2, .inl (fun _ => 0))), ((r 10), .inl (cI, 2, .inl (fun _ => 0))), ((r 12), .inl (cI, 2, .inl (fun _ => 0))), ((r 14), .inl (cI, 2, .inl (fun _ => 0))), ((r 15), .inl (cI, 2, .inl (fun _ => 0))), ((r 27), .inl (cI, 6, .inl (fun _ => 0)))] H := hP
  have hD : va_D A [(h0, .inr (12, (o12 r))), ((r 1), .inl (cI, 2, .inl (fun _ => 0))), ((r 4), .inl (cI, 2, .inl (fun _ => 0))), ((r 10), .inl (cI, 2, .inl (fun _ => 0))), ((r 12), .inl (cI, 2, .inl (fun _ => 0))), ((r 14), .inl (cI, 2, .inl (fun _ => 0))), ((r 15), .inl (cI, 2, .inl (fun _ => 0))), ((r 27), .inl (cI, 6, .inl (fun _ => 0)))] := hD
  refine lv_aload_n hx hb dX12_match_88 rfl (lv_at hl 0 rfl) ?_
  refine va_get (D := (dC, dI)) (ci := 12) (v := .ref (r 15)) (C := RX12) (T := TX12) (N := 98) hx hb hts h_in_X12 hown hK hP 0 rfl rfl 28 (by decide) (hts (.fieldLink RX12 96 "MatchTreesModel" "budgetTold" "[I") (by decide +kernel)) (fun _ h9 => h9) rfl dX12_match_89 ?_
  refine lv_aload_n hx hb dX12_match_92 rfl (lv_at hl 0 rfl) ?_
  refine va_get (D := (dC, dI)) (ci := 12) (v := .int 1) (C := RX12) (T := TX12) (N := 98) hx hb hts h_in_X12 hown hK hP 0 rfl rfl 37 (by decide) (hts (.fieldLink RX12 124 "MatchTreesModel" "in" "I") (by decide +kernel)) (fun _ h9 => h9) rfl dX12_match_93 ?_
  refine lv_sipush (v := 300) hx hb dX12_match_96 (by decide) ?_
  refine va_iast hx hb hK hP hD hS 6 0 rfl rfl (vpd (by decide)) dX12_match_99 (fun H locs hP hD hS => ?_)
  obtain ⟨g_6, e_g_6⟩ : ∃ y : Nat → Int32, y = upd (fun _ => 0) (1 : Int32).toNatClampNeg 300 := ⟨_, rfl⟩
  have hP : va_P (dC, dI) vwCl [(h0, .inr (12, (o12 r))), ((r 1), .inl (cI, 2, .inl (fun _ => 0))), ((r 4), .inl (cI, 2, .inl (fun _ => 0))), ((r 10), .inl (cI, 2, .inl (fun _ => 0))), ((r 12), .inl (cI, 2, .inl (fun _ => 0))), ((r 14), .inl (cI, 2, .inl (fun _ => 0))), ((r 15), .inl (cI, 2, .inl g_6)), ((r 27), .inl (cI, 6, .inl (fun _ => 0)))] H := by rw [e_g_6]; exact hP
  have hD : va_D A [(h0, .inr (12, (o12 r))), ((r 1), .inl (cI, 2, .inl (fun _ => 0))), ((r 4), .inl (cI, 2, .inl (fun _ => 0))), ((r 10), .inl (cI, 2, .inl (fun _ => 0))), ((r 12), .inl (cI, 2, .inl (fun _ => 0))), ((r 14), .inl (cI, 2, .inl (fun _ => 0))), ((r 15), .inl (cI, 2, .inl g_6)), ((r 27), .inl (cI, 6, .inl (fun _ => 0)))] := by rw [e_g_6]; exact hD
  refine lv_aload_n hx hb dX12_match_100 rfl (lv_at hl 0 rfl) ?_
  refine lv_iconst (v := 0) hx hb dX12_match_101 (by decide) ?_
  refine va_put (D := (dC, dI)) (ci := 12) (v := .int 0) (ty := .boolean) (C := RX12) (T := TX12) (N := 98) hx hb hts h_in_X12 tyX12 tyX12_ok nmX12 hown hK hP hD hS 0 rfl rfl 38 (by decide) (hts (.fieldLink RX12 127 "MatchTreesModel" "isMatched" "Z") (by decide +kernel)) (fun _ h9 => h9) rfl (by decide +kernel) rfl rfl (Nat.le_of_ble_eq_true rfl) dX12_match_102 (fun H locs hP hD hS => ?_)
  have hP : va_P (dC, dI) vwCl [(h0, .inr (12, (o12 r))), ((r 1), .inl (cI, 2, .inl (fun _ => 0))), ((r 4), .inl (cI, 2, .inl (fun _ => 0))), ((r 10), .inl (cI, 2, .inl (fun _ => 0))), ((r 12), .inl (cI, 2, .inl (fun _ => 0))), ((r 14), .inl (cI, 2, .inl (fun _ => 0))), ((r 15), .inl (cI, 2, .inl g_6)), ((r 27), .inl (cI, 6, .inl (fun _ => 0)))] H := hP
  have hD : va_D A [(h0, .inr (12, (o12 r))), ((r 1), .inl (cI, 2, .inl (fun _ => 0))), ((r 4), .inl (cI, 2, .inl (fun _ => 0))), ((r 10), .inl (cI, 2, .inl (fun _ => 0))), ((r 12), .inl (cI, 2, .inl (fun _ => 0))), ((r 14), .inl (cI, 2, .inl (fun _ => 0))), ((r 15), .inl (cI, 2, .inl g_6)), ((r 27), .inl (cI, 6, .inl (fun _ => 0)))] := hD
  refine lv_aload_n hx hb dX12_match_105 rfl (lv_at hl 0 rfl) ?_
  refine lv_iconst (v := 0) hx hb dX12_match_106 (by decide) ?_
  refine va_put (D := (dC, dI)) (ci := 12) (v := .int 0) (ty := .int) (C := RX12) (T := TX12) (N := 98) hx hb hts h_in_X12 tyX12 tyX12_ok nmX12 hown hK hP hD hS 0 rfl rfl 36 (by decide) (hts (.fieldLink RX12 121 "MatchTreesModel" "codes" "I") (by decide +kernel)) (fun _ h9 => h9) rfl (by decide +kernel) rfl rfl (Nat.le_of_ble_eq_true rfl) dX12_match_107 (fun H locs hP hD hS => ?_)
  have hP : va_P (dC, dI) vwCl [(h0, .inr (12, (o12 r))), ((r 1), .inl (cI, 2, .inl (fun _ => 0))), ((r 4), .inl (cI, 2, .inl (fun _ => 0))), ((r 10), .inl (cI, 2, .inl (fun _ => 0))), ((r 12), .inl (cI, 2, .inl (fun _ => 0))), ((r 14), .inl (cI, 2, .inl (fun _ => 0))), ((r 15), .inl (cI, 2, .inl g_6)), ((r 27), .inl (cI, 6, .inl (fun _ => 0)))] H := hP
  have hD : va_D A [(h0, .inr (12, (o12 r))), ((r 1), .inl (cI, 2, .inl (fun _ => 0))), ((r 4), .inl (cI, 2, .inl (fun _ => 0))), ((r 10), .inl (cI, 2, .inl (fun _ => 0))), ((r 12), .inl (cI, 2, .inl (fun _ => 0))), ((r 14), .inl (cI, 2, .inl (fun _ => 0))), ((r 15), .inl (cI, 2, .inl g_6)), ((r 27), .inl (cI, 6, .inl (fun _ => 0)))] := hD
  refine lv_iconst (v := 0) hx hb dX12_match_110 (by decide) ?_
  refine lv_istore_n (lv' := [(1, .int 0), (0, .ref h0)]) hx hb dX12_match_111 rfl hl (by decide) rfl (fun ls hl => ?_)
  refine lv_aload_n hx hb dX12_match_112 rfl (lv_at hl 1 rfl) ?_
  have hPc := hP.sub (ws' := [(h0, .inr (12, (o12 r)))]) [0] rfl
  have hDc := hD.sub (ws' := [(h0, .inr (12, (o12 r)))]) [0] (by decide) rfl
  have hFc := va_free (wc := [(h0, .inr (12, (o12 r)))]) hD hS hA [0] rfl
  refine va_callv (va_runV (As := []) (rest := []) ⟨hx, hb, hml, hown, hts⟩ (c_X12_ahead l dC dI cI cJ h0 r H.size) (cwV 0 hts gX12_match_X12_ahead rfl rfl rfl (by decide +kernel) ⟨Nat.le_of_ble_eq_true rfl, Nat.le_of_ble_eq_true rfl⟩) ⟨mBlind, va_recv hK hPc (ci := 12) (q0 := 0) rfl rfl, mGo hPc hK hDc hN⟩ rfl rfl hl.1 rfl (lv_room (Nat.le_of_ble_eq_true rfl)) dX12_match_113 ⟨Nat.le_of_ble_eq_true rfl, Nat.le_of_ble_eq_true rfl⟩) hS (fun q _ h => hFc q h) hFc (fun u t H1 locs ht hvm hw hB hz1 hk1 hS => ?_)
  obtain ⟨hP1, hD1⟩ := hB
  rw [ht] at hP1
  obtain ⟨hP, hD⟩ := va_join (wr := [((r 1), .inl (cI, 2, .inl (fun _ => 0))), ((r 4), .inl (cI, 2, .inl (fun _ => 0))), ((r 10), .inl (cI, 2, .inl (fun _ => 0))), ((r 12), .inl (cI, 2, .inl (fun _ => 0))), ((r 14), .inl (cI, 2, .inl (fun _ => 0))), ((r 15), .inl (cI, 2, .inl g_6)), ((r 27), .inl (cI, 6, .inl (fun _ => 0)))]) (w1 := [(h0, .inr (12, (o12 r)))]) hP hD [0] [1, 2, 3, 4, 5, 6, 7] rfl rfl (by decide) (by decide) hk1 hFc hP1 hD1
  generalize H1 = H at hP hS ⊢
  have hP : va_P (dC, dI) vwCl [((r 1), .inl (cI, 2, .inl (fun _ => 0))), ((r 4), .inl (cI, 2, .inl (fun _ => 0))), ((r 10), .inl (cI, 2, .inl (fun _ => 0))), ((r 12), .inl (cI, 2, .inl (fun _ => 0))), ((r 14), .inl (cI, 2, .inl (fun _ => 0))), ((r 15), .inl (cI, 2, .inl g_6)), ((r 27), .inl (cI, 6, .inl (fun _ => 0))), (h0, .inr (12, (o12 r)))] H := hP
  have hD : va_D A [((r 1), .inl (cI, 2, .inl (fun _ => 0))), ((r 4), .inl (cI, 2, .inl (fun _ => 0))), ((r 10), .inl (cI, 2, .inl (fun _ => 0))), ((r 12), .inl (cI, 2, .inl (fun _ => 0))), ((r 14), .inl (cI, 2, .inl (fun _ => 0))), ((r 15), .inl (cI, 2, .inl g_6)), ((r 27), .inl (cI, 6, .inl (fun _ => 0))), (h0, .inr (12, (o12 r)))] := hD
  refine lv_aload_n hx hb dX12_match_116 rfl (lv_at hl 1 rfl) ?_
  refine va_get (D := (dC, dI)) (ci := 12) (v := .int 0) (C := RX12) (T := TX12) (N := 98) hx hb hts h_in_X12 hown hK hP 7 rfl rfl 8 (by decide) (hts (.fieldLink RX12 36 "MatchTreesModel" "faultKind" "I") (by decide +kernel)) (fun _ h9 => h9) rfl dX12_match_117 ?_
  refine lv_if_ne (tgt := 145) hx hb dX12_match_120 (by decide) (fun c => absurd c (by decide)) (fun _ => ?_)
  refine lv_aload_n hx hb dX12_match_123 rfl (lv_at hl 1 rfl) ?_
  refine va_get (D := (dC, dI)) (ci := 12) (v := .int 0) (C := RX12) (T := TX12) (N := 98) hx hb hts h_in_X12 hown hK hP 7 rfl rfl 3 (by decide) (hts (.fieldLink RX12 20 "MatchTreesModel" "sign" "I") (by decide +kernel)) (fun _ h9 => h9) rfl dX12_match_124 ?_
  refine lv_if_eq (tgt := 145) hx hb dX12_match_127 (by decide) (fun _ => ?_) (fun c => absurd (by decide) c)
  refine lv_aload_n hx hb dX12_match_145 rfl (lv_at hl 1 rfl) ?_
  refine va_get (D := (dC, dI)) (ci := 12) (v := .int 0) (C := RX12) (T := TX12) (N := 98) hx hb hts h_in_X12 hown hK hP 7 rfl rfl 8 (by decide) (hts (.fieldLink RX12 36 "MatchTreesModel" "faultKind" "I") (by decide +kernel)) (fun _ h9 => h9) rfl dX12_match_146 ?_
  refine lv_if_ne (tgt := 168) hx hb dX12_match_149 (by decide) (fun c => absurd c (by decide)) (fun _ => ?_)
  refine lv_aload_n hx hb dX12_match_152 rfl (lv_at hl 1 rfl) ?_
  refine va_get (D := (dC, dI)) (ci := 12) (v := .int 0) (C := RX12) (T := TX12) (N := 98) hx hb hts h_in_X12 hown hK hP 7 rfl rfl 38 (by decide) (hts (.fieldLink RX12 127 "MatchTreesModel" "isMatched" "Z") (by decide +kernel)) (fun _ h9 => h9) rfl dX12_match_153 ?_
  refine lv_if_ne (tgt := 168) hx hb dX12_match_156 (by decide) (fun c => absurd c (by decide)) (fun _ => ?_)
  refine lv_aload_n hx hb dX12_match_159 rfl (lv_at hl 1 rfl) ?_
  refine lv_iconst (v := 1) hx hb dX12_match_160 (by decide) ?_
  refine lv_aload_n hx hb dX12_match_161 rfl (lv_at hl 1 rfl) ?_
  refine va_get (D := (dC, dI)) (ci := 12) (v := .int 0) (C := RX12) (T := TX12) (N := 98) hx hb hts h_in_X12 hown hK hP 7 rfl rfl 2 (by decide) (hts (.fieldLink RX12 17 "MatchTreesModel" "size" "I") (by decide +kernel)) (fun _ h9 => h9) rfl dX12_match_162 ?_
  have hPc := hP.sub (ws' := [(h0, .inr (12, (o12 r)))]) [7] rfl
  have hDc := hD.sub (ws' := [(h0, .inr (12, (o12 r)))]) [7] (by decide) rfl
  have hFc := va_free (wc := [(h0, .inr (12, (o12 r)))]) hD hS hA [7] rfl
  refine va_callv (va_runV (As := [.int 1, .int 0]) (rest := []) ⟨hx, hb, hml, hown, hts⟩ (c_X12_blame_1_0 l dC dI cI cJ h0 r H.size) (cwV 2 hts gX12_match_X12_blame rfl rfl rfl (by decide +kernel) ⟨Nat.le_of_ble_eq_true rfl, Nat.le_of_ble_eq_true rfl⟩) ⟨mBlind, va_recv hK hPc (ci := 12) (q0 := 0) rfl rfl, mGo hPc hK hDc hN⟩ rfl rfl hl.1 rfl (lv_room (Nat.le_of_ble_eq_true rfl)) dX12_match_165 ⟨Nat.le_of_ble_eq_true rfl, Nat.le_of_ble_eq_true rfl⟩) hS (fun q _ h => hFc q h) hFc (fun u t H1 locs ht hvm hw hB hz1 hk1 hS => ?_)
  obtain ⟨hP1, hD1⟩ := hB
  rw [ht] at hP1
  obtain ⟨hP, hD⟩ := va_join (wr := [((r 1), .inl (cI, 2, .inl (fun _ => 0))), ((r 4), .inl (cI, 2, .inl (fun _ => 0))), ((r 10), .inl (cI, 2, .inl (fun _ => 0))), ((r 12), .inl (cI, 2, .inl (fun _ => 0))), ((r 14), .inl (cI, 2, .inl (fun _ => 0))), ((r 15), .inl (cI, 2, .inl g_6)), ((r 27), .inl (cI, 6, .inl (fun _ => 0)))]) (w1 := [(h0, .inr (12, [.ref (r 0), .int 0, .int 0, .int 0, .int 0, .int 0, .int 0, .long 0, .int 1, .int 0, .int 0, .int (-1), .int (-1), .int 0, .ref (r 1), .ref (r 2), .ref (r 3), .ref (r 4), .ref (r 5), .ref (r 6), .ref (r 7), .ref (r 8), .ref (r 9), .ref (r 10), .ref (r 11), .ref (r 12), .ref (r 13), .ref (r 14), .ref (r 15), .ref (r 16), .ref (r 17), .ref (r 18), .ref (r 19), .ref (r 20), .ref (r 21), .ref (r 22), .int 0, .int 1, .int 0, .ref (r 23), .ref (r 24), .ref (r 25), .ref (r 26), .int 0, .int 0, .ref (r 27), .ref (r 28), .ref (r 29), .ref (r 30), .ref (r 31), .ref (r 32), .ref (r 33), .int 0, .ref (r 34), .ref (r 35), .ref (r 36), .ref (r 37), .ref (r 38), .ref (r 39), .int 0, .int 0, .long 1, .int 0, .ref (r 40), .ref (r 41), .ref (r 42), .int 0, .ref (r 43), .ref (r 44), .ref (r 45), .int 0, .ref (r 46), .ref (r 47), .int 0, .int 0, .ref (r 48), .int 0, .ref (r 49), .int 0, .ref (r 50), .ref (r 51), .int 0, .ref (r 52), .ref (r 53), .ref (r 54), .ref (r 55), .ref (r 56), .int 0, .int 0, .int 0, .int 0, .ref (r 57), .int 0, .ref (r 58), .ref (r 59), .ref (r 60), .ref (r 61), .ref (r 62)]))]) hP hD [7] [0, 1, 2, 3, 4, 5, 6] rfl rfl (by decide) (by decide) hk1 hFc hP1 hD1
  generalize H1 = H at hP hS ⊢
  have hP : va_P (dC, dI) vwCl [((r 1), .inl (cI, 2, .inl (fun _ => 0))), ((r 4), .inl (cI, 2, .inl (fun _ => 0))), ((r 10), .inl (cI, 2, .inl (fun _ => 0))), ((r 12), .inl (cI, 2, .inl (fun _ => 0))), ((r 14), .inl (cI, 2, .inl (fun _ => 0))), ((r 15), .inl (cI, 2, .inl g_6)), ((r 27), .inl (cI, 6, .inl (fun _ => 0))), (h0, .inr (12, [.ref (r 0), .int 0, .int 0, .int 0, .int 0, .int 0, .int 0, .long 0, .int 1, .int 0, .int 0, .int (-1), .int (-1), .int 0, .ref (r 1), .ref (r 2), .ref (r 3), .ref (r 4), .ref (r 5), .ref (r 6), .ref (r 7), .ref (r 8), .ref (r 9), .ref (r 10), .ref (r 11), .ref (r 12), .ref (r 13), .ref (r 14), .ref (r 15), .ref (r 16), .ref (r 17), .ref (r 18), .ref (r 19), .ref (r 20), .ref (r 21), .ref (r 22), .int 0, .int 1, .int 0, .ref (r 23), .ref (r 24), .ref (r 25), .ref (r 26), .int 0, .int 0, .ref (r 27), .ref (r 28), .ref (r 29), .ref (r 30), .ref (r 31), .ref (r 32), .ref (r 33), .int 0, .ref (r 34), .ref (r 35), .ref (r 36), .ref (r 37), .ref (r 38), .ref (r 39), .int 0, .int 0, .long 1, .int 0, .ref (r 40), .ref (r 41), .ref (r 42), .int 0, .ref (r 43), .ref (r 44), .ref (r 45), .int 0, .ref (r 46), .ref (r 47), .int 0, .int 0, .ref (r 48), .int 0, .ref (r 49), .int 0, .ref (r 50), .ref (r 51), .int 0, .ref (r 52), .ref (r 53), .ref (r 54), .ref (r 55), .ref (r 56), .int 0, .int 0, .int 0, .int 0, .ref (r 57), .int 0, .ref (r 58), .ref (r 59), .ref (r 60), .ref (r 61), .ref (r 62)]))] H := hP
  have hD : va_D A [((r 1), .inl (cI, 2, .inl (fun _ => 0))), ((r 4), .inl (cI, 2, .inl (fun _ => 0))), ((r 10), .inl (cI, 2, .inl (fun _ => 0))), ((r 12), .inl (cI, 2, .inl (fun _ => 0))), ((r 14), .inl (cI, 2, .inl (fun _ => 0))), ((r 15), .inl (cI, 2, .inl g_6)), ((r 27), .inl (cI, 6, .inl (fun _ => 0))), (h0, .inr (12, [.ref (r 0), .int 0, .int 0, .int 0, .int 0, .int 0, .int 0, .long 0, .int 1, .int 0, .int 0, .int (-1), .int (-1), .int 0, .ref (r 1), .ref (r 2), .ref (r 3), .ref (r 4), .ref (r 5), .ref (r 6), .ref (r 7), .ref (r 8), .ref (r 9), .ref (r 10), .ref (r 11), .ref (r 12), .ref (r 13), .ref (r 14), .ref (r 15), .ref (r 16), .ref (r 17), .ref (r 18), .ref (r 19), .ref (r 20), .ref (r 21), .ref (r 22), .int 0, .int 1, .int 0, .ref (r 23), .ref (r 24), .ref (r 25), .ref (r 26), .int 0, .int 0, .ref (r 27), .ref (r 28), .ref (r 29), .ref (r 30), .ref (r 31), .ref (r 32), .ref (r 33), .int 0, .ref (r 34), .ref (r 35), .ref (r 36), .ref (r 37), .ref (r 38), .ref (r 39), .int 0, .int 0, .long 1, .int 0, .ref (r 40), .ref (r 41), .ref (r 42), .int 0, .ref (r 43), .ref (r 44), .ref (r 45), .int 0, .ref (r 46), .ref (r 47), .int 0, .int 0, .ref (r 48), .int 0, .ref (r 49), .int 0, .ref (r 50), .ref (r 51), .int 0, .ref (r 52), .ref (r 53), .ref (r 54), .ref (r 55), .ref (r 56), .int 0, .int 0, .int 0, .int 0, .ref (r 57), .int 0, .ref (r 58), .ref (r 59), .ref (r 60), .ref (r 61), .ref (r 62)]))] := hD
  refine lv_aload_n hx hb dX12_match_168 rfl (lv_at hl 1 rfl) ?_
  refine lv_aload_n hx hb dX12_match_169 rfl (lv_at hl 1 rfl) ?_
  refine va_get (D := (dC, dI)) (ci := 12) (v := .int 1) (C := RX12) (T := TX12) (N := 98) hx hb hts h_in_X12 hown hK hP 7 rfl rfl 8 (by decide) (hts (.fieldLink RX12 36 "MatchTreesModel" "faultKind" "I") (by decide +kernel)) (fun _ h9 => h9) rfl dX12_match_170 ?_
  refine va_put (D := (dC, dI)) (ci := 12) (v := .int 1) (ty := .int) (C := RX12) (T := TX12) (N := 98) hx hb hts h_in_X12 tyX12 tyX12_ok nmX12 hown hK hP hD hS 7 rfl rfl 10 (by decide) (hts (.fieldLink RX12 42 "MatchTreesModel" "toldKind" "I") (by decide +kernel)) (fun _ h9 => h9) rfl (by decide +kernel) rfl rfl (Nat.le_of_ble_eq_true rfl) dX12_match_173 (fun H locs hP hD hS => ?_)
  have hP : va_P (dC, dI) vwCl [((r 1), .inl (cI, 2, .inl (fun _ => 0))), ((r 4), .inl (cI, 2, .inl (fun _ => 0))), ((r 10), .inl (cI, 2, .inl (fun _ => 0))), ((r 12), .inl (cI, 2, .inl (fun _ => 0))), ((r 14), .inl (cI, 2, .inl (fun _ => 0))), ((r 15), .inl (cI, 2, .inl g_6)), ((r 27), .inl (cI, 6, .inl (fun _ => 0))), (h0, .inr (12, [.ref (r 0), .int 0, .int 0, .int 0, .int 0, .int 0, .int 0, .long 0, .int 1, .int 0, .int 1, .int (-1), .int (-1), .int 0, .ref (r 1), .ref (r 2), .ref (r 3), .ref (r 4), .ref (r 5), .ref (r 6), .ref (r 7), .ref (r 8), .ref (r 9), .ref (r 10), .ref (r 11), .ref (r 12), .ref (r 13), .ref (r 14), .ref (r 15), .ref (r 16), .ref (r 17), .ref (r 18), .ref (r 19), .ref (r 20), .ref (r 21), .ref (r 22), .int 0, .int 1, .int 0, .ref (r 23), .ref (r 24), .ref (r 25), .ref (r 26), .int 0, .int 0, .ref (r 27), .ref (r 28), .ref (r 29), .ref (r 30), .ref (r 31), .ref (r 32), .ref (r 33), .int 0, .ref (r 34), .ref (r 35), .ref (r 36), .ref (r 37), .ref (r 38), .ref (r 39), .int 0, .int 0, .long 1, .int 0, .ref (r 40), .ref (r 41), .ref (r 42), .int 0, .ref (r 43), .ref (r 44), .ref (r 45), .int 0, .ref (r 46), .ref (r 47), .int 0, .int 0, .ref (r 48), .int 0, .ref (r 49), .int 0, .ref (r 50), .ref (r 51), .int 0, .ref (r 52), .ref (r 53), .ref (r 54), .ref (r 55), .ref (r 56), .int 0, .int 0, .int 0, .int 0, .ref (r 57), .int 0, .ref (r 58), .ref (r 59), .ref (r 60), .ref (r 61), .ref (r 62)]))] H := hP
  have hD : va_D A [((r 1), .inl (cI, 2, .inl (fun _ => 0))), ((r 4), .inl (cI, 2, .inl (fun _ => 0))), ((r 10), .inl (cI, 2, .inl (fun _ => 0))), ((r 12), .inl (cI, 2, .inl (fun _ => 0))), ((r 14), .inl (cI, 2, .inl (fun _ => 0))), ((r 15), .inl (cI, 2, .inl g_6)), ((r 27), .inl (cI, 6, .inl (fun _ => 0))), (h0, .inr (12, [.ref (r 0), .int 0, .int 0, .int 0, .int 0, .int 0, .int 0, .long 0, .int 1, .int 0, .int 1, .int (-1), .int (-1), .int 0, .ref (r 1), .ref (r 2), .ref (r 3), .ref (r 4), .ref (r 5), .ref (r 6), .ref (r 7), .ref (r 8), .ref (r 9), .ref (r 10), .ref (r 11), .ref (r 12), .ref (r 13), .ref (r 14), .ref (r 15), .ref (r 16), .ref (r 17), .ref (r 18), .ref (r 19), .ref (r 20), .ref (r 21), .ref (r 22), .int 0, .int 1, .int 0, .ref (r 23), .ref (r 24), .ref (r 25), .ref (r 26), .int 0, .int 0, .ref (r 27), .ref (r 28), .ref (r 29), .ref (r 30), .ref (r 31), .ref (r 32), .ref (r 33), .int 0, .ref (r 34), .ref (r 35), .ref (r 36), .ref (r 37), .ref (r 38), .ref (r 39), .int 0, .int 0, .long 1, .int 0, .ref (r 40), .ref (r 41), .ref (r 42), .int 0, .ref (r 43), .ref (r 44), .ref (r 45), .int 0, .ref (r 46), .ref (r 47), .int 0, .int 0, .ref (r 48), .int 0, .ref (r 49), .int 0, .ref (r 50), .ref (r 51), .int 0, .ref (r 52), .ref (r 53), .ref (r 54), .ref (r 55), .ref (r 56), .int 0, .int 0, .int 0, .int 0, .ref (r 57), .int 0, .ref (r 58), .ref (r 59), .ref (r 60), .ref (r 61), .ref (r 62)]))] := hD
  refine lv_aload_n hx hb dX12_match_176 rfl (lv_at hl 1 rfl) ?_
  refine lv_aload_n hx hb dX12_match_177 rfl (lv_at hl 1 rfl) ?_
  refine va_get (D := (dC, dI)) (ci := 12) (v := .int 0) (C := RX12) (T := TX12) (N := 98) hx hb hts h_in_X12 hown hK hP 7 rfl rfl 9 (by decide) (hts (.fieldLink RX12 39 "MatchTreesModel" "faultPlace" "I") (by decide +kernel)) (fun _ h9 => h9) rfl dX12_match_178 ?_
  refine va_put (D := (dC, dI)) (ci := 12) (v := .int 0) (ty := .int) (C := RX12) (T := TX12) (N := 98) hx hb hts h_in_X12 tyX12 tyX12_ok nmX12 hown hK hP hD hS 7 rfl rfl 11 (by decide) (hts (.fieldLink RX12 45 "MatchTreesModel" "toldPlace" "I") (by decide +kernel)) (fun _ h9 => h9) rfl (by decide +kernel) rfl rfl (Nat.le_of_ble_eq_true rfl) dX12_match_181 (fun H locs hP hD hS => ?_)
  have hP : va_P (dC, dI) vwCl [((r 1), .inl (cI, 2, .inl (fun _ => 0))), ((r 4), .inl (cI, 2, .inl (fun _ => 0))), ((r 10), .inl (cI, 2, .inl (fun _ => 0))), ((r 12), .inl (cI, 2, .inl (fun _ => 0))), ((r 14), .inl (cI, 2, .inl (fun _ => 0))), ((r 15), .inl (cI, 2, .inl g_6)), ((r 27), .inl (cI, 6, .inl (fun _ => 0))), (h0, .inr (12, [.ref (r 0), .int 0, .int 0, .int 0, .int 0, .int 0, .int 0, .long 0, .int 1, .int 0, .int 1, .int 0, .int (-1), .int 0, .ref (r 1), .ref (r 2), .ref (r 3), .ref (r 4), .ref (r 5), .ref (r 6), .ref (r 7), .ref (r 8), .ref (r 9), .ref (r 10), .ref (r 11), .ref (r 12), .ref (r 13), .ref (r 14), .ref (r 15), .ref (r 16), .ref (r 17), .ref (r 18), .ref (r 19), .ref (r 20), .ref (r 21), .ref (r 22), .int 0, .int 1, .int 0, .ref (r 23), .ref (r 24), .ref (r 25), .ref (r 26), .int 0, .int 0, .ref (r 27), .ref (r 28), .ref (r 29), .ref (r 30), .ref (r 31), .ref (r 32), .ref (r 33), .int 0, .ref (r 34), .ref (r 35), .ref (r 36), .ref (r 37), .ref (r 38), .ref (r 39), .int 0, .int 0, .long 1, .int 0, .ref (r 40), .ref (r 41), .ref (r 42), .int 0, .ref (r 43), .ref (r 44), .ref (r 45), .int 0, .ref (r 46), .ref (r 47), .int 0, .int 0, .ref (r 48), .int 0, .ref (r 49), .int 0, .ref (r 50), .ref (r 51), .int 0, .ref (r 52), .ref (r 53), .ref (r 54), .ref (r 55), .ref (r 56), .int 0, .int 0, .int 0, .int 0, .ref (r 57), .int 0, .ref (r 58), .ref (r 59), .ref (r 60), .ref (r 61), .ref (r 62)]))] H := hP
  have hD : va_D A [((r 1), .inl (cI, 2, .inl (fun _ => 0))), ((r 4), .inl (cI, 2, .inl (fun _ => 0))), ((r 10), .inl (cI, 2, .inl (fun _ => 0))), ((r 12), .inl (cI, 2, .inl (fun _ => 0))), ((r 14), .inl (cI, 2, .inl (fun _ => 0))), ((r 15), .inl (cI, 2, .inl g_6)), ((r 27), .inl (cI, 6, .inl (fun _ => 0))), (h0, .inr (12, [.ref (r 0), .int 0, .int 0, .int 0, .int 0, .int 0, .int 0, .long 0, .int 1, .int 0, .int 1, .int 0, .int (-1), .int 0, .ref (r 1), .ref (r 2), .ref (r 3), .ref (r 4), .ref (r 5), .ref (r 6), .ref (r 7), .ref (r 8), .ref (r 9), .ref (r 10), .ref (r 11), .ref (r 12), .ref (r 13), .ref (r 14), .ref (r 15), .ref (r 16), .ref (r 17), .ref (r 18), .ref (r 19), .ref (r 20), .ref (r 21), .ref (r 22), .int 0, .int 1, .int 0, .ref (r 23), .ref (r 24), .ref (r 25), .ref (r 26), .int 0, .int 0, .ref (r 27), .ref (r 28), .ref (r 29), .ref (r 30), .ref (r 31), .ref (r 32), .ref (r 33), .int 0, .ref (r 34), .ref (r 35), .ref (r 36), .ref (r 37), .ref (r 38), .ref (r 39), .int 0, .int 0, .long 1, .int 0, .ref (r 40), .ref (r 41), .ref (r 42), .int 0, .ref (r 43), .ref (r 44), .ref (r 45), .int 0, .ref (r 46), .ref (r 47), .int 0, .int 0, .ref (r 48), .int 0, .ref (r 49), .int 0, .ref (r 50), .ref (r 51), .int 0, .ref (r 52), .ref (r 53), .ref (r 54), .ref (r 55), .ref (r 56), .int 0, .int 0, .int 0, .int 0, .ref (r 57), .int 0, .ref (r 58), .ref (r 59), .ref (r 60), .ref (r 61), .ref (r 62)]))] := hD
  refine lv_aload_n hx hb dX12_match_184 rfl (lv_at hl 1 rfl) ?_
  refine va_get (D := (dC, dI)) (ci := 12) (v := .int 1) (C := RX12) (T := TX12) (N := 98) hx hb hts h_in_X12 hown hK hP 7 rfl rfl 8 (by decide) (hts (.fieldLink RX12 36 "MatchTreesModel" "faultKind" "I") (by decide +kernel)) (fun _ h9 => h9) rfl dX12_match_185 ?_
  refine lv_if_le (tgt := 197) hx hb dX12_match_188 (by decide) (fun c => absurd c (by decide)) (fun _ => ?_)
  refine lv_aload_n hx hb dX12_match_191 rfl (lv_at hl 1 rfl) ?_
  refine lv_iconst (v := 1) hx hb dX12_match_192 (by decide) ?_
  have hPc := hP.sub (ws' := [(h0, .inr (12, [.ref (r 0), .int 0, .int 0, .int 0, .int 0, .int 0, .int 0, .long 0, .int 1, .int 0, .int 1, .int 0, .int (-1), .int 0, .ref (r 1), .ref (r 2), .ref (r 3), .ref (r 4), .ref (r 5), .ref (r 6), .ref (r 7), .ref (r 8), .ref (r 9), .ref (r 10), .ref (r 11), .ref (r 12), .ref (r 13), .ref (r 14), .ref (r 15), .ref (r 16), .ref (r 17), .ref (r 18), .ref (r 19), .ref (r 20), .ref (r 21), .ref (r 22), .int 0, .int 1, .int 0, .ref (r 23), .ref (r 24), .ref (r 25), .ref (r 26), .int 0, .int 0, .ref (r 27), .ref (r 28), .ref (r 29), .ref (r 30), .ref (r 31), .ref (r 32), .ref (r 33), .int 0, .ref (r 34), .ref (r 35), .ref (r 36), .ref (r 37), .ref (r 38), .ref (r 39), .int 0, .int 0, .long 1, .int 0, .ref (r 40), .ref (r 41), .ref (r 42), .int 0, .ref (r 43), .ref (r 44), .ref (r 45), .int 0, .ref (r 46), .ref (r 47), .int 0, .int 0, .ref (r 48), .int 0, .ref (r 49), .int 0, .ref (r 50), .ref (r 51), .int 0, .ref (r 52), .ref (r 53), .ref (r 54), .ref (r 55), .ref (r 56), .int 0, .int 0, .int 0, .int 0, .ref (r 57), .int 0, .ref (r 58), .ref (r 59), .ref (r 60), .ref (r 61), .ref (r 62)])), ((r 27), .inl (cI, 6, .inl (fun _ => 0)))]) [7, 6] rfl
  have hDc := hD.sub (ws' := [(h0, .inr (12, [.ref (r 0), .int 0, .int 0, .int 0, .int 0, .int 0, .int 0, .long 0, .int 1, .int 0, .int 1, .int 0, .int (-1), .int 0, .ref (r 1), .ref (r 2), .ref (r 3), .ref (r 4), .ref (r 5), .ref (r 6), .ref (r 7), .ref (r 8), .ref (r 9), .ref (r 10), .ref (r 11), .ref (r 12), .ref (r 13), .ref (r 14), .ref (r 15), .ref (r 16), .ref (r 17), .ref (r 18), .ref (r 19), .ref (r 20), .ref (r 21), .ref (r 22), .int 0, .int 1, .int 0, .ref (r 23), .ref (r 24), .ref (r 25), .ref (r 26), .int 0, .int 0, .ref (r 27), .ref (r 28), .ref (r 29), .ref (r 30), .ref (r 31), .ref (r 32), .ref (r 33), .int 0, .ref (r 34), .ref (r 35), .ref (r 36), .ref (r 37), .ref (r 38), .ref (r 39), .int 0, .int 0, .long 1, .int 0, .ref (r 40), .ref (r 41), .ref (r 42), .int 0, .ref (r 43), .ref (r 44), .ref (r 45), .int 0, .ref (r 46), .ref (r 47), .int 0, .int 0, .ref (r 48), .int 0, .ref (r 49), .int 0, .ref (r 50), .ref (r 51), .int 0, .ref (r 52), .ref (r 53), .ref (r 54), .ref (r 55), .ref (r 56), .int 0, .int 0, .int 0, .int 0, .ref (r 57), .int 0, .ref (r 58), .ref (r 59), .ref (r 60), .ref (r 61), .ref (r 62)])), ((r 27), .inl (cI, 6, .inl (fun _ => 0)))]) [7, 6] (by decide) rfl
  have hFc := va_free (wc := [(h0, .inr (12, [.ref (r 0), .int 0, .int 0, .int 0, .int 0, .int 0, .int 0, .long 0, .int 1, .int 0, .int 1, .int 0, .int (-1), .int 0, .ref (r 1), .ref (r 2), .ref (r 3), .ref (r 4), .ref (r 5), .ref (r 6), .ref (r 7), .ref (r 8), .ref (r 9), .ref (r 10), .ref (r 11), .ref (r 12), .ref (r 13), .ref (r 14), .ref (r 15), .ref (r 16), .ref (r 17), .ref (r 18), .ref (r 19), .ref (r 20), .ref (r 21), .ref (r 22), .int 0, .int 1, .int 0, .ref (r 23), .ref (r 24), .ref (r 25), .ref (r 26), .int 0, .int 0, .ref (r 27), .ref (r 28), .ref (r 29), .ref (r 30), .ref (r 31), .ref (r 32), .ref (r 33), .int 0, .ref (r 34), .ref (r 35), .ref (r 36), .ref (r 37), .ref (r 38), .ref (r 39), .int 0, .int 0, .long 1, .int 0, .ref (r 40), .ref (r 41), .ref (r 42), .int 0, .ref (r 43), .ref (r 44), .ref (r 45), .int 0, .ref (r 46), .ref (r 47), .int 0, .int 0, .ref (r 48), .int 0, .ref (r 49), .int 0, .ref (r 50), .ref (r 51), .int 0, .ref (r 52), .ref (r 53), .ref (r 54), .ref (r 55), .ref (r 56), .int 0, .int 0, .int 0, .int 0, .ref (r 57), .int 0, .ref (r 58), .ref (r 59), .ref (r 60), .ref (r 61), .ref (r 62)])), ((r 27), .inl (cI, 6, .inl (fun _ => 0)))]) hD hS hA [7, 6] rfl
  refine va_calli (va_runV (As := [.int 1]) (rest := []) ⟨hx, hb, hml, hown, hts⟩ (c_X12_refuses_s1_1 l dC dI cI cJ h0 r H.size) (cwV 1 hts gX12_match_X12_refuses rfl rfl rfl (by decide +kernel) ⟨Nat.le_of_ble_eq_true rfl, Nat.le_of_ble_eq_true rfl⟩) ⟨mBlind, va_recv hK hPc (ci := 12) (q0 := 0) rfl rfl, mGo hPc hK hDc hN⟩ rfl rfl hl.1 rfl (lv_room (Nat.le_of_ble_eq_true rfl)) dX12_match_193 ⟨Nat.le_of_ble_eq_true rfl, Nat.le_of_ble_eq_true rfl⟩) hS (fun q _ h => hFc q h) hFc (fun r_9 u t H1 locs ht hvm hw hB hz1 hk1 hS => ?_)
  obtain ⟨g_10, hP1, hD1⟩ := hB
  obtain rfl : r_9 = (-1) := hw
  rw [ht] at hP1
  obtain ⟨hP, hD⟩ := va_join (wr := [((r 1), .inl (cI, 2, .inl (fun _ => 0))), ((r 4), .inl (cI, 2, .inl (fun _ => 0))), ((r 10), .inl (cI, 2, .inl (fun _ => 0))), ((r 12), .inl (cI, 2, .inl (fun _ => 0))), ((r 14), .inl (cI, 2, .inl (fun _ => 0))), ((r 15), .inl (cI, 2, .inl g_6))]) (w1 := [(h0, .inr (12, [.ref (r 0), .int 0, .int 0, .int 0, .int 0, .int 0, .int 0, .long 0, .int 1, .int 0, .int 1, .int 0, .int (-1), .int 0, .ref (r 1), .ref (r 2), .ref (r 3), .ref (r 4), .ref (r 5), .ref (r 6), .ref (r 7), .ref (r 8), .ref (r 9), .ref (r 10), .ref (r 11), .ref (r 12), .ref (r 13), .ref (r 14), .ref (r 15), .ref (r 16), .ref (r 17), .ref (r 18), .ref (r 19), .ref (r 20), .ref (r 21), .ref (r 22), .int 0, .int 1, .int 0, .ref (r 23), .ref (r 24), .ref (r 25), .ref (r 26), .int 0, .int 0, .ref (r 27), .ref (r 28), .ref (r 29), .ref (r 30), .ref (r 31), .ref (r 32), .ref (r 33), .int 0, .ref (r 34), .ref (r 35), .ref (r 36), .ref (r 37), .ref (r 38), .ref (r 39), .int 0, .int 0, .long 1, .int 0, .ref (r 40), .ref (r 41), .ref (r 42), .int 0, .ref (r 43), .ref (r 44), .ref (r 45), .int 0, .ref (r 46), .ref (r 47), .int 0, .int 0, .ref (r 48), .int 0, .ref (r 49), .int 0, .ref (r 50), .ref (r 51), .int 0, .ref (r 52), .ref (r 53), .ref (r 54), .ref (r 55), .ref (r 56), .int 0, .int 0, .int 0, .int 0, .ref (r 57), .int 0, .ref (r 58), .ref (r 59), .ref (r 60), .ref (r 61), .ref (r 62)])), ((r 27), .inl (cI, 6, .inl g_10))]) hP hD [7, 6] [0, 1, 2, 3, 4, 5] rfl rfl (by decide) (by decide) hk1 hFc hP1 hD1
  generalize H1 = H at hP hS ⊢
  have hP : va_P (dC, dI) vwCl [((r 1), .inl (cI, 2, .inl (fun _ => 0))), ((r 4), .inl (cI, 2, .inl (fun _ => 0))), ((r 10), .inl (cI, 2, .inl (fun _ => 0))), ((r 12), .inl (cI, 2, .inl (fun _ => 0))), ((r 14), .inl (cI, 2, .inl (fun _ => 0))), ((r 15), .inl (cI, 2, .inl g_6)), (h0, .inr (12, [.ref (r 0), .int 0, .int 0, .int 0, .int 0, .int 0, .int 0, .long 0, .int 1, .int 0, .int 1, .int 0, .int (-1), .int 0, .ref (r 1), .ref (r 2), .ref (r 3), .ref (r 4), .ref (r 5), .ref (r 6), .ref (r 7), .ref (r 8), .ref (r 9), .ref (r 10), .ref (r 11), .ref (r 12), .ref (r 13), .ref (r 14), .ref (r 15), .ref (r 16), .ref (r 17), .ref (r 18), .ref (r 19), .ref (r 20), .ref (r 21), .ref (r 22), .int 0, .int 1, .int 0, .ref (r 23), .ref (r 24), .ref (r 25), .ref (r 26), .int 0, .int 0, .ref (r 27), .ref (r 28), .ref (r 29), .ref (r 30), .ref (r 31), .ref (r 32), .ref (r 33), .int 0, .ref (r 34), .ref (r 35), .ref (r 36), .ref (r 37), .ref (r 38), .ref (r 39), .int 0, .int 0, .long 1, .int 0, .ref (r 40), .ref (r 41), .ref (r 42), .int 0, .ref (r 43), .ref (r 44), .ref (r 45), .int 0, .ref (r 46), .ref (r 47), .int 0, .int 0, .ref (r 48), .int 0, .ref (r 49), .int 0, .ref (r 50), .ref (r 51), .int 0, .ref (r 52), .ref (r 53), .ref (r 54), .ref (r 55), .ref (r 56), .int 0, .int 0, .int 0, .int 0, .ref (r 57), .int 0, .ref (r 58), .ref (r 59), .ref (r 60), .ref (r 61), .ref (r 62)])), ((r 27), .inl (cI, 6, .inl g_10))] H := hP
  have hD : va_D A [((r 1), .inl (cI, 2, .inl (fun _ => 0))), ((r 4), .inl (cI, 2, .inl (fun _ => 0))), ((r 10), .inl (cI, 2, .inl (fun _ => 0))), ((r 12), .inl (cI, 2, .inl (fun _ => 0))), ((r 14), .inl (cI, 2, .inl (fun _ => 0))), ((r 15), .inl (cI, 2, .inl g_6)), (h0, .inr (12, [.ref (r 0), .int 0, .int 0, .int 0, .int 0, .int 0, .int 0, .long 0, .int 1, .int 0, .int 1, .int 0, .int (-1), .int 0, .ref (r 1), .ref (r 2), .ref (r 3), .ref (r 4), .ref (r 5), .ref (r 6), .ref (r 7), .ref (r 8), .ref (r 9), .ref (r 10), .ref (r 11), .ref (r 12), .ref (r 13), .ref (r 14), .ref (r 15), .ref (r 16), .ref (r 17), .ref (r 18), .ref (r 19), .ref (r 20), .ref (r 21), .ref (r 22), .int 0, .int 1, .int 0, .ref (r 23), .ref (r 24), .ref (r 25), .ref (r 26), .int 0, .int 0, .ref (r 27), .ref (r 28), .ref (r 29), .ref (r 30), .ref (r 31), .ref (r 32), .ref (r 33), .int 0, .ref (r 34), .ref (r 35), .ref (r 36), .ref (r 37), .ref (r 38), .ref (r 39), .int 0, .int 0, .long 1, .int 0, .ref (r 40), .ref (r 41), .ref (r 42), .int 0, .ref (r 43), .ref (r 44), .ref (r 45), .int 0, .ref (r 46), .ref (r 47), .int 0, .int 0, .ref (r 48), .int 0, .ref (r 49), .int 0, .ref (r 50), .ref (r 51), .int 0, .ref (r 52), .ref (r 53), .ref (r 54), .ref (r 55), .ref (r 56), .int 0, .int 0, .int 0, .int 0, .ref (r 57), .int 0, .ref (r 58), .ref (r 59), .ref (r 60), .ref (r 61), .ref (r 62)])), ((r 27), .inl (cI, 6, .inl g_10))] := hD
  exact W.iret (v := (-1)) hx hb hr (fun t ht hW => ⟨⟨(-1), (), rfl, rfl, trivial⟩, hS.F ht⟩) hS.2.2 dX12_match_196
abbrev w0_c_X12_columns_s2 (cI : ClassId) (h0 : Nat) (r : Nat → Nat) : va_W := [(h0, .inr (12, [.ref (r 0), .int 0, .int 0, .int 0, .int 0, .int 0, .int 0, .long 0, .int 1, .int 0, .int 0, .int (-1), .int (-1), .int 0, .ref (r 1), .ref (r 2), .ref (r 3), .ref (r 4), .ref (r 5), .ref (r 6), .ref (r 7), .ref (r 8), .ref (r 9), .ref (r 10), .ref (r 11), .ref (r 12), .ref (r 13), .ref (r 14), .ref (r 15), .ref (r 16), .ref (r 17), .ref (r 18), .ref (r 19), .ref (r 20), .ref (r 21), .ref (r 22), .int 0, .int 1, .int 0, .ref (r 23), .ref (r 24), .ref (r 25), .ref (r 26), .int 0, .int 0, .ref (r 27), .ref (r 28), .ref (r 29), .ref (r 30), .ref (r 31), .ref (r 32), .ref (r 33), .int 0, .ref (r 34), .ref (r 35), .ref (r 36), .ref (r 37), .ref (r 38), .ref (r 39), .int 0, .int 0, .long 1, .int 0, .ref (r 40), .ref (r 41), .ref (r 42), .int 0, .ref (r 43), .ref (r 44), .ref (r 45), .int 0, .ref (r 46), .ref (r 47), .int 0, .int 0, .ref (r 48), .int 0, .ref (r 49), .int 0, .ref (r 50), .ref (r 51), .int 0, .ref (r 52), .ref (r 53), .ref (r 54), .ref (r 55), .ref (r 56), .int 0, .int 0, .int 0, .int 0, .ref (r 57), .int 0, .ref (r 58), .ref (r 59), .ref (r 60), .ref (r 61), .ref (r 62)])), ((r 10), .inl (cI, 2, .inl (fun _ => 0)))]
set_option maxHeartbeats 4000000 in
set_option maxRecDepth 100000 in
theorem c_X12_columns_s2 (l : Launch) (dC : Nat → ClassId) (dI : Nat → Nat → Nat) (cI cJ : ClassId) (h0 : Nat) (r : Nat → Nat) (sz : Nat) : Met l yX12_columns wsX12_columns ({ frames := 1, cells := 0, slots := 0, locals := 60 }) (va_Pc [.ref h0] (mPre dC dI cI cJ sz (w0_c_X12_columns_s2 cI h0 r))) (va_Qi (fun (r : Int32) (u : Unit) => r = 0) (fun (u : Unit) (t : State) => va_P (dC, dI) vwCl [(h0, .inr (12, [.ref (r 0), .int 0, .int 0, .int 0, .int 0, .int 0, .int 0, .long 0, .int 1, .int 0, .int 0, .int (-1), .int (-1), .int 0, .ref (r 1), .ref (r 2), .ref (r 3), .ref (r 4), .ref (r 5), .ref (r 6), .ref (r 7), .ref (r 8), .ref (r 9), .ref (r 10), .ref (r 11), .ref (r 12), .ref (r 13), .ref (r 14), .ref (r 15), .ref (r 16), .ref (r 17), .ref (r 18), .ref (r 19), .ref (r 20), .ref (r 21), .ref (r 22), .int 0, .int 1, .int 0, .ref (r 23), .ref (r 24), .ref (r 25), .ref (r 26), .int 0, .int 0, .ref (r 27), .ref (r 28), .ref (r 29), .ref (r 30), .ref (r 31), .ref (r 32), .ref (r 33), .int 0, .ref (r 34), .ref (r 35), .ref (r 36), .ref (r 37), .ref (r 38), .ref (r 39), .int 0, .int 0, .long 1, .int 0, .ref (r 40), .ref (r 41), .ref (r 42), .int 0, .ref (r 43), .ref (r 44), .ref (r 45), .int 0, .ref (r 46), .ref (r 47), .int 0, .int 0, .ref (r 48), .int 0, .ref (r 49), .int 0, .ref (r 50), .ref (r 51), .int 0, .ref (r 52), .ref (r 53), .ref (r 54), .ref (r 55), .ref (r 56), .int 0, .int 0, .int 0, .int 0, .ref (r 57), .int 0, .ref (r 58), .ref (r 59), .ref (r 60), .ref (r 61), .ref (r 62)])), ((r 10), .inl (cI, 2, .inl (fun _ => 0)))] t.heap ∧ va_D (va_A (w0_c_X12_columns_s2 cI h0 r) sz) [(h0, .inr (12, [.ref (r 0), .int 0, .int 0, .int 0, .int 0, .int 0, .int 0, .long 0, .int 1, .int 0, .int 0, .int (-1), .int (-1), .int 0, .ref (r 1), .ref (r 2), .ref (r 3), .ref (r 4), .ref (r 5), .ref (r 6), .ref (r 7), .ref (r 8), .ref (r 9), .ref (r 10), .ref (r 11), .ref (r 12), .ref (r 13), .ref (r 14), .ref (r 15), .ref (r 16), .ref (r 17), .ref (r 18), .ref (r 19), .ref (r 20), .ref (r 21), .ref (r 22), .int 0, .int 1, .int 0, .ref (r 23), .ref (r 24), .ref (r 25), .ref (r 26), .int 0, .int 0, .ref (r 27), .ref (r 28), .ref (r 29), .ref (r 30), .ref (r 31), .ref (r 32), .ref (r 33), .int 0, .ref (r 34), .ref (r 35), .ref (r 36), .ref (r 37), .ref (r 38), .ref (r 39), .int 0, .int 0, .long 1, .int 0, .ref (r 40), .ref (r 41), .ref (r 42), .int 0, .ref (r 43), .ref (r 44), .ref (r 45), .int 0, .ref (r 46), .ref (r 47), .int 0, .int 0, .ref (r 48), .int 0, .ref (r 49), .int 0, .ref (r 50), .ref (r 51), .int 0, .ref (r 52), .ref (r 53), .ref (r 54), .ref (r 55), .ref (r 56), .int 0, .int 0, .int 0, .int 0, .ref (r 57), .int 0, .ref (r 58), .ref (r 59), .ref (r 60), .ref (r 61), .ref (r 62)])), ((r 10), .inl (cI, 2, .inl (fun _ => 0)))]) (va_A (w0_c_X12_columns_s2 cI h0 r) sz)) 0 0 (va_A (w0_c_X12_columns_s2 cI h0 r) sz) := by
  refine Met.ofW (cc := cX12_columns) (maxL := 1) (ret := (some .int)) (by decide) rfl ?_
  intro p e s m args below meth c s₁ B hml hv
  obtain ⟨rfl, hsz, hP, hK, hD0, hN⟩ := hv
  have hx := B.exec
  have hb := B.bytes
  have hr := B.returns
  have hts := atoms_spec (ws := wsX12_columns) B.pre
  have hown : s.vm.findClass RX12 = some m.cls := findClass_of_methodNamed B.named
  have hlocks := B.notSynchronized
  have h_in_X12 : ∀ w ∈ wsX120, w ∈ wsX12_columns := fun w h => List.mem_cons_of_mem _ (List.mem_append_right _ h)
  subst hsz
  have hD := hD0.self (sz := s.heap.size)
  generalize hAe : va_A (w0_c_X12_columns_s2 cI h0 r) s.heap.size = A at hD ⊢
  have hA : ∀ q : Nat, s.heap.size ≤ q → A q := fun q h => by rw [← hAe]; exact Or.inr h
  have hS : va_S A s.heap s.heap [] := va_S.rf
  have hP : va_P (dC, dI) vwCl [(h0, .inr (12, [.ref (r 0), .int 0, .int 0, .int 0, .int 0, .int 0, .int 0, .long 0, .int 1, .int 0, .int 0, .int (-1), .int (-1), .int 0, .ref (r 1), .ref (r 2), .ref (r 3), .ref (r 4), .ref (r 5), .ref (r 6), .ref (r 7), .ref (r 8), .ref (r 9), .ref (r 10), .ref (r 11), .ref (r 12), .ref (r 13), .ref (r 14), .ref (r 15), .ref (r 16), .ref (r 17), .ref (r 18), .ref (r 19), .ref (r 20), .ref (r 21), .ref (r 22), .int 0, .int 1, .int 0, .ref (r 23), .ref (r 24), .ref (r 25), .ref (r 26), .int 0, .int 0, .ref (r 27), .ref (r 28), .ref (r 29), .ref (r 30), .ref (r 31), .ref (r 32), .ref (r 33), .int 0, .ref (r 34), .ref (r 35), .ref (r 36), .ref (r 37), .ref (r 38), .ref (r 39), .int 0, .int 0, .long 1, .int 0, .ref (r 40), .ref (r 41), .ref (r 42), .int 0, .ref (r 43), .ref (r 44), .ref (r 45), .int 0, .ref (r 46), .ref (r 47), .int 0, .int 0, .ref (r 48), .int 0, .ref (r 49), .int 0, .ref (r 50), .ref (r 51), .int 0, .ref (r 52), .ref (r 53), .ref (r 54), .ref (r 55), .ref (r 56), .int 0, .int 0, .int 0, .int 0, .ref (r 57), .int 0, .ref (r 58), .ref (r 59), .ref (r 60), .ref (r 61), .ref (r 62)])), ((r 10), .inl (cI, 2, .inl (fun _ => 0)))] s.heap := hP
  have hD : va_D A [(h0, .inr (12, [.ref (r 0), .int 0, .int 0, .int 0, .int 0, .int 0, .int 0, .long 0, .int 1, .int 0, .int 0, .int (-1), .int (-1), .int 0, .ref (r 1), .ref (r 2), .ref (r 3), .ref (r 4), .ref (r 5), .ref (r 6), .ref (r 7), .ref (r 8), .ref (r 9), .ref (r 10), .ref (r 11), .ref (r 12), .ref (r 13), .ref (r 14), .ref (r 15), .ref (r 16), .ref (r 17), .ref (r 18), .ref (r 19), .ref (r 20), .ref (r 21), .ref (r 22), .int 0, .int 1, .int 0, .ref (r 23), .ref (r 24), .ref (r 25), .ref (r 26), .int 0, .int 0, .ref (r 27), .ref (r 28), .ref (r 29), .ref (r 30), .ref (r 31), .ref (r 32), .ref (r 33), .int 0, .ref (r 34), .ref (r 35), .ref (r 36), .ref (r 37), .ref (r 38), .ref (r 39), .int 0, .int 0, .long 1, .int 0, .ref (r 40), .ref (r 41), .ref (r 42), .int 0, .ref (r 43), .ref (r 44), .ref (r 45), .int 0, .ref (r 46), .ref (r 47), .int 0, .int 0, .ref (r 48), .int 0, .ref (r 49), .int 0, .ref (r 50), .ref (r 51), .int 0, .ref (r 52), .ref (r 53), .ref (r 54), .ref (r 55), .ref (r 56), .int 0, .int 0, .int 0, .int 0, .ref (r 57), .int 0, .ref (r 58), .ref (r 59), .ref (r 60), .ref (r 61), .ref (r 62)])), ((r 10), .inl (cI, 2, .inl (fun _ => 0)))] := hD
  have hl := lv_entry ([.ref h0]) (n := 1) (Nat.le_of_ble_eq_true rfl)
  rw [lg_entry_eq]
  generalize (lg_sl ([.ref h0]) ++ List.replicate (1 - (lg_sl ([.ref h0])).length) Slot.unset).toArray = ls at hl ⊢
  have hl : lv_has ls 1 [(0, .ref h0)] := hl
  refine lv_aload_n hx hb dX12_columns_0 rfl (lv_at hl 0 rfl) ?_
  refine va_get (D := (dC, dI)) (ci := 12) (v := .ref (r 10)) (C := RX12) (T := TX12) (N := 98) hx hb hts h_in_X12 hown hK hP 0 rfl rfl 23 (by decide) (hts (.fieldLink RX12 81 "MatchTreesModel" "columnMany" "[I") (by decide +kernel)) (fun _ h9 => h9) rfl dX12_columns_1 ?_
  refine lv_aload_n hx hb dX12_columns_4 rfl (lv_at hl 0 rfl) ?_
  refine va_get (D := (dC, dI)) (ci := 12) (v := .int 0) (C := RX12) (T := TX12) (N := 98) hx hb hts h_in_X12 hown hK hP 0 rfl rfl 13 (by decide) (hts (.fieldLink RX12 51 "MatchTreesModel" "bank" "I") (by decide +kernel)) (fun _ h9 => h9) rfl dX12_columns_5 ?_
  refine va_iald hx hb hK hP 1 0 rfl rfl (vpd (by decide)) dX12_columns_8 ?_
  refine lv_topi (fun t9 e9 => ?_)
  obtain rfl : t9 = 0 := e9
  have hP9 := hP.sub (ws' := [(h0, .inr (12, [.ref (r 0), .int 0, .int 0, .int 0, .int 0, .int 0, .int 0, .long 0, .int 1, .int 0, .int 0, .int (-1), .int (-1), .int 0, .ref (r 1), .ref (r 2), .ref (r 3), .ref (r 4), .ref (r 5), .ref (r 6), .ref (r 7), .ref (r 8), .ref (r 9), .ref (r 10), .ref (r 11), .ref (r 12), .ref (r 13), .ref (r 14), .ref (r 15), .ref (r 16), .ref (r 17), .ref (r 18), .ref (r 19), .ref (r 20), .ref (r 21), .ref (r 22), .int 0, .int 1, .int 0, .ref (r 23), .ref (r 24), .ref (r 25), .ref (r 26), .int 0, .int 0, .ref (r 27), .ref (r 28), .ref (r 29), .ref (r 30), .ref (r 31), .ref (r 32), .ref (r 33), .int 0, .ref (r 34), .ref (r 35), .ref (r 36), .ref (r 37), .ref (r 38), .ref (r 39), .int 0, .int 0, .long 1, .int 0, .ref (r 40), .ref (r 41), .ref (r 42), .int 0, .ref (r 43), .ref (r 44), .ref (r 45), .int 0, .ref (r 46), .ref (r 47), .int 0, .int 0, .ref (r 48), .int 0, .ref (r 49), .int 0, .ref (r 50), .ref (r 51), .int 0, .ref (r 52), .ref (r 53), .ref (r 54), .ref (r 55), .ref (r 56), .int 0, .int 0, .int 0, .int 0, .ref (r 57), .int 0, .ref (r 58), .ref (r 59), .ref (r 60), .ref (r 61), .ref (r 62)])), ((r 10), .inl (cI, 2, .inl (fun _ => 0)))]) [0, 1] rfl
  have hD9 := hD.sub (ws' := [(h0, .inr (12, [.ref (r 0), .int 0, .int 0, .int 0, .int 0, .int 0, .int 0, .long 0, .int 1, .int 0, .int 0, .int (-1), .int (-1), .int 0, .ref (r 1), .ref (r 2), .ref (r 3), .ref (r 4), .ref (r 5), .ref (r 6), .ref (r 7), .ref (r 8), .ref (r 9), .ref (r 10), .ref (r 11), .ref (r 12), .ref (r 13), .ref (r 14), .ref (r 15), .ref (r 16), .ref (r 17), .ref (r 18), .ref (r 19), .ref (r 20), .ref (r 21), .ref (r 22), .int 0, .int 1, .int 0, .ref (r 23), .ref (r 24), .ref (r 25), .ref (r 26), .int 0, .int 0, .ref (r 27), .ref (r 28), .ref (r 29), .ref (r 30), .ref (r 31), .ref (r 32), .ref (r 33), .int 0, .ref (r 34), .ref (r 35), .ref (r 36), .ref (r 37), .ref (r 38), .ref (r 39), .int 0, .int 0, .long 1, .int 0, .ref (r 40), .ref (r 41), .ref (r 42), .int 0, .ref (r 43), .ref (r 44), .ref (r 45), .int 0, .ref (r 46), .ref (r 47), .int 0, .int 0, .ref (r 48), .int 0, .ref (r 49), .int 0, .ref (r 50), .ref (r 51), .int 0, .ref (r 52), .ref (r 53), .ref (r 54), .ref (r 55), .ref (r 56), .int 0, .int 0, .int 0, .int 0, .ref (r 57), .int 0, .ref (r 58), .ref (r 59), .ref (r 60), .ref (r 61), .ref (r 62)])), ((r 10), .inl (cI, 2, .inl (fun _ => 0)))]) [0, 1] (by decide) rfl
  exact W.iret (v := 0) hx hb hr (fun t ht hW => ⟨⟨0, (), rfl, rfl, by rw [ht]; exact hP9, hD9⟩, hS.F ht⟩) hS.2.2 dX12_columns_9
abbrev w0_c_X12_row (cI : ClassId) (h0 : Nat) (r : Nat → Nat) : va_W := [(h0, .inr (12, (o12 r))), ((r 10), .inl (cI, 2, .inl (fun _ => 0))), ((r 27), .inl (cI, 6, .inl (fun _ => 0)))]
set_option maxHeartbeats 4000000 in
set_option maxRecDepth 100000 in
theorem c_X12_row (l : Launch) (dC : Nat → ClassId) (dI : Nat → Nat → Nat) (cI cJ : ClassId) (h0 : Nat) (r : Nat → Nat) (sz : Nat) : Met l yX12_row wsX12_row ({ frames := 2, cells := 0, slots := 0, locals := 82 }) (va_Pc [.ref h0] (mPre dC dI cI cJ sz (w0_c_X12_row cI h0 r))) (va_Qi (fun (r : Int32) (u : Unit) => r = -1) (fun _ _ => True) (va_A (w0_c_X12_row cI h0 r) sz)) 0 0 (va_A (w0_c_X12_row cI h0 r) sz) := by
  refine Met.ofW (cc := cX12_row) (maxL := 3) (ret := (some .int)) (by decide) rfl ?_
  intro p e s m args below meth c s₁ B hml hv
  obtain ⟨rfl, hsz, hP, hK, hD0, hN⟩ := hv
  have hx := B.exec
  have hb := B.bytes
  have hr := B.returns
  have hts := atoms_spec (ws := wsX12_row) B.pre
  have hown : s.vm.findClass RX12 = some m.cls := findClass_of_methodNamed B.named
  have hlocks := B.notSynchronized
  have h_in_X12 : ∀ w ∈ wsX120, w ∈ wsX12_row := fun w h => List.mem_cons_of_mem _ (List.mem_append_right _ h)
  subst hsz
  have hD := hD0.self (sz := s.heap.size)
  generalize hAe : va_A (w0_c_X12_row cI h0 r) s.heap.size = A at hD ⊢
  have hA : ∀ q : Nat, s.heap.size ≤ q → A q := fun q h => by rw [← hAe]; exact Or.inr h
  have hS : va_S A s.heap s.heap [] := va_S.rf
  have hP : va_P (dC, dI) vwCl [(h0, .inr (12, (o12 r))), ((r 10), .inl (cI, 2, .inl (fun _ => 0))), ((r 27), .inl (cI, 6, .inl (fun _ => 0)))] s.heap := hP
  have hD : va_D A [(h0, .inr (12, (o12 r))), ((r 10), .inl (cI, 2, .inl (fun _ => 0))), ((r 27), .inl (cI, 6, .inl (fun _ => 0)))] := hD
  have hl := lv_entry ([.ref h0]) (n := 3) (Nat.le_of_ble_eq_true rfl)
  rw [lg_entry_eq]
  generalize (lg_sl ([.ref h0]) ++ List.replicate (3 - (lg_sl ([.ref h0])).length) Slot.unset).toArray = ls at hl ⊢
  have hl : lv_has ls 3 [(0, .ref h0)] := hl
  refine lv_aload_n hx hb dX12_row_0 rfl (lv_at hl 0 rfl) ?_
  refine lv_aload_n hx hb dX12_row_1 rfl (lv_at hl 0 rfl) ?_
  refine va_get (D := (dC, dI)) (ci := 12) (v := .int 0) (C := RX12) (T := TX12) (N := 98) hx hb hts h_in_X12 hown hK hP 0 rfl rfl 1 (by decide) (hts (.fieldLink RX12 13 "MatchTreesModel" "taped" "I") (by decide +kernel)) (fun _ h9 => h9) rfl dX12_row_2 ?_
  refine va_put (D := (dC, dI)) (ci := 12) (v := .int 0) (ty := .int) (C := RX12) (T := TX12) (N := 98) hx hb hts h_in_X12 tyX12 tyX12_ok nmX12 hown hK hP hD hS 0 rfl rfl 2 (by decide) (hts (.fieldLink RX12 17 "MatchTreesModel" "size" "I") (by decide +kernel)) (fun _ h9 => h9) rfl (by decide +kernel) rfl rfl (Nat.le_of_ble_eq_true rfl) dX12_row_5 (fun H locs hP hD hS => ?_)
  have hP : va_P (dC, dI) vwCl [(h0, .inr (12, (o12 r))), ((r 10), .inl (cI, 2, .inl (fun _ => 0))), ((r 27), .inl (cI, 6, .inl (fun _ => 0)))] H := hP
  have hD : va_D A [(h0, .inr (12, (o12 r))), ((r 10), .inl (cI, 2, .inl (fun _ => 0))), ((r 27), .inl (cI, 6, .inl (fun _ => 0)))] := hD
  refine lv_aload_n hx hb dX12_row_8 rfl (lv_at hl 0 rfl) ?_
  refine lv_iconst (v := 0) hx hb dX12_row_9 (by decide) ?_
  refine va_put (D := (dC, dI)) (ci := 12) (v := .int 0) (ty := .int) (C := RX12) (T := TX12) (N := 98) hx hb hts h_in_X12 tyX12 tyX12_ok nmX12 hown hK hP hD hS 0 rfl rfl 1 (by decide) (hts (.fieldLink RX12 13 "MatchTreesModel" "taped" "I") (by decide +kernel)) (fun _ h9 => h9) rfl (by decide +kernel) rfl rfl (Nat.le_of_ble_eq_true rfl) dX12_row_10 (fun H locs hP hD hS => ?_)
  have hP : va_P (dC, dI) vwCl [(h0, .inr (12, (o12 r))), ((r 10), .inl (cI, 2, .inl (fun _ => 0))), ((r 27), .inl (cI, 6, .inl (fun _ => 0)))] H := hP
  have hD : va_D A [(h0, .inr (12, (o12 r))), ((r 10), .inl (cI, 2, .inl (fun _ => 0))), ((r 27), .inl (cI, 6, .inl (fun _ => 0)))] := hD
  refine lv_aload_n hx hb dX12_row_13 rfl (lv_at hl 0 rfl) ?_
  refine lv_iconst (v := 0) hx hb dX12_row_14 (by decide) ?_
  refine va_put (D := (dC, dI)) (ci := 12) (v := .int 0) (ty := .int) (C := RX12) (T := TX12) (N := 98) hx hb hts h_in_X12 tyX12 tyX12_ok nmX12 hown hK hP hD hS 0 rfl rfl 5 (by decide) (hts (.fieldLink RX12 26 "MatchTreesModel" "signEnd" "I") (by decide +kernel)) (fun _ h9 => h9) rfl (by decide +kernel) rfl rfl (Nat.le_of_ble_eq_true rfl) dX12_row_15 (fun H locs hP hD hS => ?_)
  have hP : va_P (dC, dI) vwCl [(h0, .inr (12, (o12 r))), ((r 10), .inl (cI, 2, .inl (fun _ => 0))), ((r 27), .inl (cI, 6, .inl (fun _ => 0)))] H := hP
  have hD : va_D A [(h0, .inr (12, (o12 r))), ((r 10), .inl (cI, 2, .inl (fun _ => 0))), ((r 27), .inl (cI, 6, .inl (fun _ => 0)))] := hD
  refine lv_aload_n hx hb dX12_row_18 rfl (lv_at hl 0 rfl) ?_
  refine lv_iconst (v := 0) hx hb dX12_row_19 (by decide) ?_
  refine va_put (D := (dC, dI)) (ci := 12) (v := .int 0) (ty := .int) (C := RX12) (T := TX12) (N := 98) hx hb hts h_in_X12 tyX12 tyX12_ok nmX12 hown hK hP hD hS 0 rfl rfl 8 (by decide) (hts (.fieldLink RX12 36 "MatchTreesModel" "faultKind" "I") (by decide +kernel)) (fun _ h9 => h9) rfl (by decide +kernel) rfl rfl (Nat.le_of_ble_eq_true rfl) dX12_row_20 (fun H locs hP hD hS => ?_)
  have hP : va_P (dC, dI) vwCl [(h0, .inr (12, (o12 r))), ((r 10), .inl (cI, 2, .inl (fun _ => 0))), ((r 27), .inl (cI, 6, .inl (fun _ => 0)))] H := hP
  have hD : va_D A [(h0, .inr (12, (o12 r))), ((r 10), .inl (cI, 2, .inl (fun _ => 0))), ((r 27), .inl (cI, 6, .inl (fun _ => 0)))] := hD
  refine lv_aload_n hx hb dX12_row_23 rfl (lv_at hl 0 rfl) ?_
  refine lv_iconst (v := (-1)) hx hb dX12_row_24 (by decide) ?_
  refine va_put (D := (dC, dI)) (ci := 12) (v := .int (-1)) (ty := .int) (C := RX12) (T := TX12) (N := 98) hx hb hts h_in_X12 tyX12 tyX12_ok nmX12 hown hK hP hD hS 0 rfl rfl 9 (by decide) (hts (.fieldLink RX12 39 "MatchTreesModel" "faultPlace" "I") (by decide +kernel)) (fun _ h9 => h9) rfl (by decide +kernel) rfl rfl (Nat.le_of_ble_eq_true rfl) dX12_row_25 (fun H locs hP hD hS => ?_)
  have hP : va_P (dC, dI) vwCl [(h0, .inr (12, (o12 r))), ((r 10), .inl (cI, 2, .inl (fun _ => 0))), ((r 27), .inl (cI, 6, .inl (fun _ => 0)))] H := hP
  have hD : va_D A [(h0, .inr (12, (o12 r))), ((r 10), .inl (cI, 2, .inl (fun _ => 0))), ((r 27), .inl (cI, 6, .inl (fun _ => 0)))] := hD
  refine lv_iconst (v := 0) hx hb dX12_row_28 (by decide) ?_
  refine lv_istore_n (lv' := [(1, .int 0), (0, .ref h0)]) hx hb dX12_row_29 rfl hl (by decide) rfl (fun ls hl => ?_)
  refine lv_aload_n hx hb dX12_row_30 rfl (lv_at hl 1 rfl) ?_
  refine va_get (D := (dC, dI)) (ci := 12) (v := .int 0) (C := RX12) (T := TX12) (N := 98) hx hb hts h_in_X12 hown hK hP 0 rfl rfl 44 (by decide) (hts (.fieldLink RX12 146 "MatchTreesModel" "isMatch" "Z") (by decide +kernel)) (fun _ h9 => h9) rfl dX12_row_31 ?_
  refine lv_if_ne (tgt := 43) hx hb dX12_row_34 (by decide) (fun c => absurd c (by decide)) (fun _ => ?_)
  refine lv_aload_n hx hb dX12_row_37 rfl (lv_at hl 1 rfl) ?_
  refine lv_iconst (v := 1) hx hb dX12_row_38 (by decide) ?_
  refine lv_iconst (v := 0) hx hb dX12_row_39 (by decide) ?_
  have hPc := hP.sub (ws' := [(h0, .inr (12, (o12 r)))]) [0] rfl
  have hDc := hD.sub (ws' := [(h0, .inr (12, (o12 r)))]) [0] (by decide) rfl
  have hFc := va_free (wc := [(h0, .inr (12, (o12 r)))]) hD hS hA [0] rfl
  refine va_callv (va_runV (As := [.int 1, .int 0]) (rest := []) ⟨hx, hb, hml, hown, hts⟩ (c_X12_blame_1_0 l dC dI cI cJ h0 r H.size) (cwV 2 hts gX12_row_X12_blame rfl rfl rfl (by decide +kernel) ⟨Nat.le_of_ble_eq_true rfl, Nat.le_of_ble_eq_true rfl⟩) ⟨mBlind, va_recv hK hPc (ci := 12) (q0 := 0) rfl rfl, mGo hPc hK hDc hN⟩ rfl rfl hl.1 rfl (lv_room (Nat.le_of_ble_eq_true rfl)) dX12_row_40 ⟨Nat.le_of_ble_eq_true rfl, Nat.le_of_ble_eq_true rfl⟩) hS (fun q _ h => hFc q h) hFc (fun u t H1 locs ht hvm hw hB hz1 hk1 hS => ?_)
  obtain ⟨hP1, hD1⟩ := hB
  rw [ht] at hP1
  obtain ⟨hP, hD⟩ := va_join (wr := [((r 10), .inl (cI, 2, .inl (fun _ => 0))), ((r 27), .inl (cI, 6, .inl (fun _ => 0)))]) (w1 := [(h0, .inr (12, [.ref (r 0), .int 0, .int 0, .int 0, .int 0, .int 0, .int 0, .long 0, .int 1, .int 0, .int 0, .int (-1), .int (-1), .int 0, .ref (r 1), .ref (r 2), .ref (r 3), .ref (r 4), .ref (r 5), .ref (r 6), .ref (r 7), .ref (r 8), .ref (r 9), .ref (r 10), .ref (r 11), .ref (r 12), .ref (r 13), .ref (r 14), .ref (r 15), .ref (r 16), .ref (r 17), .ref (r 18), .ref (r 19), .ref (r 20), .ref (r 21), .ref (r 22), .int 0, .int 1, .int 0, .ref (r 23), .ref (r 24), .ref (r 25), .ref (r 26), .int 0, .int 0, .ref (r 27), .ref (r 28), .ref (r 29), .ref (r 30), .ref (r 31), .ref (r 32), .ref (r 33), .int 0, .ref (r 34), .ref (r 35), .ref (r 36), .ref (r 37), .ref (r 38), .ref (r 39), .int 0, .int 0, .long 1, .int 0, .ref (r 40), .ref (r 41), .ref (r 42), .int 0, .ref (r 43), .ref (r 44), .ref (r 45), .int 0, .ref (r 46), .ref (r 47), .int 0, .int 0, .ref (r 48), .int 0, .ref (r 49), .int 0, .ref (r 50), .ref (r 51), .int 0, .ref (r 52), .ref (r 53), .ref (r 54), .ref (r 55), .ref (r 56), .int 0, .int 0, .int 0, .int 0, .ref (r 57), .int 0, .ref (r 58), .ref (r 59), .ref (r 60), .ref (r 61), .ref (r 62)]))]) hP hD [0] [1, 2] rfl rfl (by decide) (by decide) hk1 hFc hP1 hD1
  generalize H1 = H at hP hS ⊢
  have hP : va_P (dC, dI) vwCl [((r 10), .inl (cI, 2, .inl (fun _ => 0))), ((r 27), .inl (cI, 6, .inl (fun _ => 0))), (h0, .inr (12, [.ref (r 0), .int 0, .int 0, .int 0, .int 0, .int 0, .int 0, .long 0, .int 1, .int 0, .int 0, .int (-1), .int (-1), .int 0, .ref (r 1), .ref (r 2), .ref (r 3), .ref (r 4), .ref (r 5), .ref (r 6), .ref (r 7), .ref (r 8), .ref (r 9), .ref (r 10), .ref (r 11), .ref (r 12), .ref (r 13), .ref (r 14), .ref (r 15), .ref (r 16), .ref (r 17), .ref (r 18), .ref (r 19), .ref (r 20), .ref (r 21), .ref (r 22), .int 0, .int 1, .int 0, .ref (r 23), .ref (r 24), .ref (r 25), .ref (r 26), .int 0, .int 0, .ref (r 27), .ref (r 28), .ref (r 29), .ref (r 30), .ref (r 31), .ref (r 32), .ref (r 33), .int 0, .ref (r 34), .ref (r 35), .ref (r 36), .ref (r 37), .ref (r 38), .ref (r 39), .int 0, .int 0, .long 1, .int 0, .ref (r 40), .ref (r 41), .ref (r 42), .int 0, .ref (r 43), .ref (r 44), .ref (r 45), .int 0, .ref (r 46), .ref (r 47), .int 0, .int 0, .ref (r 48), .int 0, .ref (r 49), .int 0, .ref (r 50), .ref (r 51), .int 0, .ref (r 52), .ref (r 53), .ref (r 54), .ref (r 55), .ref (r 56), .int 0, .int 0, .int 0, .int 0, .ref (r 57), .int 0, .ref (r 58), .ref (r 59), .ref (r 60), .ref (r 61), .ref (r 62)]))] H := hP
  have hD : va_D A [((r 10), .inl (cI, 2, .inl (fun _ => 0))), ((r 27), .inl (cI, 6, .inl (fun _ => 0))), (h0, .inr (12, [.ref (r 0), .int 0, .int 0, .int 0, .int 0, .int 0, .int 0, .long 0, .int 1, .int 0, .int 0, .int (-1), .int (-1), .int 0, .ref (r 1), .ref (r 2), .ref (r 3), .ref (r 4), .ref (r 5), .ref (r 6), .ref (r 7), .ref (r 8), .ref (r 9), .ref (r 10), .ref (r 11), .ref (r 12), .ref (r 13), .ref (r 14), .ref (r 15), .ref (r 16), .ref (r 17), .ref (r 18), .ref (r 19), .ref (r 20), .ref (r 21), .ref (r 22), .int 0, .int 1, .int 0, .ref (r 23), .ref (r 24), .ref (r 25), .ref (r 26), .int 0, .int 0, .ref (r 27), .ref (r 28), .ref (r 29), .ref (r 30), .ref (r 31), .ref (r 32), .ref (r 33), .int 0, .ref (r 34), .ref (r 35), .ref (r 36), .ref (r 37), .ref (r 38), .ref (r 39), .int 0, .int 0, .long 1, .int 0, .ref (r 40), .ref (r 41), .ref (r 42), .int 0, .ref (r 43), .ref (r 44), .ref (r 45), .int 0, .ref (r 46), .ref (r 47), .int 0, .int 0, .ref (r 48), .int 0, .ref (r 49), .int 0, .ref (r 50), .ref (r 51), .int 0, .ref (r 52), .ref (r 53), .ref (r 54), .ref (r 55), .ref (r 56), .int 0, .int 0, .int 0, .int 0, .ref (r 57), .int 0, .ref (r 58), .ref (r 59), .ref (r 60), .ref (r 61), .ref (r 62)]))] := hD
  refine lv_aload_n hx hb dX12_row_43 rfl (lv_at hl 1 rfl) ?_
  refine va_get (D := (dC, dI)) (ci := 12) (v := .int 1) (C := RX12) (T := TX12) (N := 98) hx hb hts h_in_X12 hown hK hP 2 rfl rfl 8 (by decide) (hts (.fieldLink RX12 36 "MatchTreesModel" "faultKind" "I") (by decide +kernel)) (fun _ h9 => h9) rfl dX12_row_44 ?_
  refine lv_if_ne (tgt := 54) hx hb dX12_row_47 (by decide) (fun _ => ?_) (fun c => absurd c (by decide))
  refine lv_iconst (v := 0) hx hb dX12_row_54 (by decide) ?_
  refine lv_istore_n (lv' := [(2, .int 0), (1, .int 0), (0, .ref h0)]) hx hb dX12_row_55 rfl hl (by decide) rfl (fun ls hl => ?_)
  refine lv_iload_n hx hb dX12_row_56 rfl (lv_at hl 0 rfl) ?_
  refine lv_aload_n hx hb dX12_row_57 rfl (lv_at hl 2 rfl) ?_
  have hPc := hP.sub (ws' := [(h0, .inr (12, [.ref (r 0), .int 0, .int 0, .int 0, .int 0, .int 0, .int 0, .long 0, .int 1, .int 0, .int 0, .int (-1), .int (-1), .int 0, .ref (r 1), .ref (r 2), .ref (r 3), .ref (r 4), .ref (r 5), .ref (r 6), .ref (r 7), .ref (r 8), .ref (r 9), .ref (r 10), .ref (r 11), .ref (r 12), .ref (r 13), .ref (r 14), .ref (r 15), .ref (r 16), .ref (r 17), .ref (r 18), .ref (r 19), .ref (r 20), .ref (r 21), .ref (r 22), .int 0, .int 1, .int 0, .ref (r 23), .ref (r 24), .ref (r 25), .ref (r 26), .int 0, .int 0, .ref (r 27), .ref (r 28), .ref (r 29), .ref (r 30), .ref (r 31), .ref (r 32), .ref (r 33), .int 0, .ref (r 34), .ref (r 35), .ref (r 36), .ref (r 37), .ref (r 38), .ref (r 39), .int 0, .int 0, .long 1, .int 0, .ref (r 40), .ref (r 41), .ref (r 42), .int 0, .ref (r 43), .ref (r 44), .ref (r 45), .int 0, .ref (r 46), .ref (r 47), .int 0, .int 0, .ref (r 48), .int 0, .ref (r 49), .int 0, .ref (r 50), .ref (r 51), .int 0, .ref (r 52), .ref (r 53), .ref (r 54), .ref (r 55), .ref (r 56), .int 0, .int 0, .int 0, .int 0, .ref (r 57), .int 0, .ref (r 58), .ref (r 59), .ref (r 60), .ref (r 61), .ref (r 62)])), ((r 10), .inl (cI, 2, .inl (fun _ => 0)))]) [2, 0] rfl
  have hDc := hD.sub (ws' := [(h0, .inr (12, [.ref (r 0), .int 0, .int 0, .int 0, .int 0, .int 0, .int 0, .long 0, .int 1, .int 0, .int 0, .int (-1), .int (-1), .int 0, .ref (r 1), .ref (r 2), .ref (r 3), .ref (r 4), .ref (r 5), .ref (r 6), .ref (r 7), .ref (r 8), .ref (r 9), .ref (r 10), .ref (r 11), .ref (r 12), .ref (r 13), .ref (r 14), .ref (r 15), .ref (r 16), .ref (r 17), .ref (r 18), .ref (r 19), .ref (r 20), .ref (r 21), .ref (r 22), .int 0, .int 1, .int 0, .ref (r 23), .ref (r 24), .ref (r 25), .ref (r 26), .int 0, .int 0, .ref (r 27), .ref (r 28), .ref (r 29), .ref (r 30), .ref (r 31), .ref (r 32), .ref (r 33), .int 0, .ref (r 34), .ref (r 35), .ref (r 36), .ref (r 37), .ref (r 38), .ref (r 39), .int 0, .int 0, .long 1, .int 0, .ref (r 40), .ref (r 41), .ref (r 42), .int 0, .ref (r 43), .ref (r 44), .ref (r 45), .int 0, .ref (r 46), .ref (r 47), .int 0, .int 0, .ref (r 48), .int 0, .ref (r 49), .int 0, .ref (r 50), .ref (r 51), .int 0, .ref (r 52), .ref (r 53), .ref (r 54), .ref (r 55), .ref (r 56), .int 0, .int 0, .int 0, .int 0, .ref (r 57), .int 0, .ref (r 58), .ref (r 59), .ref (r 60), .ref (r 61), .ref (r 62)])), ((r 10), .inl (cI, 2, .inl (fun _ => 0)))]) [2, 0] (by decide) rfl
  have hFc := va_free (wc := [(h0, .inr (12, [.ref (r 0), .int 0, .int 0, .int 0, .int 0, .int 0, .int 0, .long 0, .int 1, .int 0, .int 0, .int (-1), .int (-1), .int 0, .ref (r 1), .ref (r 2), .ref (r 3), .ref (r 4), .ref (r 5), .ref (r 6), .ref (r 7), .ref (r 8), .ref (r 9), .ref (r 10), .ref (r 11), .ref (r 12), .ref (r 13), .ref (r 14), .ref (r 15), .ref (r 16), .ref (r 17), .ref (r 18), .ref (r 19), .ref (r 20), .ref (r 21), .ref (r 22), .int 0, .int 1, .int 0, .ref (r 23), .ref (r 24), .ref (r 25), .ref (r 26), .int 0, .int 0, .ref (r 27), .ref (r 28), .ref (r 29), .ref (r 30), .ref (r 31), .ref (r 32), .ref (r 33), .int 0, .ref (r 34), .ref (r 35), .ref (r 36), .ref (r 37), .ref (r 38), .ref (r 39), .int 0, .int 0, .long 1, .int 0, .ref (r 40), .ref (r 41), .ref (r 42), .int 0, .ref (r 43), .ref (r 44), .ref (r 45), .int 0, .ref (r 46), .ref (r 47), .int 0, .int 0, .ref (r 48), .int 0, .ref (r 49), .int 0, .ref (r 50), .ref (r 51), .int 0, .ref (r 52), .ref (r 53), .ref (r 54), .ref (r 55), .ref (r 56), .int 0, .int 0, .int 0, .int 0, .ref (r 57), .int 0, .ref (r 58), .ref (r 59), .ref (r 60), .ref (r 61), .ref (r 62)])), ((r 10), .inl (cI, 2, .inl (fun _ => 0)))]) hD hS hA [2, 0] rfl
  refine va_calli (va_runV (As := []) (rest := [.int 0]) ⟨hx, hb, hml, hown, hts⟩ (c_X12_columns_s2 l dC dI cI cJ h0 r H.size) (cwV 0 hts gX12_row_X12_columns rfl rfl rfl (by decide +kernel) ⟨Nat.le_of_ble_eq_true rfl, Nat.le_of_ble_eq_true rfl⟩) ⟨mBlind, va_recv hK hPc (ci := 12) (q0 := 0) rfl rfl, mGo hPc hK hDc hN⟩ rfl rfl hl.1 rfl (lv_room (Nat.le_of_ble_eq_true rfl)) dX12_row_58 ⟨Nat.le_of_ble_eq_true rfl, Nat.le_of_ble_eq_true rfl⟩) hS (fun q _ h => hFc q h) hFc (fun r_2 u t H1 locs ht hvm hw hB hz1 hk1 hS => ?_)
  obtain ⟨hP1, hD1⟩ := hB
  obtain rfl : r_2 = 0 := hw
  rw [ht] at hP1
  obtain ⟨hP, hD⟩ := va_join (wr := [((r 27), .inl (cI, 6, .inl (fun _ => 0)))]) (w1 := [(h0, .inr (12, [.ref (r 0), .int 0, .int 0, .int 0, .int 0, .int 0, .int 0, .long 0, .int 1, .int 0, .int 0, .int (-1), .int (-1), .int 0, .ref (r 1), .ref (r 2), .ref (r 3), .ref (r 4), .ref (r 5), .ref (r 6), .ref (r 7), .ref (r 8), .ref (r 9), .ref (r 10), .ref (r 11), .ref (r 12), .ref (r 13), .ref (r 14), .ref (r 15), .ref (r 16), .ref (r 17), .ref (r 18), .ref (r 19), .ref (r 20), .ref (r 21), .ref (r 22), .int 0, .int 1, .int 0, .ref (r 23), .ref (r 24), .ref (r 25), .ref (r 26), .int 0, .int 0, .ref (r 27), .ref (r 28), .ref (r 29), .ref (r 30), .ref (r 31), .ref (r 32), .ref (r 33), .int 0, .ref (r 34), .ref (r 35), .ref (r 36), .ref (r 37), .ref (r 38), .ref (r 39), .int 0, .int 0, .long 1, .int 0, .ref (r 40), .ref (r 41), .ref (r 42), .int 0, .ref (r 43), .ref (r 44), .ref (r 45), .int 0, .ref (r 46), .ref (r 47), .int 0, .int 0, .ref (r 48), .int 0, .ref (r 49), .int 0, .ref (r 50), .ref (r 51), .int 0, .ref (r 52), .ref (r 53), .ref (r 54), .ref (r 55), .ref (r 56), .int 0, .int 0, .int 0, .int 0, .ref (r 57), .int 0, .ref (r 58), .ref (r 59), .ref (r 60), .ref (r 61), .ref (r 62)])), ((r 10), .inl (cI, 2, .inl (fun _ => 0)))]) hP hD [2, 0] [1] rfl rfl (by decide) (by decide) hk1 hFc hP1 hD1
  generalize H1 = H at hP hS ⊢
  have hP : va_P (dC, dI) vwCl [((r 27), .inl (cI, 6, .inl (fun _ => 0))), (h0, .inr (12, [.ref (r 0), .int 0, .int 0, .int 0, .int 0, .int 0, .int 0, .long 0, .int 1, .int 0, .int 0, .int (-1), .int (-1), .int 0, .ref (r 1), .ref (r 2), .ref (r 3), .ref (r 4), .ref (r 5), .ref (r 6), .ref (r 7), .ref (r 8), .ref (r 9), .ref (r 10), .ref (r 11), .ref (r 12), .ref (r 13), .ref (r 14), .ref (r 15), .ref (r 16), .ref (r 17), .ref (r 18), .ref (r 19), .ref (r 20), .ref (r 21), .ref (r 22), .int 0, .int 1, .int 0, .ref (r 23), .ref (r 24), .ref (r 25), .ref (r 26), .int 0, .int 0, .ref (r 27), .ref (r 28), .ref (r 29), .ref (r 30), .ref (r 31), .ref (r 32), .ref (r 33), .int 0, .ref (r 34), .ref (r 35), .ref (r 36), .ref (r 37), .ref (r 38), .ref (r 39), .int 0, .int 0, .long 1, .int 0, .ref (r 40), .ref (r 41), .ref (r 42), .int 0, .ref (r 43), .ref (r 44), .ref (r 45), .int 0, .ref (r 46), .ref (r 47), .int 0, .int 0, .ref (r 48), .int 0, .ref (r 49), .int 0, .ref (r 50), .ref (r 51), .int 0, .ref (r 52), .ref (r 53), .ref (r 54), .ref (r 55), .ref (r 56), .int 0, .int 0, .int 0, .int 0, .ref (r 57), .int 0, .ref (r 58), .ref (r 59), .ref (r 60), .ref (r 61), .ref (r 62)])), ((r 10), .inl (cI, 2, .inl (fun _ => 0)))] H := hP
  have hD : va_D A [((r 27), .inl (cI, 6, .inl (fun _ => 0))), (h0, .inr (12, [.ref (r 0), .int 0, .int 0, .int 0, .int 0, .int 0, .int 0, .long 0, .int 1, .int 0, .int 0, .int (-1), .int (-1), .int 0, .ref (r 1), .ref (r 2), .ref (r 3), .ref (r 4), .ref (r 5), .ref (r 6), .ref (r 7), .ref (r 8), .ref (r 9), .ref (r 10), .ref (r 11), .ref (r 12), .ref (r 13), .ref (r 14), .ref (r 15), .ref (r 16), .ref (r 17), .ref (r 18), .ref (r 19), .ref (r 20), .ref (r 21), .ref (r 22), .int 0, .int 1, .int 0, .ref (r 23), .ref (r 24), .ref (r 25), .ref (r 26), .int 0, .int 0, .ref (r 27), .ref (r 28), .ref (r 29), .ref (r 30), .ref (r 31), .ref (r 32), .ref (r 33), .int 0, .ref (r 34), .ref (r 35), .ref (r 36), .ref (r 37), .ref (r 38), .ref (r 39), .int 0, .int 0, .long 1, .int 0, .ref (r 40), .ref (r 41), .ref (r 42), .int 0, .ref (r 43), .ref (r 44), .ref (r 45), .int 0, .ref (r 46), .ref (r 47), .int 0, .int 0, .ref (r 48), .int 0, .ref (r 49), .int 0, .ref (r 50), .ref (r 51), .int 0, .ref (r 52), .ref (r 53), .ref (r 54), .ref (r 55), .ref (r 56), .int 0, .int 0, .int 0, .int 0, .ref (r 57), .int 0, .ref (r 58), .ref (r 59), .ref (r 60), .ref (r 61), .ref (r 62)])), ((r 10), .inl (cI, 2, .inl (fun _ => 0)))] := hD
  refine lv_icmp_ge (tgt := 128) hx hb dX12_row_61 (by decide) (fun _ => ?_) (fun c => absurd (by decide) c)
  refine lv_aload_n hx hb dX12_row_128 rfl (lv_at hl 2 rfl) ?_
  refine va_get (D := (dC, dI)) (ci := 12) (v := .int 1) (C := RX12) (T := TX12) (N := 98) hx hb hts h_in_X12 hown hK hP 1 rfl rfl 8 (by decide) (hts (.fieldLink RX12 36 "MatchTreesModel" "faultKind" "I") (by decide +kernel)) (fun _ h9 => h9) rfl dX12_row_129 ?_
  refine lv_if_ne (tgt := 139) hx hb dX12_row_132 (by decide) (fun _ => ?_) (fun c => absurd c (by decide))
  refine lv_aload_n hx hb dX12_row_139 rfl (lv_at hl 2 rfl) ?_
  refine va_get (D := (dC, dI)) (ci := 12) (v := .int 1) (C := RX12) (T := TX12) (N := 98) hx hb hts h_in_X12 hown hK hP 1 rfl rfl 8 (by decide) (hts (.fieldLink RX12 36 "MatchTreesModel" "faultKind" "I") (by decide +kernel)) (fun _ h9 => h9) rfl dX12_row_140 ?_
  refine lv_if_ne (tgt := 162) hx hb dX12_row_143 (by decide) (fun _ => ?_) (fun c => absurd c (by decide))
  refine lv_aload_n hx hb dX12_row_162 rfl (lv_at hl 2 rfl) ?_
  refine lv_aload_n hx hb dX12_row_163 rfl (lv_at hl 2 rfl) ?_
  refine va_get (D := (dC, dI)) (ci := 12) (v := .int 1) (C := RX12) (T := TX12) (N := 98) hx hb hts h_in_X12 hown hK hP 1 rfl rfl 8 (by decide) (hts (.fieldLink RX12 36 "MatchTreesModel" "faultKind" "I") (by decide +kernel)) (fun _ h9 => h9) rfl dX12_row_164 ?_
  refine va_put (D := (dC, dI)) (ci := 12) (v := .int 1) (ty := .int) (C := RX12) (T := TX12) (N := 98) hx hb hts h_in_X12 tyX12 tyX12_ok nmX12 hown hK hP hD hS 1 rfl rfl 10 (by decide) (hts (.fieldLink RX12 42 "MatchTreesModel" "toldKind" "I") (by decide +kernel)) (fun _ h9 => h9) rfl (by decide +kernel) rfl rfl (Nat.le_of_ble_eq_true rfl) dX12_row_167 (fun H locs hP hD hS => ?_)
  have hP : va_P (dC, dI) vwCl [((r 27), .inl (cI, 6, .inl (fun _ => 0))), (h0, .inr (12, [.ref (r 0), .int 0, .int 0, .int 0, .int 0, .int 0, .int 0, .long 0, .int 1, .int 0, .int 1, .int (-1), .int (-1), .int 0, .ref (r 1), .ref (r 2), .ref (r 3), .ref (r 4), .ref (r 5), .ref (r 6), .ref (r 7), .ref (r 8), .ref (r 9), .ref (r 10), .ref (r 11), .ref (r 12), .ref (r 13), .ref (r 14), .ref (r 15), .ref (r 16), .ref (r 17), .ref (r 18), .ref (r 19), .ref (r 20), .ref (r 21), .ref (r 22), .int 0, .int 1, .int 0, .ref (r 23), .ref (r 24), .ref (r 25), .ref (r 26), .int 0, .int 0, .ref (r 27), .ref (r 28), .ref (r 29), .ref (r 30), .ref (r 31), .ref (r 32), .ref (r 33), .int 0, .ref (r 34), .ref (r 35), .ref (r 36), .ref (r 37), .ref (r 38), .ref (r 39), .int 0, .int 0, .long 1, .int 0, .ref (r 40), .ref (r 41), .ref (r 42), .int 0, .ref (r 43), .ref (r 44), .ref (r 45), .int 0, .ref (r 46), .ref (r 47), .int 0, .int 0, .ref (r 48), .int 0, .ref (r 49), .int 0, .ref (r 50), .ref (r 51), .int 0, .ref (r 52), .ref (r 53), .ref (r 54), .ref (r 55), .ref (r 56), .int 0, .int 0, .int 0, .int 0, .ref (r 57), .int 0, .ref (r 58), .ref (r 59), .ref (r 60), .ref (r 61), .ref (r 62)])), ((r 10), .inl (cI, 2, .inl (fun _ => 0)))] H := hP
  have hD : va_D A [((r 27), .inl (cI, 6, .inl (fun _ => 0))), (h0, .inr (12, [.ref (r 0), .int 0, .int 0, .int 0, .int 0, .int 0, .int 0, .long 0, .int 1, .int 0, .int 1, .int (-1), .int (-1), .int 0, .ref (r 1), .ref (r 2), .ref (r 3), .ref (r 4), .ref (r 5), .ref (r 6), .ref (r 7), .ref (r 8), .ref (r 9), .ref (r 10), .ref (r 11), .ref (r 12), .ref (r 13), .ref (r 14), .ref (r 15), .ref (r 16), .ref (r 17), .ref (r 18), .ref (r 19), .ref (r 20), .ref (r 21), .ref (r 22), .int 0, .int 1, .int 0, .ref (r 23), .ref (r 24), .ref (r 25), .ref (r 26), .int 0, .int 0, .ref (r 27), .ref (r 28), .ref (r 29), .ref (r 30), .ref (r 31), .ref (r 32), .ref (r 33), .int 0, .ref (r 34), .ref (r 35), .ref (r 36), .ref (r 37), .ref (r 38), .ref (r 39), .int 0, .int 0, .long 1, .int 0, .ref (r 40), .ref (r 41), .ref (r 42), .int 0, .ref (r 43), .ref (r 44), .ref (r 45), .int 0, .ref (r 46), .ref (r 47), .int 0, .int 0, .ref (r 48), .int 0, .ref (r 49), .int 0, .ref (r 50), .ref (r 51), .int 0, .ref (r 52), .ref (r 53), .ref (r 54), .ref (r 55), .ref (r 56), .int 0, .int 0, .int 0, .int 0, .ref (r 57), .int 0, .ref (r 58), .ref (r 59), .ref (r 60), .ref (r 61), .ref (r 62)])), ((r 10), .inl (cI, 2, .inl (fun _ => 0)))] := hD
  refine lv_aload_n hx hb dX12_row_170 rfl (lv_at hl 2 rfl) ?_
  refine lv_aload_n hx hb dX12_row_171 rfl (lv_at hl 2 rfl) ?_
  refine va_get (D := (dC, dI)) (ci := 12) (v := .int 0) (C := RX12) (T := TX12) (N := 98) hx hb hts h_in_X12 hown hK hP 1 rfl rfl 9 (by decide) (hts (.fieldLink RX12 39 "MatchTreesModel" "faultPlace" "I") (by decide +kernel)) (fun _ h9 => h9) rfl dX12_row_172 ?_
  refine va_put (D := (dC, dI)) (ci := 12) (v := .int 0) (ty := .int) (C := RX12) (T := TX12) (N := 98) hx hb hts h_in_X12 tyX12 tyX12_ok nmX12 hown hK hP hD hS 1 rfl rfl 11 (by decide) (hts (.fieldLink RX12 45 "MatchTreesModel" "toldPlace" "I") (by decide +kernel)) (fun _ h9 => h9) rfl (by decide +kernel) rfl rfl (Nat.le_of_ble_eq_true rfl) dX12_row_175 (fun H locs hP hD hS => ?_)
  have hP : va_P (dC, dI) vwCl [((r 27), .inl (cI, 6, .inl (fun _ => 0))), (h0, .inr (12, [.ref (r 0), .int 0, .int 0, .int 0, .int 0, .int 0, .int 0, .long 0, .int 1, .int 0, .int 1, .int 0, .int (-1), .int 0, .ref (r 1), .ref (r 2), .ref (r 3), .ref (r 4), .ref (r 5), .ref (r 6), .ref (r 7), .ref (r 8), .ref (r 9), .ref (r 10), .ref (r 11), .ref (r 12), .ref (r 13), .ref (r 14), .ref (r 15), .ref (r 16), .ref (r 17), .ref (r 18), .ref (r 19), .ref (r 20), .ref (r 21), .ref (r 22), .int 0, .int 1, .int 0, .ref (r 23), .ref (r 24), .ref (r 25), .ref (r 26), .int 0, .int 0, .ref (r 27), .ref (r 28), .ref (r 29), .ref (r 30), .ref (r 31), .ref (r 32), .ref (r 33), .int 0, .ref (r 34), .ref (r 35), .ref (r 36), .ref (r 37), .ref (r 38), .ref (r 39), .int 0, .int 0, .long 1, .int 0, .ref (r 40), .ref (r 41), .ref (r 42), .int 0, .ref (r 43), .ref (r 44), .ref (r 45), .int 0, .ref (r 46), .ref (r 47), .int 0, .int 0, .ref (r 48), .int 0, .ref (r 49), .int 0, .ref (r 50), .ref (r 51), .int 0, .ref (r 52), .ref (r 53), .ref (r 54), .ref (r 55), .ref (r 56), .int 0, .int 0, .int 0, .int 0, .ref (r 57), .int 0, .ref (r 58), .ref (r 59), .ref (r 60), .ref (r 61), .ref (r 62)])), ((r 10), .inl (cI, 2, .inl (fun _ => 0)))] H := hP
  have hD : va_D A [((r 27), .inl (cI, 6, .inl (fun _ => 0))), (h0, .inr (12, [.ref (r 0), .int 0, .int 0, .int 0, .int 0, .int 0, .int 0, .long 0, .int 1, .int 0, .int 1, .int 0, .int (-1), .int 0, .ref (r 1), .ref (r 2), .ref (r 3), .ref (r 4), .ref (r 5), .ref (r 6), .ref (r 7), .ref (r 8), .ref (r 9), .ref (r 10), .ref (r 11), .ref (r 12), .ref (r 13), .ref (r 14), .ref (r 15), .ref (r 16), .ref (r 17), .ref (r 18), .ref (r 19), .ref (r 20), .ref (r 21), .ref (r 22), .int 0, .int 1, .int 0, .ref (r 23), .ref (r 24), .ref (r 25), .ref (r 26), .int 0, .int 0, .ref (r 27), .ref (r 28), .ref (r 29), .ref (r 30), .ref (r 31), .ref (r 32), .ref (r 33), .int 0, .ref (r 34), .ref (r 35), .ref (r 36), .ref (r 37), .ref (r 38), .ref (r 39), .int 0, .int 0, .long 1, .int 0, .ref (r 40), .ref (r 41), .ref (r 42), .int 0, .ref (r 43), .ref (r 44), .ref (r 45), .int 0, .ref (r 46), .ref (r 47), .int 0, .int 0, .ref (r 48), .int 0, .ref (r 49), .int 0, .ref (r 50), .ref (r 51), .int 0, .ref (r 52), .ref (r 53), .ref (r 54), .ref (r 55), .ref (r 56), .int 0, .int 0, .int 0, .int 0, .ref (r 57), .int 0, .ref (r 58), .ref (r 59), .ref (r 60), .ref (r 61), .ref (r 62)])), ((r 10), .inl (cI, 2, .inl (fun _ => 0)))] := hD
  refine lv_aload_n hx hb dX12_row_178 rfl (lv_at hl 2 rfl) ?_
  refine va_get (D := (dC, dI)) (ci := 12) (v := .int 1) (C := RX12) (T := TX12) (N := 98) hx hb hts h_in_X12 hown hK hP 1 rfl rfl 8 (by decide) (hts (.fieldLink RX12 36 "MatchTreesModel" "faultKind" "I") (by decide +kernel)) (fun _ h9 => h9) rfl dX12_row_179 ?_
  refine lv_if_le (tgt := 193) hx hb dX12_row_182 (by decide) (fun c => absurd c (by decide)) (fun _ => ?_)
  refine lv_aload_n hx hb dX12_row_185 rfl (lv_at hl 2 rfl) ?_
  refine lv_iconst (v := 1) hx hb dX12_row_186 (by decide) ?_
  have hPc := hP.sub (ws' := [(h0, .inr (12, [.ref (r 0), .int 0, .int 0, .int 0, .int 0, .int 0, .int 0, .long 0, .int 1, .int 0, .int 1, .int 0, .int (-1), .int 0, .ref (r 1), .ref (r 2), .ref (r 3), .ref (r 4), .ref (r 5), .ref (r 6), .ref (r 7), .ref (r 8), .ref (r 9), .ref (r 10), .ref (r 11), .ref (r 12), .ref (r 13), .ref (r 14), .ref (r 15), .ref (r 16), .ref (r 17), .ref (r 18), .ref (r 19), .ref (r 20), .ref (r 21), .ref (r 22), .int 0, .int 1, .int 0, .ref (r 23), .ref (r 24), .ref (r 25), .ref (r 26), .int 0, .int 0, .ref (r 27), .ref (r 28), .ref (r 29), .ref (r 30), .ref (r 31), .ref (r 32), .ref (r 33), .int 0, .ref (r 34), .ref (r 35), .ref (r 36), .ref (r 37), .ref (r 38), .ref (r 39), .int 0, .int 0, .long 1, .int 0, .ref (r 40), .ref (r 41), .ref (r 42), .int 0, .ref (r 43), .ref (r 44), .ref (r 45), .int 0, .ref (r 46), .ref (r 47), .int 0, .int 0, .ref (r 48), .int 0, .ref (r 49), .int 0, .ref (r 50), .ref (r 51), .int 0, .ref (r 52), .ref (r 53), .ref (r 54), .ref (r 55), .ref (r 56), .int 0, .int 0, .int 0, .int 0, .ref (r 57), .int 0, .ref (r 58), .ref (r 59), .ref (r 60), .ref (r 61), .ref (r 62)])), ((r 27), .inl (cI, 6, .inl (fun _ => 0)))]) [1, 0] rfl
  have hDc := hD.sub (ws' := [(h0, .inr (12, [.ref (r 0), .int 0, .int 0, .int 0, .int 0, .int 0, .int 0, .long 0, .int 1, .int 0, .int 1, .int 0, .int (-1), .int 0, .ref (r 1), .ref (r 2), .ref (r 3), .ref (r 4), .ref (r 5), .ref (r 6), .ref (r 7), .ref (r 8), .ref (r 9), .ref (r 10), .ref (r 11), .ref (r 12), .ref (r 13), .ref (r 14), .ref (r 15), .ref (r 16), .ref (r 17), .ref (r 18), .ref (r 19), .ref (r 20), .ref (r 21), .ref (r 22), .int 0, .int 1, .int 0, .ref (r 23), .ref (r 24), .ref (r 25), .ref (r 26), .int 0, .int 0, .ref (r 27), .ref (r 28), .ref (r 29), .ref (r 30), .ref (r 31), .ref (r 32), .ref (r 33), .int 0, .ref (r 34), .ref (r 35), .ref (r 36), .ref (r 37), .ref (r 38), .ref (r 39), .int 0, .int 0, .long 1, .int 0, .ref (r 40), .ref (r 41), .ref (r 42), .int 0, .ref (r 43), .ref (r 44), .ref (r 45), .int 0, .ref (r 46), .ref (r 47), .int 0, .int 0, .ref (r 48), .int 0, .ref (r 49), .int 0, .ref (r 50), .ref (r 51), .int 0, .ref (r 52), .ref (r 53), .ref (r 54), .ref (r 55), .ref (r 56), .int 0, .int 0, .int 0, .int 0, .ref (r 57), .int 0, .ref (r 58), .ref (r 59), .ref (r 60), .ref (r 61), .ref (r 62)])), ((r 27), .inl (cI, 6, .inl (fun _ => 0)))]) [1, 0] (by decide) rfl
  have hFc := va_free (wc := [(h0, .inr (12, [.ref (r 0), .int 0, .int 0, .int 0, .int 0, .int 0, .int 0, .long 0, .int 1, .int 0, .int 1, .int 0, .int (-1), .int 0, .ref (r 1), .ref (r 2), .ref (r 3), .ref (r 4), .ref (r 5), .ref (r 6), .ref (r 7), .ref (r 8), .ref (r 9), .ref (r 10), .ref (r 11), .ref (r 12), .ref (r 13), .ref (r 14), .ref (r 15), .ref (r 16), .ref (r 17), .ref (r 18), .ref (r 19), .ref (r 20), .ref (r 21), .ref (r 22), .int 0, .int 1, .int 0, .ref (r 23), .ref (r 24), .ref (r 25), .ref (r 26), .int 0, .int 0, .ref (r 27), .ref (r 28), .ref (r 29), .ref (r 30), .ref (r 31), .ref (r 32), .ref (r 33), .int 0, .ref (r 34), .ref (r 35), .ref (r 36), .ref (r 37), .ref (r 38), .ref (r 39), .int 0, .int 0, .long 1, .int 0, .ref (r 40), .ref (r 41), .ref (r 42), .int 0, .ref (r 43), .ref (r 44), .ref (r 45), .int 0, .ref (r 46), .ref (r 47), .int 0, .int 0, .ref (r 48), .int 0, .ref (r 49), .int 0, .ref (r 50), .ref (r 51), .int 0, .ref (r 52), .ref (r 53), .ref (r 54), .ref (r 55), .ref (r 56), .int 0, .int 0, .int 0, .int 0, .ref (r 57), .int 0, .ref (r 58), .ref (r 59), .ref (r 60), .ref (r 61), .ref (r 62)])), ((r 27), .inl (cI, 6, .inl (fun _ => 0)))]) hD hS hA [1, 0] rfl
  refine va_calli (va_runV (As := [.int 1]) (rest := []) ⟨hx, hb, hml, hown, hts⟩ (c_X12_refuses_s1_1 l dC dI cI cJ h0 r H.size) (cwV 1 hts gX12_row_X12_refuses rfl rfl rfl (by decide +kernel) ⟨Nat.le_of_ble_eq_true rfl, Nat.le_of_ble_eq_true rfl⟩) ⟨mBlind, va_recv hK hPc (ci := 12) (q0 := 0) rfl rfl, mGo hPc hK hDc hN⟩ rfl rfl hl.1 rfl (lv_room (Nat.le_of_ble_eq_true rfl)) dX12_row_187 ⟨Nat.le_of_ble_eq_true rfl, Nat.le_of_ble_eq_true rfl⟩) hS (fun q _ h => hFc q h) hFc (fun r_3 u t H1 locs ht hvm hw hB hz1 hk1 hS => ?_)
  obtain ⟨g_4, hP1, hD1⟩ := hB
  obtain rfl : r_3 = (-1) := hw
  rw [ht] at hP1
  obtain ⟨hP, hD⟩ := va_join (wr := [((r 10), .inl (cI, 2, .inl (fun _ => 0)))]) (w1 := [(h0, .inr (12, [.ref (r 0), .int 0, .int 0, .int 0, .int 0, .int 0, .int 0, .long 0, .int 1, .int 0, .int 1, .int 0, .int (-1), .int 0, .ref (r 1), .ref (r 2), .ref (r 3), .ref (r 4), .ref (r 5), .ref (r 6), .ref (r 7), .ref (r 8), .ref (r 9), .ref (r 10), .ref (r 11), .ref (r 12), .ref (r 13), .ref (r 14), .ref (r 15), .ref (r 16), .ref (r 17), .ref (r 18), .ref (r 19), .ref (r 20), .ref (r 21), .ref (r 22), .int 0, .int 1, .int 0, .ref (r 23), .ref (r 24), .ref (r 25), .ref (r 26), .int 0, .int 0, .ref (r 27), .ref (r 28), .ref (r 29), .ref (r 30), .ref (r 31), .ref (r 32), .ref (r 33), .int 0, .ref (r 34), .ref (r 35), .ref (r 36), .ref (r 37), .ref (r 38), .ref (r 39), .int 0, .int 0, .long 1, .int 0, .ref (r 40), .ref (r 41), .ref (r 42), .int 0, .ref (r 43), .ref (r 44), .ref (r 45), .int 0, .ref (r 46), .ref (r 47), .int 0, .int 0, .ref (r 48), .int 0, .ref (r 49), .int 0, .ref (r 50), .ref (r 51), .int 0, .ref (r 52), .ref (r 53), .ref (r 54), .ref (r 55), .ref (r 56), .int 0, .int 0, .int 0, .int 0, .ref (r 57), .int 0, .ref (r 58), .ref (r 59), .ref (r 60), .ref (r 61), .ref (r 62)])), ((r 27), .inl (cI, 6, .inl g_4))]) hP hD [1, 0] [2] rfl rfl (by decide) (by decide) hk1 hFc hP1 hD1
  generalize H1 = H at hP hS ⊢
  have hP : va_P (dC, dI) vwCl [((r 10), .inl (cI, 2, .inl (fun _ => 0))), (h0, .inr (12, [.ref (r 0), .int 0, .int 0, .int 0, .int 0, .int 0, .int 0, .long 0, .int 1, .int 0, .int 1, .int 0, .int (-1), .int 0, .ref (r 1), .ref (r 2), .ref (r 3), .ref (r 4), .ref (r 5), .ref (r 6), .ref (r 7), .ref (r 8), .ref (r 9), .ref (r 10), .ref (r 11), .ref (r 12), .ref (r 13), .ref (r 14), .ref (r 15), .ref (r 16), .ref (r 17), .ref (r 18), .ref (r 19), .ref (r 20), .ref (r 21), .ref (r 22), .int 0, .int 1, .int 0, .ref (r 23), .ref (r 24), .ref (r 25), .ref (r 26), .int 0, .int 0, .ref (r 27), .ref (r 28), .ref (r 29), .ref (r 30), .ref (r 31), .ref (r 32), .ref (r 33), .int 0, .ref (r 34), .ref (r 35), .ref (r 36), .ref (r 37), .ref (r 38), .ref (r 39), .int 0, .int 0, .long 1, .int 0, .ref (r 40), .ref (r 41), .ref (r 42), .int 0, .ref (r 43), .ref (r 44), .ref (r 45), .int 0, .ref (r 46), .ref (r 47), .int 0, .int 0, .ref (r 48), .int 0, .ref (r 49), .int 0, .ref (r 50), .ref (r 51), .int 0, .ref (r 52), .ref (r 53), .ref (r 54), .ref (r 55), .ref (r 56), .int 0, .int 0, .int 0, .int 0, .ref (r 57), .int 0, .ref (r 58), .ref (r 59), .ref (r 60), .ref (r 61), .ref (r 62)])), ((r 27), .inl (cI, 6, .inl g_4))] H := hP
  have hD : va_D A [((r 10), .inl (cI, 2, .inl (fun _ => 0))), (h0, .inr (12, [.ref (r 0), .int 0, .int 0, .int 0, .int 0, .int 0, .int 0, .long 0, .int 1, .int 0, .int 1, .int 0, .int (-1), .int 0, .ref (r 1), .ref (r 2), .ref (r 3), .ref (r 4), .ref (r 5), .ref (r 6), .ref (r 7), .ref (r 8), .ref (r 9), .ref (r 10), .ref (r 11), .ref (r 12), .ref (r 13), .ref (r 14), .ref (r 15), .ref (r 16), .ref (r 17), .ref (r 18), .ref (r 19), .ref (r 20), .ref (r 21), .ref (r 22), .int 0, .int 1, .int 0, .ref (r 23), .ref (r 24), .ref (r 25), .ref (r 26), .int 0, .int 0, .ref (r 27), .ref (r 28), .ref (r 29), .ref (r 30), .ref (r 31), .ref (r 32), .ref (r 33), .int 0, .ref (r 34), .ref (r 35), .ref (r 36), .ref (r 37), .ref (r 38), .ref (r 39), .int 0, .int 0, .long 1, .int 0, .ref (r 40), .ref (r 41), .ref (r 42), .int 0, .ref (r 43), .ref (r 44), .ref (r 45), .int 0, .ref (r 46), .ref (r 47), .int 0, .int 0, .ref (r 48), .int 0, .ref (r 49), .int 0, .ref (r 50), .ref (r 51), .int 0, .ref (r 52), .ref (r 53), .ref (r 54), .ref (r 55), .ref (r 56), .int 0, .int 0, .int 0, .int 0, .ref (r 57), .int 0, .ref (r 58), .ref (r 59), .ref (r 60), .ref (r 61), .ref (r 62)])), ((r 27), .inl (cI, 6, .inl g_4))] := hD
  refine lv_goto (tgt := 194) hx hb dX12_row_190 (by decide) ?_
  exact W.iret (v := (-1)) hx hb hr (fun t ht hW => ⟨⟨(-1), (), rfl, rfl, trivial⟩, hS.F ht⟩) hS.2.2 dX12_row_194
