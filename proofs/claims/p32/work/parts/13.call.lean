/-! A call over the reference's world: the pattern. -/
set_option maxHeartbeats 4000000 in
/-- lex: a sign that is wrong in itself is blamed -/
theorem c_X12_lex (l : Launch) (dC : Nat → ClassId) (dI : Nat → Nat → Nat) (cI cJ : ClassId) (h0 : Nat) (r : Nat → Nat) (sg : Nat → Nat → Int32) (ta : Nat → Nat → Int64) (sz : Nat) : Met l yX12_lex (.code yX12_lex cX12_lex 1 none :: WT) ({ frames := 2, cells := 0, slots := 0, locals := 100 }) (va_Pc [.ref h0] (mPre dC dI cI cJ sz (WM cI cJ h0 r sg ta))) (va_Qv (fun _ : Unit => True) (fun (_ : Unit) (t : State) => ∃ sg1, va_P (dC, dI) vwCl (WM cI cJ h0 r sg1 ta) t.heap ∧ va_D (va_A (WM cI cJ h0 r sg ta) sz) (WM cI cJ h0 r sg1 ta) ∧ ((0 < (sg 0 8).toInt ∧ sg1 = sg) ∨ sg 0 12 = -1 ∧ sg1 = sg ∨ ((sg 0 8).toInt ≤ 0 ∧ sg1 = ud (ud sg 0 8 1) 0 9 (sg 0 12)))) (va_A (WM cI cJ h0 r sg ta) sz)) 0 0 (va_A (WM cI cJ h0 r sg ta) sz) := by
  refine Met.ofW (cc := cX12_lex) (maxL := 1) (ret := none) (by decide) rfl ?_
  intro p e s m args below meth c s₁ B hml hv
  obtain ⟨rfl, hsz, hP, hK, hD0, hN⟩ := hv
  have hx := B.exec
  have hb := B.bytes
  have hr := B.returns
  have hts1 := atoms_spec (ws := (.code yX12_lex cX12_lex 1 none :: WT)) B.pre
  have hts : ∀ w ∈ WT, w.before [.ref h0].toArray s = true := fun w h => hts1 w (List.mem_cons_of_mem _ h)
  have hown : s.vm.findClass RX12 = some m.cls := findClass_of_methodNamed B.named
  subst hsz
  have hD := hD0.self (sz := s.heap.size)
  generalize hAe : va_A (WM cI cJ h0 r sg ta) s.heap.size = A at hD ⊢
  have hA : ∀ q : Nat, s.heap.size ≤ q → A q := fun q h => by rw [← hAe]; exact Or.inr h
  have hS : va_S A s.heap s.heap [] := va_S.rf
  have hl := lv_entry ([.ref h0]) (n := 1) (Nat.le_of_ble_eq_true rfl)
  rw [lg_entry_eq]
  generalize (lg_sl ([.ref h0]) ++ List.replicate (1 - (lg_sl ([.ref h0])).length) Slot.unset).toArray = ls at hl ⊢
  have hl : lv_has ls 1 [(0, .ref h0)] := hl
  refine lv_aload_n hx hb dX12_lex_0 rfl (lv_at hl 0 rfl) ?_
  refine gM_12 hx hb hts hown hK hP dX12_lex_1 ?_
  refine lv_iconst (v := (-1)) hx hb dX12_lex_4 (by decide) ?_
  refine lv_icmp_eq (tgt := 17) hx hb dX12_lex_5 (by decide) (fun c1 => ?_) (fun c1 => ?_)
  · exact W.vret hx hb hr (fun t ht hW => ⟨⟨(), rfl, trivial, sg, by rw [ht]; exact hP, hD, Or.inr (Or.inl ⟨c1, rfl⟩)⟩, hS.F ht⟩) hS.2.2 dX12_lex_17
  · refine lv_aload_n hx hb dX12_lex_8 rfl (lv_at hl 0 rfl) ?_
    refine lv_iconst (v := 1) hx hb dX12_lex_9 (by decide) ?_
    refine lv_aload_n hx hb dX12_lex_10 rfl (lv_at hl 0 rfl) ?_
    refine gM_12 hx hb hts hown hK hP dX12_lex_11 ?_
    have hFc : ∀ q, va_A (WM cI cJ h0 r sg ta) s.heap.size q → A q := fun q h => by rw [← hAe]; exact h
    refine va_callv (va_runV (As := [.int 1, .int (sg 0 12)]) (rest := []) ⟨hx, hb, hml, hown, hts⟩ (c_X12_blame l dC dI cI cJ h0 r sg ta 1 (sg 0 12) s.heap.size) (cwV 2 hts (gV t_1701 t_1703 s_52 t_147 t_1704) rfl rfl rfl (by decide +kernel) ⟨Nat.le_of_ble_eq_true rfl, Nat.le_of_ble_eq_true rfl⟩) ⟨mBlind, va_recv hK hP (ci := 12) (q0 := 0) rfl rfl, mGo hP hK hD hN⟩ rfl rfl hl.1 rfl (lv_room (Nat.le_of_ble_eq_true rfl)) dX12_lex_14 ⟨Nat.le_of_ble_eq_true rfl, Nat.le_of_ble_eq_true rfl⟩) hS (fun q _ h => hFc q h) hFc (fun u t H1 locs ht hvm hw hB hz1 hk1 hS => ?_)
    obtain ⟨sg1, hP1, hD1, h1⟩ := hB
    rw [ht] at hP1
    rw [hAe] at hD1
    exact W.vret hx hb hr (fun t ht hW => ⟨⟨(), rfl, trivial, sg1, by rw [ht]; exact hP1, hD1, h1.imp id Or.inr⟩, hS.F ht⟩) hS.2.2 dX12_lex_17
