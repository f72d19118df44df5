/-! A first contract over the reference's world: the pattern of all others. -/
set_option maxHeartbeats 4000000 in
/-- blame: the first fault is kept -/
theorem c_X12_blame (l : Launch) (dC : Nat → ClassId) (dI : Nat → Nat → Nat) (cI cJ : ClassId) (h0 : Nat) (r : Nat → Nat) (sg : Nat → Nat → Int32) (ta : Nat → Nat → Int64) (p1 p2 : Int32) (sz : Nat) : Met l yX12_blame (.code yX12_blame cX12_blame 3 none :: WT) ({ frames := 1, cells := 0, slots := 0, locals := 60 }) (va_Pc [.ref h0, .int p1, .int p2] (mPre dC dI cI cJ sz (WM cI cJ h0 r sg ta))) (va_Qv (fun _ : Unit => True) (fun (_ : Unit) (t : State) => ∃ sg1, va_P (dC, dI) vwCl (WM cI cJ h0 r sg1 ta) t.heap ∧ va_D (va_A (WM cI cJ h0 r sg ta) sz) (WM cI cJ h0 r sg1 ta) ∧ ((0 < (sg 0 8).toInt ∧ sg1 = sg) ∨ ((sg 0 8).toInt ≤ 0 ∧ sg1 = ud (ud sg 0 8 p1) 0 9 p2))) (va_A (WM cI cJ h0 r sg ta) sz)) 0 0 (va_A (WM cI cJ h0 r sg ta) sz) := by
  refine Met.ofW (cc := cX12_blame) (maxL := 3) (ret := none) (by decide) rfl ?_
  intro p e s m args below meth c s₁ B hml hv
  obtain ⟨rfl, hsz, hP, hK, hD0, hN⟩ := hv
  have hx := B.exec
  have hb := B.bytes
  have hr := B.returns
  have hts1 := atoms_spec (ws := (.code yX12_blame cX12_blame 3 none :: WT)) B.pre
  have hts : ∀ w ∈ WT, w.before [.ref h0, .int p1, .int p2].toArray s = true := fun w h => hts1 w (List.mem_cons_of_mem _ h)
  have hown : s.vm.findClass RX12 = some m.cls := findClass_of_methodNamed B.named
  subst hsz
  have hD := hD0.self (sz := s.heap.size)
  generalize hAe : va_A (WM cI cJ h0 r sg ta) s.heap.size = A at hD ⊢
  have hA : ∀ q : Nat, s.heap.size ≤ q → A q := fun q h => by rw [← hAe]; exact Or.inr h
  have hS : va_S A s.heap s.heap [] := va_S.rf
  have hl := lv_entry ([.ref h0, .int p1, .int p2]) (n := 3) (Nat.le_of_ble_eq_true rfl)
  rw [lg_entry_eq]
  generalize (lg_sl ([.ref h0, .int p1, .int p2]) ++ List.replicate (3 - (lg_sl ([.ref h0, .int p1, .int p2])).length) Slot.unset).toArray = ls at hl ⊢
  have hl : lv_has ls 3 [(0, .ref h0), (1, .int p1), (2, .int p2)] := hl
  refine lv_aload_n hx hb dX12_blame_0 rfl (lv_at hl 0 rfl) ?_
  refine gM_8 hx hb hts hown hK hP dX12_blame_1 ?_
  refine lv_if_le (tgt := 8) hx hb dX12_blame_4 (by decide) (fun c1 => ?_) (fun c1 => ?_)
  · refine lv_aload_n hx hb dX12_blame_8 rfl (lv_at hl 0 rfl) ?_
    refine lv_iload_n hx hb dX12_blame_9 rfl (lv_at hl 1 rfl) ?_
    refine pM_8 hx hb hts hown hK hP hD hS dX12_blame_10 (fun H locs hP hD hS => ?_)
    refine lv_aload_n hx hb dX12_blame_13 rfl (lv_at hl 0 rfl) ?_
    refine lv_iload_n hx hb dX12_blame_14 rfl (lv_at hl 2 rfl) ?_
    refine pM_9 hx hb hts hown hK hP hD hS dX12_blame_15 (fun H locs hP hD hS => ?_)
    exact W.vret hx hb hr (fun t ht hW => ⟨⟨(), rfl, trivial, _, by rw [ht]; exact hP, hD, Or.inr ⟨b_le c1, rfl⟩⟩, hS.F ht⟩) hS.2.2 dX12_blame_18
  · exact W.vret hx hb hr (fun t ht hW => ⟨⟨(), rfl, trivial, sg, by rw [ht]; exact hP, hD, Or.inl ⟨b_nle c1, rfl⟩⟩, hS.F ht⟩) hS.2.2 dX12_blame_7
