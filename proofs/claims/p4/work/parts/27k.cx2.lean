/-! Constructors of the class: Scanner, Reader, and the class itself. -/
def okF (f : Nat → Int32) : Prop := ∀ k : Nat, k < 11 → f k = ([162899424, 51293898, 187463295, 24170724, 334385010, 269680428, 39942065, 212300838, 22281156, 224799543, 294949755] : List Int32).getD k 0
abbrev nPreS (dC : Nat → ClassId) (dI : Nat → Nat → Nat) (K : Nat → ClassId) (adK adV : Nat → Nat) (z sz : Nat) (W : va_W) : State → Prop := fun U => nPre dC dI K sz W U ∧ vS adK adV z U
theorem nBlindS {dC : Nat → ClassId} {dI : Nat → Nat → Nat} {K : Nat → ClassId} {adK adV : Nat → Nat} {z sz : Nat} {W : va_W} {av : List Value} : FrameBlind (va_Pc av (nPreS dC dI K adK adV z sz W)) := fun a U g mk q => by
  obtain ⟨q0, q1, q2⟩ := q
  exact ⟨q0, (nBlind (av := av) a U g mk ⟨q0, q1⟩).2, vS.same rfl rfl q2⟩
theorem nGoS {dC : Nat → ClassId} {dI : Nat → Nat → Nat} {K : Nat → ClassId} {adK adV : Nat → Nat} {z : Nat} {W : va_W} {av : List Value} {s : State} {H : Heap} {locs : List Loc} {A A1 : Nat → Prop} (hP : va_P (dC, dI) vwCl W H) (hK : va_K (dC, dI) vwCl (ty5 K) s) (hD : va_D A1 W) (hN : gN s) (hX : nX s) (hE : vS adK adV z s) (hAz : ∀ q, A q → z ≤ q) (hS : va_S A s.heap H locs) : ∀ U : State, U.heap = H → s.WarmedH U.vm → va_Pc av (nPreS dC dI K adK adV z H.size W) av.toArray U := fun U hU hW => ⟨rfl, (nGo (av := av) hP hK hD hN hX U hU hW).2, hE.go hAz hS U hU hW⟩
set_option maxHeartbeats 8000000 in
set_option maxRecDepth 100000 in
theorem n_X7_init (l : Launch) (dC : Nat → ClassId) (dI : Nat → Nat → Nat) (K : Nat → ClassId) (h0 : Nat) (adK adV : Nat → Nat) (z : Nat) (sz : Nat) (hAz : ∀ q : Nat, va_A [(h0, .inr (7, [.null, .null, .int 0, .int 0, .int 0, .int 0, .int 0, .int 0, .int 0]))] sz q → z ≤ q) : Met l yX7_init (.code yX7_init cX7_init 1 none :: WT) ({ frames := 9, cells := 2, slots := 11, locals := 722 }) (va_Pc [.ref h0] (nPreS dC dI K adK adV z sz [(h0, .inr (7, [.null, .null, .int 0, .int 0, .int 0, .int 0, .int 0, .int 0, .int 0]))])) (va_Qv (fun _ : Unit => True) (fun (_ : Unit) (t : State) => ∃ (r : Nat → Nat), ∃ (ff : Nat → Int32), okF ff ∧ va_P (dC, dI) vwCl [(h0, .inr (7, [.ref (r 0), .ref (r 1), .int 0, .int 0, .int 0, .int 0, .int 0, .int 0, .int 0])), ((r 0), .inl ((K 0), 11, .inl ff)), ((r 1), .inl ((K 0), 0, .inl (fun _ => 0)))] t.heap ∧ va_D (va_A [(h0, .inr (7, [.null, .null, .int 0, .int 0, .int 0, .int 0, .int 0, .int 0, .int 0]))] sz) [(h0, .inr (7, [.ref (r 0), .ref (r 1), .int 0, .int 0, .int 0, .int 0, .int 0, .int 0, .int 0])), ((r 0), .inl ((K 0), 11, .inl ff)), ((r 1), .inl ((K 0), 0, .inl (fun _ => 0)))]) (va_A [(h0, .inr (7, [.null, .null, .int 0, .int 0, .int 0, .int 0, .int 0, .int 0, .int 0]))] sz)) 2 11 (va_A [(h0, .inr (7, [.null, .null, .int 0, .int 0, .int 0, .int 0, .int 0, .int 0, .int 0]))] sz) := by
  refine Met.ofW (cc := cX7_init) (maxL := 1) (ret := none) (by decide) rfl ?_
  intro p e s m args below meth c s₁ B hml hv
  obtain ⟨rfl, ⟨hsz, hP, hK, hD0, hN, hX⟩, hE0⟩ := hv
  have hx := B.exec
  have hb := B.bytes
  have hr := B.returns
  have hts0 := atoms_spec (ws := .code yX7_init cX7_init 1 none :: WT) B.pre
  have hts : ∀ w ∈ WT, w.before _ s = true := fun w h => hts0 w (List.mem_cons_of_mem _ h)
  have hown : s.vm.findClass RX7 = some m.cls := findClass_of_methodNamed B.named
  have hlocks := B.notSynchronized
  have hin : meth.name = "<init>" := (name_of_methodNamed B.named B.method).1
  subst hsz
  have hD := hD0.self (sz := s.heap.size)
  have hz : z ≤ s.heap.size := hAz _ (Or.inr (Nat.le_refl _))
  generalize hAe : va_A [(h0, .inr (7, [.null, .null, .int 0, .int 0, .int 0, .int 0, .int 0, .int 0, .int 0]))] s.heap.size = A at hD hAz ⊢
  have hA : ∀ q : Nat, s.heap.size ≤ q → A q := fun q h => by rw [← hAe]; exact Or.inr h
  have hS : va_S A s.heap s.heap [] := va_S.rf
  have hP : va_P (dC, dI) vwCl [(h0, .inr (7, [.null, .null, .int 0, .int 0, .int 0, .int 0, .int 0, .int 0, .int 0]))] s.heap := hP
  have hD : va_D A [(h0, .inr (7, [.null, .null, .int 0, .int 0, .int 0, .int 0, .int 0, .int 0, .int 0]))] := hD
  have hl := lv_entry ([.ref h0]) (n := 1) (Nat.le_of_ble_eq_true rfl)
  rw [lg_entry_eq]
  generalize (lg_sl ([.ref h0]) ++ List.replicate (1 - (lg_sl ([.ref h0])).length) Slot.unset).toArray = ls at hl ⊢
  have hl : lv_has ls 1 [(0, .ref h0)] := hl
  refine lv_aload_n hx hb dX7_init_0 rfl (lv_at hl 0 rfl) ?_
  refine W.objInit hx hb hown (hts _ t_435) (hts _ t_155) (hts _ t_156) rfl (by rw [hml]; exact hl.1) rfl dX7_init_1 (Nat.le_of_ble_eq_true rfl) (Nat.le_of_ble_eq_true rfl) ?_
  refine W.eq (g2 := F0 m 4 ls []) rfl ?_
  refine lv_aload_n hx hb dX7_init_4 rfl (lv_at hl 0 rfl) ?_
  refine lv_bipush (v := 11) hx hb dX7_init_5 (by decide) ?_
  refine n_newI (N' := 11) (k2 := 1) (n2 := 11) hx hb (hts _ t_177) hK hP hD hS hA (by decide) (by decide) (Nat.le_of_ble_eq_true rfl) (Nat.le_of_ble_eq_true rfl) (Nat.le_of_ble_eq_true rfl) rfl rfl dX7_init_7 (fun q_1 H hP hD hS => ?_)
  have hP : va_P (dC, dI) vwCl [(h0, .inr (7, [.null, .null, .int 0, .int 0, .int 0, .int 0, .int 0, .int 0, .int 0])), (q_1, .inl ((K 0), 11, .inl (fun _ => 0)))] H := hP
  have hD : va_D A [(h0, .inr (7, [.null, .null, .int 0, .int 0, .int 0, .int 0, .int 0, .int 0, .int 0])), (q_1, .inl ((K 0), 11, .inl (fun _ => 0)))] := hD
  refine lv_dup hx hb dX7_init_9 rfl ?_
  refine lv_iconst (v := 0) hx hb dX7_init_10 (by decide) ?_
  refine va_ldcS hx hb hown (show vk_R RX7 9 "kind" (adK 0) s from hE0.2.2.2 0 (by decide)) dX7_init_11 ?_
  have hFc : ∀ q : Nat, va_A [] H.size q → A q := fun q h => by
    rcases h with ⟨k9, e9, h9⟩ | h9
    · simp at h9
    · exact hA q (Nat.le_trans hS.1 h9)
  refine va_calli (va_runS (As := [.ref (adK 0)]) (rest := [.int 0, .ref q_1, .ref q_1, .ref h0]) ⟨hx, hb, hml, hown, hts⟩ (c_X7_spell_0 l adK adV z H.size) (cwS 1 hts (gS t_437 t_438 t_141 t_439) rfl rfl rfl (by decide +kernel) ⟨Nat.le_of_ble_eq_true rfl, Nat.le_of_ble_eq_true rfl⟩) ⟨jBlind, jGo hE0 hAz hS hz⟩ rfl rfl hl.1 rfl (lv_room (Nat.le_of_ble_eq_true rfl)) dX7_init_13 ⟨Nat.le_of_ble_eq_true rfl, Nat.le_of_ble_eq_true rfl⟩) hS (fun q _ h => hFc q h) hFc (fun r9 u t H1 locs ht hvm hw hB hz1 hk1 hS => ?_)
  obtain rfl : r9 = 162899424 := hw
  obtain ⟨hP, hD⟩ := va_join (wr := [(h0, .inr (7, [.null, .null, .int 0, .int 0, .int 0, .int 0, .int 0, .int 0, .int 0])), (q_1, .inl ((K 0), 11, .inl (fun _ => 0)))]) (w1 := []) hP hD [] [0, 1] rfl rfl (by decide) (by decide) hk1 hFc va_P0 va_D0
  generalize H1 = H at hP hS ⊢
  have hP : va_P (dC, dI) vwCl [(h0, .inr (7, [.null, .null, .int 0, .int 0, .int 0, .int 0, .int 0, .int 0, .int 0])), (q_1, .inl ((K 0), 11, .inl (fun _ => 0)))] H := hP
  have hD : va_D A [(h0, .inr (7, [.null, .null, .int 0, .int 0, .int 0, .int 0, .int 0, .int 0, .int 0])), (q_1, .inl ((K 0), 11, .inl (fun _ => 0)))] := hD
  refine va_iast hx hb hK hP hD hS 1 0 rfl rfl (vpd (by decide)) dX7_init_16 (fun H locs hP hD hS => ?_)
  obtain ⟨g_2, e_g_2⟩ : ∃ y : Nat → Int32, y = upd (fun _ => 0) (0 : Int32).toNatClampNeg 162899424 := ⟨_, rfl⟩
  have hP : va_P (dC, dI) vwCl [(h0, .inr (7, [.null, .null, .int 0, .int 0, .int 0, .int 0, .int 0, .int 0, .int 0])), (q_1, .inl ((K 0), 11, .inl g_2))] H := by rw [e_g_2]; exact hP
  have hD : va_D A [(h0, .inr (7, [.null, .null, .int 0, .int 0, .int 0, .int 0, .int 0, .int 0, .int 0])), (q_1, .inl ((K 0), 11, .inl g_2))] := by rw [e_g_2]; exact hD
  refine lv_dup hx hb dX7_init_17 rfl ?_
  refine lv_iconst (v := 1) hx hb dX7_init_18 (by decide) ?_
  refine va_ldcS hx hb hown (show vk_R RX7 17 "con" (adK 1) s from hE0.2.2.2 1 (by decide)) dX7_init_19 ?_
  have hFc : ∀ q : Nat, va_A [] H.size q → A q := fun q h => by
    rcases h with ⟨k9, e9, h9⟩ | h9
    · simp at h9
    · exact hA q (Nat.le_trans hS.1 h9)
  refine va_calli (va_runS (As := [.ref (adK 1)]) (rest := [.int 1, .ref q_1, .ref q_1, .ref h0]) ⟨hx, hb, hml, hown, hts⟩ (c_X7_spell_1 l adK adV z H.size) (cwS 1 hts (gS t_437 t_438 t_141 t_439) rfl rfl rfl (by decide +kernel) ⟨Nat.le_of_ble_eq_true rfl, Nat.le_of_ble_eq_true rfl⟩) ⟨jBlind, jGo hE0 hAz hS hz⟩ rfl rfl hl.1 rfl (lv_room (Nat.le_of_ble_eq_true rfl)) dX7_init_21 ⟨Nat.le_of_ble_eq_true rfl, Nat.le_of_ble_eq_true rfl⟩) hS (fun q _ h => hFc q h) hFc (fun r9 u t H1 locs ht hvm hw hB hz1 hk1 hS => ?_)
  obtain rfl : r9 = 51293898 := hw
  obtain ⟨hP, hD⟩ := va_join (wr := [(h0, .inr (7, [.null, .null, .int 0, .int 0, .int 0, .int 0, .int 0, .int 0, .int 0])), (q_1, .inl ((K 0), 11, .inl g_2))]) (w1 := []) hP hD [] [0, 1] rfl rfl (by decide) (by decide) hk1 hFc va_P0 va_D0
  generalize H1 = H at hP hS ⊢
  have hP : va_P (dC, dI) vwCl [(h0, .inr (7, [.null, .null, .int 0, .int 0, .int 0, .int 0, .int 0, .int 0, .int 0])), (q_1, .inl ((K 0), 11, .inl g_2))] H := hP
  have hD : va_D A [(h0, .inr (7, [.null, .null, .int 0, .int 0, .int 0, .int 0, .int 0, .int 0, .int 0])), (q_1, .inl ((K 0), 11, .inl g_2))] := hD
  refine va_iast hx hb hK hP hD hS 1 0 rfl rfl (vpd (by decide)) dX7_init_24 (fun H locs hP hD hS => ?_)
  obtain ⟨g_3, e_g_3⟩ : ∃ y : Nat → Int32, y = upd g_2 (1 : Int32).toNatClampNeg 51293898 := ⟨_, rfl⟩
  have hP : va_P (dC, dI) vwCl [(h0, .inr (7, [.null, .null, .int 0, .int 0, .int 0, .int 0, .int 0, .int 0, .int 0])), (q_1, .inl ((K 0), 11, .inl g_3))] H := by rw [e_g_3]; exact hP
  have hD : va_D A [(h0, .inr (7, [.null, .null, .int 0, .int 0, .int 0, .int 0, .int 0, .int 0, .int 0])), (q_1, .inl ((K 0), 11, .inl g_3))] := by rw [e_g_3]; exact hD
  refine lv_dup hx hb dX7_init_25 rfl ?_
  refine lv_iconst (v := 2) hx hb dX7_init_26 (by decide) ?_
  refine va_ldcS hx hb hown (show vk_R RX7 19 "match" (adK 2) s from hE0.2.2.2 2 (by decide)) dX7_init_27 ?_
  have hFc : ∀ q : Nat, va_A [] H.size q → A q := fun q h => by
    rcases h with ⟨k9, e9, h9⟩ | h9
    · simp at h9
    · exact hA q (Nat.le_trans hS.1 h9)
  refine va_calli (va_runS (As := [.ref (adK 2)]) (rest := [.int 2, .ref q_1, .ref q_1, .ref h0]) ⟨hx, hb, hml, hown, hts⟩ (c_X7_spell_2 l adK adV z H.size) (cwS 1 hts (gS t_437 t_438 t_141 t_439) rfl rfl rfl (by decide +kernel) ⟨Nat.le_of_ble_eq_true rfl, Nat.le_of_ble_eq_true rfl⟩) ⟨jBlind, jGo hE0 hAz hS hz⟩ rfl rfl hl.1 rfl (lv_room (Nat.le_of_ble_eq_true rfl)) dX7_init_29 ⟨Nat.le_of_ble_eq_true rfl, Nat.le_of_ble_eq_true rfl⟩) hS (fun q _ h => hFc q h) hFc (fun r9 u t H1 locs ht hvm hw hB hz1 hk1 hS => ?_)
  obtain rfl : r9 = 187463295 := hw
  obtain ⟨hP, hD⟩ := va_join (wr := [(h0, .inr (7, [.null, .null, .int 0, .int 0, .int 0, .int 0, .int 0, .int 0, .int 0])), (q_1, .inl ((K 0), 11, .inl g_3))]) (w1 := []) hP hD [] [0, 1] rfl rfl (by decide) (by decide) hk1 hFc va_P0 va_D0
  generalize H1 = H at hP hS ⊢
  have hP : va_P (dC, dI) vwCl [(h0, .inr (7, [.null, .null, .int 0, .int 0, .int 0, .int 0, .int 0, .int 0, .int 0])), (q_1, .inl ((K 0), 11, .inl g_3))] H := hP
  have hD : va_D A [(h0, .inr (7, [.null, .null, .int 0, .int 0, .int 0, .int 0, .int 0, .int 0, .int 0])), (q_1, .inl ((K 0), 11, .inl g_3))] := hD
  refine va_iast hx hb hK hP hD hS 1 0 rfl rfl (vpd (by decide)) dX7_init_32 (fun H locs hP hD hS => ?_)
  obtain ⟨g_4, e_g_4⟩ : ∃ y : Nat → Int32, y = upd g_3 (2 : Int32).toNatClampNeg 187463295 := ⟨_, rfl⟩
  have hP : va_P (dC, dI) vwCl [(h0, .inr (7, [.null, .null, .int 0, .int 0, .int 0, .int 0, .int 0, .int 0, .int 0])), (q_1, .inl ((K 0), 11, .inl g_4))] H := by rw [e_g_4]; exact hP
  have hD : va_D A [(h0, .inr (7, [.null, .null, .int 0, .int 0, .int 0, .int 0, .int 0, .int 0, .int 0])), (q_1, .inl ((K 0), 11, .inl g_4))] := by rw [e_g_4]; exact hD
  refine lv_dup hx hb dX7_init_33 rfl ?_
  refine lv_iconst (v := 3) hx hb dX7_init_34 (by decide) ?_
  refine va_ldcS hx hb hown (show vk_R RX7 21 "arm" (adK 3) s from hE0.2.2.2 3 (by decide)) dX7_init_35 ?_
  have hFc : ∀ q : Nat, va_A [] H.size q → A q := fun q h => by
    rcases h with ⟨k9, e9, h9⟩ | h9
    · simp at h9
    · exact hA q (Nat.le_trans hS.1 h9)
  refine va_calli (va_runS (As := [.ref (adK 3)]) (rest := [.int 3, .ref q_1, .ref q_1, .ref h0]) ⟨hx, hb, hml, hown, hts⟩ (c_X7_spell_3 l adK adV z H.size) (cwS 1 hts (gS t_437 t_438 t_141 t_439) rfl rfl rfl (by decide +kernel) ⟨Nat.le_of_ble_eq_true rfl, Nat.le_of_ble_eq_true rfl⟩) ⟨jBlind, jGo hE0 hAz hS hz⟩ rfl rfl hl.1 rfl (lv_room (Nat.le_of_ble_eq_true rfl)) dX7_init_37 ⟨Nat.le_of_ble_eq_true rfl, Nat.le_of_ble_eq_true rfl⟩) hS (fun q _ h => hFc q h) hFc (fun r9 u t H1 locs ht hvm hw hB hz1 hk1 hS => ?_)
  obtain rfl : r9 = 24170724 := hw
  obtain ⟨hP, hD⟩ := va_join (wr := [(h0, .inr (7, [.null, .null, .int 0, .int 0, .int 0, .int 0, .int 0, .int 0, .int 0])), (q_1, .inl ((K 0), 11, .inl g_4))]) (w1 := []) hP hD [] [0, 1] rfl rfl (by decide) (by decide) hk1 hFc va_P0 va_D0
  generalize H1 = H at hP hS ⊢
  have hP : va_P (dC, dI) vwCl [(h0, .inr (7, [.null, .null, .int 0, .int 0, .int 0, .int 0, .int 0, .int 0, .int 0])), (q_1, .inl ((K 0), 11, .inl g_4))] H := hP
  have hD : va_D A [(h0, .inr (7, [.null, .null, .int 0, .int 0, .int 0, .int 0, .int 0, .int 0, .int 0])), (q_1, .inl ((K 0), 11, .inl g_4))] := hD
  refine va_iast hx hb hK hP hD hS 1 0 rfl rfl (vpd (by decide)) dX7_init_40 (fun H locs hP hD hS => ?_)
  obtain ⟨g_5, e_g_5⟩ : ∃ y : Nat → Int32, y = upd g_4 (3 : Int32).toNatClampNeg 24170724 := ⟨_, rfl⟩
  have hP : va_P (dC, dI) vwCl [(h0, .inr (7, [.null, .null, .int 0, .int 0, .int 0, .int 0, .int 0, .int 0, .int 0])), (q_1, .inl ((K 0), 11, .inl g_5))] H := by rw [e_g_5]; exact hP
  have hD : va_D A [(h0, .inr (7, [.null, .null, .int 0, .int 0, .int 0, .int 0, .int 0, .int 0, .int 0])), (q_1, .inl ((K 0), 11, .inl g_5))] := by rw [e_g_5]; exact hD
  refine lv_dup hx hb dX7_init_41 rfl ?_
  refine lv_iconst (v := 4) hx hb dX7_init_42 (by decide) ?_
  refine va_ldcS hx hb hown (show vk_R RX7 23 "when" (adK 4) s from hE0.2.2.2 4 (by decide)) dX7_init_43 ?_
  have hFc : ∀ q : Nat, va_A [] H.size q → A q := fun q h => by
    rcases h with ⟨k9, e9, h9⟩ | h9
    · simp at h9
    · exact hA q (Nat.le_trans hS.1 h9)
  refine va_calli (va_runS (As := [.ref (adK 4)]) (rest := [.int 4, .ref q_1, .ref q_1, .ref h0]) ⟨hx, hb, hml, hown, hts⟩ (c_X7_spell_4 l adK adV z H.size) (cwS 1 hts (gS t_437 t_438 t_141 t_439) rfl rfl rfl (by decide +kernel) ⟨Nat.le_of_ble_eq_true rfl, Nat.le_of_ble_eq_true rfl⟩) ⟨jBlind, jGo hE0 hAz hS hz⟩ rfl rfl hl.1 rfl (lv_room (Nat.le_of_ble_eq_true rfl)) dX7_init_45 ⟨Nat.le_of_ble_eq_true rfl, Nat.le_of_ble_eq_true rfl⟩) hS (fun q _ h => hFc q h) hFc (fun r9 u t H1 locs ht hvm hw hB hz1 hk1 hS => ?_)
  obtain rfl : r9 = 334385010 := hw
  obtain ⟨hP, hD⟩ := va_join (wr := [(h0, .inr (7, [.null, .null, .int 0, .int 0, .int 0, .int 0, .int 0, .int 0, .int 0])), (q_1, .inl ((K 0), 11, .inl g_5))]) (w1 := []) hP hD [] [0, 1] rfl rfl (by decide) (by decide) hk1 hFc va_P0 va_D0
  generalize H1 = H at hP hS ⊢
  have hP : va_P (dC, dI) vwCl [(h0, .inr (7, [.null, .null, .int 0, .int 0, .int 0, .int 0, .int 0, .int 0, .int 0])), (q_1, .inl ((K 0), 11, .inl g_5))] H := hP
  have hD : va_D A [(h0, .inr (7, [.null, .null, .int 0, .int 0, .int 0, .int 0, .int 0, .int 0, .int 0])), (q_1, .inl ((K 0), 11, .inl g_5))] := hD
  refine va_iast hx hb hK hP hD hS 1 0 rfl rfl (vpd (by decide)) dX7_init_48 (fun H locs hP hD hS => ?_)
  obtain ⟨g_6, e_g_6⟩ : ∃ y : Nat → Int32, y = upd g_5 (4 : Int32).toNatClampNeg 334385010 := ⟨_, rfl⟩
  have hP : va_P (dC, dI) vwCl [(h0, .inr (7, [.null, .null, .int 0, .int 0, .int 0, .int 0, .int 0, .int 0, .int 0])), (q_1, .inl ((K 0), 11, .inl g_6))] H := by rw [e_g_6]; exact hP
  have hD : va_D A [(h0, .inr (7, [.null, .null, .int 0, .int 0, .int 0, .int 0, .int 0, .int 0, .int 0])), (q_1, .inl ((K 0), 11, .inl g_6))] := by rw [e_g_6]; exact hD
  refine lv_dup hx hb dX7_init_49 rfl ?_
  refine lv_iconst (v := 5) hx hb dX7_init_50 (by decide) ?_
  refine va_ldcS hx hb hown (show vk_R RX7 25 "rule" (adK 5) s from hE0.2.2.2 5 (by decide)) dX7_init_51 ?_
  have hFc : ∀ q : Nat, va_A [] H.size q → A q := fun q h => by
    rcases h with ⟨k9, e9, h9⟩ | h9
    · simp at h9
    · exact hA q (Nat.le_trans hS.1 h9)
  refine va_calli (va_runS (As := [.ref (adK 5)]) (rest := [.int 5, .ref q_1, .ref q_1, .ref h0]) ⟨hx, hb, hml, hown, hts⟩ (c_X7_spell_5 l adK adV z H.size) (cwS 1 hts (gS t_437 t_438 t_141 t_439) rfl rfl rfl (by decide +kernel) ⟨Nat.le_of_ble_eq_true rfl, Nat.le_of_ble_eq_true rfl⟩) ⟨jBlind, jGo hE0 hAz hS hz⟩ rfl rfl hl.1 rfl (lv_room (Nat.le_of_ble_eq_true rfl)) dX7_init_53 ⟨Nat.le_of_ble_eq_true rfl, Nat.le_of_ble_eq_true rfl⟩) hS (fun q _ h => hFc q h) hFc (fun r9 u t H1 locs ht hvm hw hB hz1 hk1 hS => ?_)
  obtain rfl : r9 = 269680428 := hw
  obtain ⟨hP, hD⟩ := va_join (wr := [(h0, .inr (7, [.null, .null, .int 0, .int 0, .int 0, .int 0, .int 0, .int 0, .int 0])), (q_1, .inl ((K 0), 11, .inl g_6))]) (w1 := []) hP hD [] [0, 1] rfl rfl (by decide) (by decide) hk1 hFc va_P0 va_D0
  generalize H1 = H at hP hS ⊢
  have hP : va_P (dC, dI) vwCl [(h0, .inr (7, [.null, .null, .int 0, .int 0, .int 0, .int 0, .int 0, .int 0, .int 0])), (q_1, .inl ((K 0), 11, .inl g_6))] H := hP
  have hD : va_D A [(h0, .inr (7, [.null, .null, .int 0, .int 0, .int 0, .int 0, .int 0, .int 0, .int 0])), (q_1, .inl ((K 0), 11, .inl g_6))] := hD
  refine va_iast hx hb hK hP hD hS 1 0 rfl rfl (vpd (by decide)) dX7_init_56 (fun H locs hP hD hS => ?_)
  obtain ⟨g_7, e_g_7⟩ : ∃ y : Nat → Int32, y = upd g_6 (5 : Int32).toNatClampNeg 269680428 := ⟨_, rfl⟩
  have hP : va_P (dC, dI) vwCl [(h0, .inr (7, [.null, .null, .int 0, .int 0, .int 0, .int 0, .int 0, .int 0, .int 0])), (q_1, .inl ((K 0), 11, .inl g_7))] H := by rw [e_g_7]; exact hP
  have hD : va_D A [(h0, .inr (7, [.null, .null, .int 0, .int 0, .int 0, .int 0, .int 0, .int 0, .int 0])), (q_1, .inl ((K 0), 11, .inl g_7))] := by rw [e_g_7]; exact hD
  refine lv_dup hx hb dX7_init_57 rfl ?_
  refine lv_bipush (v := 6) hx hb dX7_init_58 (by decide) ?_
  refine va_ldcS hx hb hown (show vk_R RX7 27 "budget" (adK 6) s from hE0.2.2.2 6 (by decide)) dX7_init_60 ?_
  have hFc : ∀ q : Nat, va_A [] H.size q → A q := fun q h => by
    rcases h with ⟨k9, e9, h9⟩ | h9
    · simp at h9
    · exact hA q (Nat.le_trans hS.1 h9)
  refine va_calli (va_runS (As := [.ref (adK 6)]) (rest := [.int 6, .ref q_1, .ref q_1, .ref h0]) ⟨hx, hb, hml, hown, hts⟩ (c_X7_spell_6 l adK adV z H.size) (cwS 1 hts (gS t_437 t_438 t_141 t_439) rfl rfl rfl (by decide +kernel) ⟨Nat.le_of_ble_eq_true rfl, Nat.le_of_ble_eq_true rfl⟩) ⟨jBlind, jGo hE0 hAz hS hz⟩ rfl rfl hl.1 rfl (lv_room (Nat.le_of_ble_eq_true rfl)) dX7_init_62 ⟨Nat.le_of_ble_eq_true rfl, Nat.le_of_ble_eq_true rfl⟩) hS (fun q _ h => hFc q h) hFc (fun r9 u t H1 locs ht hvm hw hB hz1 hk1 hS => ?_)
  obtain rfl : r9 = 39942065 := hw
  obtain ⟨hP, hD⟩ := va_join (wr := [(h0, .inr (7, [.null, .null, .int 0, .int 0, .int 0, .int 0, .int 0, .int 0, .int 0])), (q_1, .inl ((K 0), 11, .inl g_7))]) (w1 := []) hP hD [] [0, 1] rfl rfl (by decide) (by decide) hk1 hFc va_P0 va_D0
  generalize H1 = H at hP hS ⊢
  have hP : va_P (dC, dI) vwCl [(h0, .inr (7, [.null, .null, .int 0, .int 0, .int 0, .int 0, .int 0, .int 0, .int 0])), (q_1, .inl ((K 0), 11, .inl g_7))] H := hP
  have hD : va_D A [(h0, .inr (7, [.null, .null, .int 0, .int 0, .int 0, .int 0, .int 0, .int 0, .int 0])), (q_1, .inl ((K 0), 11, .inl g_7))] := hD
  refine va_iast hx hb hK hP hD hS 1 0 rfl rfl (vpd (by decide)) dX7_init_65 (fun H locs hP hD hS => ?_)
  obtain ⟨g_8, e_g_8⟩ : ∃ y : Nat → Int32, y = upd g_7 (6 : Int32).toNatClampNeg 39942065 := ⟨_, rfl⟩
  have hP : va_P (dC, dI) vwCl [(h0, .inr (7, [.null, .null, .int 0, .int 0, .int 0, .int 0, .int 0, .int 0, .int 0])), (q_1, .inl ((K 0), 11, .inl g_8))] H := by rw [e_g_8]; exact hP
  have hD : va_D A [(h0, .inr (7, [.null, .null, .int 0, .int 0, .int 0, .int 0, .int 0, .int 0, .int 0])), (q_1, .inl ((K 0), 11, .inl g_8))] := by rw [e_g_8]; exact hD
  refine lv_dup hx hb dX7_init_66 rfl ?_
  refine lv_bipush (v := 7) hx hb dX7_init_67 (by decide) ?_
  refine va_ldcS hx hb hown (show vk_R RX7 29 "num" (adK 7) s from hE0.2.2.2 7 (by decide)) dX7_init_69 ?_
  have hFc : ∀ q : Nat, va_A [] H.size q → A q := fun q h => by
    rcases h with ⟨k9, e9, h9⟩ | h9
    · simp at h9
    · exact hA q (Nat.le_trans hS.1 h9)
  refine va_calli (va_runS (As := [.ref (adK 7)]) (rest := [.int 7, .ref q_1, .ref q_1, .ref h0]) ⟨hx, hb, hml, hown, hts⟩ (c_X7_spell_7 l adK adV z H.size) (cwS 1 hts (gS t_437 t_438 t_141 t_439) rfl rfl rfl (by decide +kernel) ⟨Nat.le_of_ble_eq_true rfl, Nat.le_of_ble_eq_true rfl⟩) ⟨jBlind, jGo hE0 hAz hS hz⟩ rfl rfl hl.1 rfl (lv_room (Nat.le_of_ble_eq_true rfl)) dX7_init_71 ⟨Nat.le_of_ble_eq_true rfl, Nat.le_of_ble_eq_true rfl⟩) hS (fun q _ h => hFc q h) hFc (fun r9 u t H1 locs ht hvm hw hB hz1 hk1 hS => ?_)
  obtain rfl : r9 = 212300838 := hw
  obtain ⟨hP, hD⟩ := va_join (wr := [(h0, .inr (7, [.null, .null, .int 0, .int 0, .int 0, .int 0, .int 0, .int 0, .int 0])), (q_1, .inl ((K 0), 11, .inl g_8))]) (w1 := []) hP hD [] [0, 1] rfl rfl (by decide) (by decide) hk1 hFc va_P0 va_D0
  generalize H1 = H at hP hS ⊢
  have hP : va_P (dC, dI) vwCl [(h0, .inr (7, [.null, .null, .int 0, .int 0, .int 0, .int 0, .int 0, .int 0, .int 0])), (q_1, .inl ((K 0), 11, .inl g_8))] H := hP
  have hD : va_D A [(h0, .inr (7, [.null, .null, .int 0, .int 0, .int 0, .int 0, .int 0, .int 0, .int 0])), (q_1, .inl ((K 0), 11, .inl g_8))] := hD
  refine va_iast hx hb hK hP hD hS 1 0 rfl rfl (vpd (by decide)) dX7_init_74 (fun H locs hP hD hS => ?_)
  obtain ⟨g_9, e_g_9⟩ : ∃ y : Nat → Int32, y = upd g_8 (7 : Int32).toNatClampNeg 212300838 := ⟨_, rfl⟩
  have hP : va_P (dC, dI) vwCl [(h0, .inr (7, [.null, .null, .int 0, .int 0, .int 0, .int 0, .int 0, .int 0, .int 0])), (q_1, .inl ((K 0), 11, .inl g_9))] H := by rw [e_g_9]; exact hP
  have hD : va_D A [(h0, .inr (7, [.null, .null, .int 0, .int 0, .int 0, .int 0, .int 0, .int 0, .int 0])), (q_1, .inl ((K 0), 11, .inl g_9))] := by rw [e_g_9]; exact hD
  refine lv_dup hx hb dX7_init_75 rfl ?_
  refine lv_bipush (v := 8) hx hb dX7_init_76 (by decide) ?_
  refine va_ldcS hx hb hown (show vk_R RX7 31 "any" (adK 8) s from hE0.2.2.2 8 (by decide)) dX7_init_78 ?_
  have hFc : ∀ q : Nat, va_A [] H.size q → A q := fun q h => by
    rcases h with ⟨k9, e9, h9⟩ | h9
    · simp at h9
    · exact hA q (Nat.le_trans hS.1 h9)
  refine va_calli (va_runS (As := [.ref (adK 8)]) (rest := [.int 8, .ref q_1, .ref q_1, .ref h0]) ⟨hx, hb, hml, hown, hts⟩ (c_X7_spell_8 l adK adV z H.size) (cwS 1 hts (gS t_437 t_438 t_141 t_439) rfl rfl rfl (by decide +kernel) ⟨Nat.le_of_ble_eq_true rfl, Nat.le_of_ble_eq_true rfl⟩) ⟨jBlind, jGo hE0 hAz hS hz⟩ rfl rfl hl.1 rfl (lv_room (Nat.le_of_ble_eq_true rfl)) dX7_init_80 ⟨Nat.le_of_ble_eq_true rfl, Nat.le_of_ble_eq_true rfl⟩) hS (fun q _ h => hFc q h) hFc (fun r9 u t H1 locs ht hvm hw hB hz1 hk1 hS => ?_)
  obtain rfl : r9 = 22281156 := hw
  obtain ⟨hP, hD⟩ := va_join (wr := [(h0, .inr (7, [.null, .null, .int 0, .int 0, .int 0, .int 0, .int 0, .int 0, .int 0])), (q_1, .inl ((K 0), 11, .inl g_9))]) (w1 := []) hP hD [] [0, 1] rfl rfl (by decide) (by decide) hk1 hFc va_P0 va_D0
  generalize H1 = H at hP hS ⊢
  have hP : va_P (dC, dI) vwCl [(h0, .inr (7, [.null, .null, .int 0, .int 0, .int 0, .int 0, .int 0, .int 0, .int 0])), (q_1, .inl ((K 0), 11, .inl g_9))] H := hP
  have hD : va_D A [(h0, .inr (7, [.null, .null, .int 0, .int 0, .int 0, .int 0, .int 0, .int 0, .int 0])), (q_1, .inl ((K 0), 11, .inl g_9))] := hD
  refine va_iast hx hb hK hP hD hS 1 0 rfl rfl (vpd (by decide)) dX7_init_83 (fun H locs hP hD hS => ?_)
  obtain ⟨g_10, e_g_10⟩ : ∃ y : Nat → Int32, y = upd g_9 (8 : Int32).toNatClampNeg 22281156 := ⟨_, rfl⟩
  have hP : va_P (dC, dI) vwCl [(h0, .inr (7, [.null, .null, .int 0, .int 0, .int 0, .int 0, .int 0, .int 0, .int 0])), (q_1, .inl ((K 0), 11, .inl g_10))] H := by rw [e_g_10]; exact hP
  have hD : va_D A [(h0, .inr (7, [.null, .null, .int 0, .int 0, .int 0, .int 0, .int 0, .int 0, .int 0])), (q_1, .inl ((K 0), 11, .inl g_10))] := by rw [e_g_10]; exact hD
  refine lv_dup hx hb dX7_init_84 rfl ?_
  refine lv_bipush (v := 9) hx hb dX7_init_85 (by decide) ?_
  refine va_ldcS hx hb hown (show vk_R RX7 33 "or" (adK 9) s from hE0.2.2.2 9 (by decide)) dX7_init_87 ?_
  have hFc : ∀ q : Nat, va_A [] H.size q → A q := fun q h => by
    rcases h with ⟨k9, e9, h9⟩ | h9
    · simp at h9
    · exact hA q (Nat.le_trans hS.1 h9)
  refine va_calli (va_runS (As := [.ref (adK 9)]) (rest := [.int 9, .ref q_1, .ref q_1, .ref h0]) ⟨hx, hb, hml, hown, hts⟩ (c_X7_spell_9 l adK adV z H.size) (cwS 1 hts (gS t_437 t_438 t_141 t_439) rfl rfl rfl (by decide +kernel) ⟨Nat.le_of_ble_eq_true rfl, Nat.le_of_ble_eq_true rfl⟩) ⟨jBlind, jGo hE0 hAz hS hz⟩ rfl rfl hl.1 rfl (lv_room (Nat.le_of_ble_eq_true rfl)) dX7_init_89 ⟨Nat.le_of_ble_eq_true rfl, Nat.le_of_ble_eq_true rfl⟩) hS (fun q _ h => hFc q h) hFc (fun r9 u t H1 locs ht hvm hw hB hz1 hk1 hS => ?_)
  obtain rfl : r9 = 224799543 := hw
  obtain ⟨hP, hD⟩ := va_join (wr := [(h0, .inr (7, [.null, .null, .int 0, .int 0, .int 0, .int 0, .int 0, .int 0, .int 0])), (q_1, .inl ((K 0), 11, .inl g_10))]) (w1 := []) hP hD [] [0, 1] rfl rfl (by decide) (by decide) hk1 hFc va_P0 va_D0
  generalize H1 = H at hP hS ⊢
  have hP : va_P (dC, dI) vwCl [(h0, .inr (7, [.null, .null, .int 0, .int 0, .int 0, .int 0, .int 0, .int 0, .int 0])), (q_1, .inl ((K 0), 11, .inl g_10))] H := hP
  have hD : va_D A [(h0, .inr (7, [.null, .null, .int 0, .int 0, .int 0, .int 0, .int 0, .int 0, .int 0])), (q_1, .inl ((K 0), 11, .inl g_10))] := hD
  refine va_iast hx hb hK hP hD hS 1 0 rfl rfl (vpd (by decide)) dX7_init_92 (fun H locs hP hD hS => ?_)
  obtain ⟨g_11, e_g_11⟩ : ∃ y : Nat → Int32, y = upd g_10 (9 : Int32).toNatClampNeg 224799543 := ⟨_, rfl⟩
  have hP : va_P (dC, dI) vwCl [(h0, .inr (7, [.null, .null, .int 0, .int 0, .int 0, .int 0, .int 0, .int 0, .int 0])), (q_1, .inl ((K 0), 11, .inl g_11))] H := by rw [e_g_11]; exact hP
  have hD : va_D A [(h0, .inr (7, [.null, .null, .int 0, .int 0, .int 0, .int 0, .int 0, .int 0, .int 0])), (q_1, .inl ((K 0), 11, .inl g_11))] := by rw [e_g_11]; exact hD
  refine lv_dup hx hb dX7_init_93 rfl ?_
  refine lv_bipush (v := 10) hx hb dX7_init_94 (by decide) ?_
  refine va_ldcS hx hb hown (show vk_R RX7 35 "to" (adK 10) s from hE0.2.2.2 10 (by decide)) dX7_init_96 ?_
  have hFc : ∀ q : Nat, va_A [] H.size q → A q := fun q h => by
    rcases h with ⟨k9, e9, h9⟩ | h9
    · simp at h9
    · exact hA q (Nat.le_trans hS.1 h9)
  refine va_calli (va_runS (As := [.ref (adK 10)]) (rest := [.int 10, .ref q_1, .ref q_1, .ref h0]) ⟨hx, hb, hml, hown, hts⟩ (c_X7_spell_10 l adK adV z H.size) (cwS 1 hts (gS t_437 t_438 t_141 t_439) rfl rfl rfl (by decide +kernel) ⟨Nat.le_of_ble_eq_true rfl, Nat.le_of_ble_eq_true rfl⟩) ⟨jBlind, jGo hE0 hAz hS hz⟩ rfl rfl hl.1 rfl (lv_room (Nat.le_of_ble_eq_true rfl)) dX7_init_98 ⟨Nat.le_of_ble_eq_true rfl, Nat.le_of_ble_eq_true rfl⟩) hS (fun q _ h => hFc q h) hFc (fun r9 u t H1 locs ht hvm hw hB hz1 hk1 hS => ?_)
  obtain rfl : r9 = 294949755 := hw
  obtain ⟨hP, hD⟩ := va_join (wr := [(h0, .inr (7, [.null, .null, .int 0, .int 0, .int 0, .int 0, .int 0, .int 0, .int 0])), (q_1, .inl ((K 0), 11, .inl g_11))]) (w1 := []) hP hD [] [0, 1] rfl rfl (by decide) (by decide) hk1 hFc va_P0 va_D0
  generalize H1 = H at hP hS ⊢
  have hP : va_P (dC, dI) vwCl [(h0, .inr (7, [.null, .null, .int 0, .int 0, .int 0, .int 0, .int 0, .int 0, .int 0])), (q_1, .inl ((K 0), 11, .inl g_11))] H := hP
  have hD : va_D A [(h0, .inr (7, [.null, .null, .int 0, .int 0, .int 0, .int 0, .int 0, .int 0, .int 0])), (q_1, .inl ((K 0), 11, .inl g_11))] := hD
  refine va_iast hx hb hK hP hD hS 1 0 rfl rfl (vpd (by decide)) dX7_init_101 (fun H locs hP hD hS => ?_)
  obtain ⟨g_12, e_g_12⟩ : ∃ y : Nat → Int32, y = upd g_11 (10 : Int32).toNatClampNeg 294949755 := ⟨_, rfl⟩
  have hP : va_P (dC, dI) vwCl [(h0, .inr (7, [.null, .null, .int 0, .int 0, .int 0, .int 0, .int 0, .int 0, .int 0])), (q_1, .inl ((K 0), 11, .inl g_12))] H := by rw [e_g_12]; exact hP
  have hD : va_D A [(h0, .inr (7, [.null, .null, .int 0, .int 0, .int 0, .int 0, .int 0, .int 0, .int 0])), (q_1, .inl ((K 0), 11, .inl g_12))] := by rw [e_g_12]; exact hD
  refine va_putF (D := (dC, dI)) (ci := 7) (v := .ref q_1) (ty := (.array .int)) (C := RX7) (T := TX7) (N := 9) hx hb hts hiX7 tyX7 tyX7_ok nmX7 hown hK hP hD hS 0 rfl rfl 0 (by decide) (hts _ t_498) (fun _ h9 => h9) rfl hin rfl (by decide +kernel) rfl rfl (Nat.le_of_ble_eq_true rfl) dX7_init_102 (fun H locs hP hD hS => ?_)
  have hP : va_P (dC, dI) vwCl [(h0, .inr (7, [.ref q_1, .null, .int 0, .int 0, .int 0, .int 0, .int 0, .int 0, .int 0])), (q_1, .inl ((K 0), 11, .inl g_12))] H := hP
  have hD : va_D A [(h0, .inr (7, [.ref q_1, .null, .int 0, .int 0, .int 0, .int 0, .int 0, .int 0, .int 0])), (q_1, .inl ((K 0), 11, .inl g_12))] := hD
  refine lv_aload_n hx hb dX7_init_105 rfl (lv_at hl 0 rfl) ?_
  refine lv_iconst (v := 0) hx hb dX7_init_106 (by decide) ?_
  refine n_newI (N' := 0) (k2 := 2) (n2 := 11) hx hb (hts _ t_177) hK hP hD hS hA (by decide) (by decide) (Nat.le_of_ble_eq_true rfl) (Nat.le_of_ble_eq_true rfl) (Nat.le_of_ble_eq_true rfl) rfl rfl dX7_init_107 (fun q_13 H hP hD hS => ?_)
  have hP : va_P (dC, dI) vwCl [(h0, .inr (7, [.ref q_1, .null, .int 0, .int 0, .int 0, .int 0, .int 0, .int 0, .int 0])), (q_1, .inl ((K 0), 11, .inl g_12)), (q_13, .inl ((K 0), 0, .inl (fun _ => 0)))] H := hP
  have hD : va_D A [(h0, .inr (7, [.ref q_1, .null, .int 0, .int 0, .int 0, .int 0, .int 0, .int 0, .int 0])), (q_1, .inl ((K 0), 11, .inl g_12)), (q_13, .inl ((K 0), 0, .inl (fun _ => 0)))] := hD
  refine va_put (D := (dC, dI)) (ci := 7) (v := .ref q_13) (ty := (.array .int)) (C := RX7) (T := TX7) (N := 9) hx hb hts hiX7 tyX7 tyX7_ok nmX7 hown hK hP hD hS 0 rfl rfl 1 (by decide) (hts _ t_499) (fun _ h9 => h9) rfl (by decide +kernel) rfl rfl (Nat.le_of_ble_eq_true rfl) dX7_init_109 (fun H locs hP hD hS => ?_)
  have hP : va_P (dC, dI) vwCl [(h0, .inr (7, [.ref q_1, .ref q_13, .int 0, .int 0, .int 0, .int 0, .int 0, .int 0, .int 0])), (q_1, .inl ((K 0), 11, .inl g_12)), (q_13, .inl ((K 0), 0, .inl (fun _ => 0)))] H := hP
  have hD : va_D A [(h0, .inr (7, [.ref q_1, .ref q_13, .int 0, .int 0, .int 0, .int 0, .int 0, .int 0, .int 0])), (q_1, .inl ((K 0), 11, .inl g_12)), (q_13, .inl ((K 0), 0, .inl (fun _ => 0)))] := hD
  have hokF : okF g_12 := by
    intro k hk
    rcases (show k = 0 ∨ k = 1 ∨ k = 2 ∨ k = 3 ∨ k = 4 ∨ k = 5 ∨ k = 6 ∨ k = 7 ∨ k = 8 ∨ k = 9 ∨ k = 10 by omega) with rfl | rfl | rfl | rfl | rfl | rfl | rfl | rfl | rfl | rfl | rfl <;> (subst e_g_12 e_g_11 e_g_10 e_g_9 e_g_8 e_g_7 e_g_6 e_g_5 e_g_4 e_g_3 e_g_2; rfl)
  exact W.vret hx hb hr (fun t ht hW => ⟨⟨(), rfl, trivial, (fun i => [q_1, q_13].getD i 0), g_12, hokF, by rw [ht]; exact hP, hD⟩, hS.F ht⟩) hS.2.2 dX7_init_112
set_option maxHeartbeats 8000000 in
set_option maxRecDepth 100000 in
theorem n_X6_init (l : Launch) (dC : Nat → ClassId) (dI : Nat → Nat → Nat) (K : Nat → ClassId) (h0 tb : Nat) (adK adV : Nat → Nat) (z : Nat) (sz : Nat) (hAz : ∀ q : Nat, va_A [(h0, .inr (6, [.null, .null, .null, .int 0, .int 0]))] sz q → z ≤ q) : Met l yX6_init (.code yX6_init cX6_init 2 none :: WT) ({ frames := 10, cells := 14, slots := 20510, locals := 742 }) (va_Pc [.ref h0, .ref tb] (nPreS dC dI K adK adV z sz [(h0, .inr (6, [.null, .null, .null, .int 0, .int 0]))])) (va_Qv (fun _ : Unit => True) (fun (_ : Unit) (t : State) => ∃ (r : Nat → Nat), ∃ (ff : Nat → Int32), okF ff ∧ va_P (dC, dI) vwCl [(h0, .inr (6, [.ref (r 0), .ref (r 3), .ref tb, .int 0, .int (-1)])), ((r 0), .inr (7, [.ref (r 1), .ref (r 2), .int 0, .int 0, .int 0, .int 0, .int 0, .int 0, .int 0])), ((r 1), .inl ((K 0), 11, .inl ff)), ((r 2), .inl ((K 0), 0, .inl (fun _ => 0))), ((r 3), .inl ((K 4), 10, .inr (.inr (.inr (.inr (va_rl [(r 4), (r 5), (r 6), (r 7), (r 8), (r 9), (r 10), (r 11), (r 12), (r 13)])))))), ((r 4), .inl ((K 0), 2048, .inl (fun _ => 0))), ((r 5), .inl ((K 0), 2048, .inl (fun _ => 0))), ((r 6), .inl ((K 0), 2048, .inl (fun _ => 0))), ((r 7), .inl ((K 0), 2048, .inl (fun _ => 0))), ((r 8), .inl ((K 0), 2048, .inl (fun _ => 0))), ((r 9), .inl ((K 0), 2048, .inl (fun _ => 0))), ((r 10), .inl ((K 0), 2048, .inl (fun _ => 0))), ((r 11), .inl ((K 0), 2048, .inl (fun _ => 0))), ((r 12), .inl ((K 0), 2048, .inl (fun _ => 0))), ((r 13), .inl ((K 0), 2048, .inl (fun _ => 0)))] t.heap ∧ va_D (va_A [(h0, .inr (6, [.null, .null, .null, .int 0, .int 0]))] sz) [(h0, .inr (6, [.ref (r 0), .ref (r 3), .ref tb, .int 0, .int (-1)])), ((r 0), .inr (7, [.ref (r 1), .ref (r 2), .int 0, .int 0, .int 0, .int 0, .int 0, .int 0, .int 0])), ((r 1), .inl ((K 0), 11, .inl ff)), ((r 2), .inl ((K 0), 0, .inl (fun _ => 0))), ((r 3), .inl ((K 4), 10, .inr (.inr (.inr (.inr (va_rl [(r 4), (r 5), (r 6), (r 7), (r 8), (r 9), (r 10), (r 11), (r 12), (r 13)])))))), ((r 4), .inl ((K 0), 2048, .inl (fun _ => 0))), ((r 5), .inl ((K 0), 2048, .inl (fun _ => 0))), ((r 6), .inl ((K 0), 2048, .inl (fun _ => 0))), ((r 7), .inl ((K 0), 2048, .inl (fun _ => 0))), ((r 8), .inl ((K 0), 2048, .inl (fun _ => 0))), ((r 9), .inl ((K 0), 2048, .inl (fun _ => 0))), ((r 10), .inl ((K 0), 2048, .inl (fun _ => 0))), ((r 11), .inl ((K 0), 2048, .inl (fun _ => 0))), ((r 12), .inl ((K 0), 2048, .inl (fun _ => 0))), ((r 13), .inl ((K 0), 2048, .inl (fun _ => 0)))]) (va_A [(h0, .inr (6, [.null, .null, .null, .int 0, .int 0]))] sz)) 14 20510 (va_A [(h0, .inr (6, [.null, .null, .null, .int 0, .int 0]))] sz) := by
  refine Met.ofW (cc := cX6_init) (maxL := 2) (ret := none) (by decide) rfl ?_
  intro p e s m args below meth c s₁ B hml hv
  obtain ⟨rfl, ⟨hsz, hP, hK, hD0, hN, hX⟩, hE0⟩ := hv
  have hx := B.exec
  have hb := B.bytes
  have hr := B.returns
  have hts0 := atoms_spec (ws := .code yX6_init cX6_init 2 none :: WT) B.pre
  have hts : ∀ w ∈ WT, w.before _ s = true := fun w h => hts0 w (List.mem_cons_of_mem _ h)
  have hown : s.vm.findClass RX6 = some m.cls := findClass_of_methodNamed B.named
  have hlocks := B.notSynchronized
  have hin : meth.name = "<init>" := (name_of_methodNamed B.named B.method).1
  subst hsz
  have hD := hD0.self (sz := s.heap.size)
  have hz : z ≤ s.heap.size := hAz _ (Or.inr (Nat.le_refl _))
  generalize hAe : va_A [(h0, .inr (6, [.null, .null, .null, .int 0, .int 0]))] s.heap.size = A at hD hAz ⊢
  have hA : ∀ q : Nat, s.heap.size ≤ q → A q := fun q h => by rw [← hAe]; exact Or.inr h
  have hS : va_S A s.heap s.heap [] := va_S.rf
  have hP : va_P (dC, dI) vwCl [(h0, .inr (6, [.null, .null, .null, .int 0, .int 0]))] s.heap := hP
  have hD : va_D A [(h0, .inr (6, [.null, .null, .null, .int 0, .int 0]))] := hD
  have hl := lv_entry ([.ref h0, .ref tb]) (n := 2) (Nat.le_of_ble_eq_true rfl)
  rw [lg_entry_eq]
  generalize (lg_sl ([.ref h0, .ref tb]) ++ List.replicate (2 - (lg_sl ([.ref h0, .ref tb])).length) Slot.unset).toArray = ls at hl ⊢
  have hl : lv_has ls 2 [(0, .ref h0), (1, .ref tb)] := hl
  refine lv_aload_n hx hb dX6_init_0 rfl (lv_at hl 0 rfl) ?_
  refine W.objInit hx hb hown (hts _ t_429) (hts _ t_155) (hts _ t_156) rfl (by rw [hml]; exact hl.1) rfl dX6_init_1 (Nat.le_of_ble_eq_true rfl) (Nat.le_of_ble_eq_true rfl) ?_
  refine W.eq (g2 := F0 m 4 ls []) rfl ?_
  refine lv_aload_n hx hb dX6_init_4 rfl (lv_at hl 0 rfl) ?_
  refine va_new (ci := 7) (fs := [.null, .null, .int 0, .int 0, .int 0, .int 0, .int 0, .int 0, .int 0]) (C := RX7) (T := TX7) (N := 9) hx hb hts hiX7 tyX7 tyX7_ok hown (hts _ t_430) (hts _ t_431) (hts _ t_141) hK hP hD hS hA rfl (fun j hj => by rcases (show j = 0 ∨ j = 1 ∨ j = 2 ∨ j = 3 ∨ j = 4 ∨ j = 5 ∨ j = 6 ∨ j = 7 ∨ j = 8 by omega) with rfl | rfl | rfl | rfl | rfl | rfl | rfl | rfl | rfl <;> rfl) (Nat.le_of_ble_eq_true rfl) (Nat.le_of_ble_eq_true rfl) dX6_init_5 (fun q_1 H hP hD hS => ?_)
  refine W.widen (k := 1) (n := 9) (Nat.le_of_ble_eq_true rfl) (Nat.le_of_ble_eq_true rfl) ?_
  have hP : va_P (dC, dI) vwCl [(h0, .inr (6, [.null, .null, .null, .int 0, .int 0])), (q_1, .inr (7, [.null, .null, .int 0, .int 0, .int 0, .int 0, .int 0, .int 0, .int 0]))] H := hP
  have hD : va_D A [(h0, .inr (6, [.null, .null, .null, .int 0, .int 0])), (q_1, .inr (7, [.null, .null, .int 0, .int 0, .int 0, .int 0, .int 0, .int 0, .int 0]))] := hD
  refine lv_dup hx hb dX6_init_8 rfl ?_
  have hPc := hP.sub (ws' := [(q_1, .inr (7, [.null, .null, .int 0, .int 0, .int 0, .int 0, .int 0, .int 0, .int 0]))]) [1] rfl
  have hDc := hD.sub (ws' := [(q_1, .inr (7, [.null, .null, .int 0, .int 0, .int 0, .int 0, .int 0, .int 0, .int 0]))]) [1] (by decide) rfl
  have hFc := va_free (wc := [(q_1, .inr (7, [.null, .null, .int 0, .int 0, .int 0, .int 0, .int 0, .int 0, .int 0]))]) hD hS hA [1] rfl
  refine va_callv (va_runIN (As := []) (rest := [.ref q_1, .ref h0]) ⟨hx, hb, hml, hown, hts⟩ (n_X7_init l dC dI K q_1 adK adV z H.size (fun q h => hAz q (hFc q h))) ⟨(va_cnB 0 hts (gI t_434) rfl rfl rfl hN.2.2.2.2.2.1 (hts _ t_141) (by decide +kernel) ⟨Nat.le_of_ble_eq_true rfl, Nat.le_of_ble_eq_true rfl⟩), rfl, hts (.instanceMethod yX7_init) (by decide +kernel)⟩ ⟨nBlindS, nGoS hPc hK hDc hN hX hE0 hAz hS⟩ rfl rfl hl.1 rfl (lv_room (Nat.le_of_ble_eq_true rfl)) dX6_init_9 ⟨Nat.le_of_ble_eq_true rfl, Nat.le_of_ble_eq_true rfl⟩) hS (fun q _ h => hFc q h) hFc (fun u t H1 locs ht hvm hw hB hz1 hk1 hS => ?_)
  obtain ⟨rk_3, fk_4, ho_fk_4, hP1, hD1⟩ := hB
  rw [ht] at hP1
  obtain ⟨hP, hD⟩ := va_join (wr := [(h0, .inr (6, [.null, .null, .null, .int 0, .int 0]))]) (w1 := [(q_1, .inr (7, [.ref (rk_3 0), .ref (rk_3 1), .int 0, .int 0, .int 0, .int 0, .int 0, .int 0, .int 0])), ((rk_3 0), .inl ((K 0), 11, .inl fk_4)), ((rk_3 1), .inl ((K 0), 0, .inl (fun _ => 0)))]) hP hD [1] [0] rfl rfl (by decide) (by decide) hk1 hFc hP1 hD1
  generalize H1 = H at hP hS ⊢
  have hP : va_P (dC, dI) vwCl [(h0, .inr (6, [.null, .null, .null, .int 0, .int 0])), (q_1, .inr (7, [.ref (rk_3 0), .ref (rk_3 1), .int 0, .int 0, .int 0, .int 0, .int 0, .int 0, .int 0])), ((rk_3 0), .inl ((K 0), 11, .inl fk_4)), ((rk_3 1), .inl ((K 0), 0, .inl (fun _ => 0)))] H := hP
  have hD : va_D A [(h0, .inr (6, [.null, .null, .null, .int 0, .int 0])), (q_1, .inr (7, [.ref (rk_3 0), .ref (rk_3 1), .int 0, .int 0, .int 0, .int 0, .int 0, .int 0, .int 0])), ((rk_3 0), .inl ((K 0), 11, .inl fk_4)), ((rk_3 1), .inl ((K 0), 0, .inl (fun _ => 0)))] := hD
  refine W.widen (k := 3) (n := 20) (Nat.le_of_ble_eq_true rfl) (Nat.le_of_ble_eq_true rfl) ?_
  refine va_putF (D := (dC, dI)) (ci := 6) (v := .ref q_1) (ty := (.object "MatchTrees$Scanner")) (C := RX6) (T := TX6) (N := 5) hx hb hts hiX6 tyX6 tyX6_ok nmX6 hown hK hP hD hS 0 rfl rfl 0 (by decide) (hts _ t_533) (fun _ h9 => h9) rfl hin rfl (by decide +kernel) rfl rfl (Nat.le_of_ble_eq_true rfl) dX6_init_12 (fun H locs hP hD hS => ?_)
  have hP : va_P (dC, dI) vwCl [(h0, .inr (6, [.ref q_1, .null, .null, .int 0, .int 0])), (q_1, .inr (7, [.ref (rk_3 0), .ref (rk_3 1), .int 0, .int 0, .int 0, .int 0, .int 0, .int 0, .int 0])), ((rk_3 0), .inl ((K 0), 11, .inl fk_4)), ((rk_3 1), .inl ((K 0), 0, .inl (fun _ => 0)))] H := hP
  have hD : va_D A [(h0, .inr (6, [.ref q_1, .null, .null, .int 0, .int 0])), (q_1, .inr (7, [.ref (rk_3 0), .ref (rk_3 1), .int 0, .int 0, .int 0, .int 0, .int 0, .int 0, .int 0])), ((rk_3 0), .inl ((K 0), 11, .inl fk_4)), ((rk_3 1), .inl ((K 0), 0, .inl (fun _ => 0)))] := hD
  refine lv_aload_n hx hb dX6_init_15 rfl (lv_at hl 0 rfl) ?_
  refine lv_bipush (v := 10) hx hb dX6_init_16 (by decide) ?_
  refine lv_sipush (v := 2048) hx hb dX6_init_18 (by decide) ?_
  refine n_mna (N' := 10) (K' := 2048) (k2 := 14) (n2 := 20510) hx hb hown (hts _ t_532) hN.2.2.2.2.2.2.2.2.2 (hts _ t_177) hK hP hD hS hA (by decide) (by decide) (by decide) (by decide) (Nat.le_of_ble_eq_true rfl) (Nat.le_of_ble_eq_true rfl) (Nat.le_of_ble_eq_true rfl) (Nat.le_of_ble_eq_true rfl) (Nat.le_of_ble_eq_true rfl) rfl rfl dX6_init_21 (fun q_5 qi_6 H hP hD hS => ?_)
  have hP : va_P (dC, dI) vwCl [(h0, .inr (6, [.ref q_1, .null, .null, .int 0, .int 0])), (q_1, .inr (7, [.ref (rk_3 0), .ref (rk_3 1), .int 0, .int 0, .int 0, .int 0, .int 0, .int 0, .int 0])), ((rk_3 0), .inl ((K 0), 11, .inl fk_4)), ((rk_3 1), .inl ((K 0), 0, .inl (fun _ => 0))), (q_5, .inl ((K 4), 10, .inr (.inr (.inr (.inr (va_rl [(qi_6 0), (qi_6 1), (qi_6 2), (qi_6 3), (qi_6 4), (qi_6 5), (qi_6 6), (qi_6 7), (qi_6 8), (qi_6 9)])))))), ((qi_6 0), .inl ((K 0), 2048, .inl (fun _ => 0))), ((qi_6 1), .inl ((K 0), 2048, .inl (fun _ => 0))), ((qi_6 2), .inl ((K 0), 2048, .inl (fun _ => 0))), ((qi_6 3), .inl ((K 0), 2048, .inl (fun _ => 0))), ((qi_6 4), .inl ((K 0), 2048, .inl (fun _ => 0))), ((qi_6 5), .inl ((K 0), 2048, .inl (fun _ => 0))), ((qi_6 6), .inl ((K 0), 2048, .inl (fun _ => 0))), ((qi_6 7), .inl ((K 0), 2048, .inl (fun _ => 0))), ((qi_6 8), .inl ((K 0), 2048, .inl (fun _ => 0))), ((qi_6 9), .inl ((K 0), 2048, .inl (fun _ => 0)))] H := va_P.q (g := va_rl [(qi_6 0), (qi_6 1), (qi_6 2), (qi_6 3), (qi_6 4), (qi_6 5), (qi_6 6), (qi_6 7), (qi_6 8), (qi_6 9)]) hP (k := 4) rfl (fun i hi => by rcases (show i = 0 ∨ i = 1 ∨ i = 2 ∨ i = 3 ∨ i = 4 ∨ i = 5 ∨ i = 6 ∨ i = 7 ∨ i = 8 ∨ i = 9 by omega) with rfl | rfl | rfl | rfl | rfl | rfl | rfl | rfl | rfl | rfl <;> rfl)
  have hD : va_D A [(h0, .inr (6, [.ref q_1, .null, .null, .int 0, .int 0])), (q_1, .inr (7, [.ref (rk_3 0), .ref (rk_3 1), .int 0, .int 0, .int 0, .int 0, .int 0, .int 0, .int 0])), ((rk_3 0), .inl ((K 0), 11, .inl fk_4)), ((rk_3 1), .inl ((K 0), 0, .inl (fun _ => 0))), (q_5, .inl ((K 4), 10, .inr (.inr (.inr (.inr (va_rl [(qi_6 0), (qi_6 1), (qi_6 2), (qi_6 3), (qi_6 4), (qi_6 5), (qi_6 6), (qi_6 7), (qi_6 8), (qi_6 9)])))))), ((qi_6 0), .inl ((K 0), 2048, .inl (fun _ => 0))), ((qi_6 1), .inl ((K 0), 2048, .inl (fun _ => 0))), ((qi_6 2), .inl ((K 0), 2048, .inl (fun _ => 0))), ((qi_6 3), .inl ((K 0), 2048, .inl (fun _ => 0))), ((qi_6 4), .inl ((K 0), 2048, .inl (fun _ => 0))), ((qi_6 5), .inl ((K 0), 2048, .inl (fun _ => 0))), ((qi_6 6), .inl ((K 0), 2048, .inl (fun _ => 0))), ((qi_6 7), .inl ((K 0), 2048, .inl (fun _ => 0))), ((qi_6 8), .inl ((K 0), 2048, .inl (fun _ => 0))), ((qi_6 9), .inl ((K 0), 2048, .inl (fun _ => 0)))] := hD.addr rfl
  refine va_putF (D := (dC, dI)) (ci := 6) (v := .ref q_5) (ty := (.array (.array .int))) (C := RX6) (T := TX6) (N := 5) hx hb hts hiX6 tyX6 tyX6_ok nmX6 hown hK hP hD hS 0 rfl rfl 1 (by decide) (hts _ t_534) (fun _ h9 => h9) rfl hin rfl (by decide +kernel) rfl rfl (Nat.le_of_ble_eq_true rfl) dX6_init_25 (fun H locs hP hD hS => ?_)
  have hP : va_P (dC, dI) vwCl [(h0, .inr (6, [.ref q_1, .ref q_5, .null, .int 0, .int 0])), (q_1, .inr (7, [.ref (rk_3 0), .ref (rk_3 1), .int 0, .int 0, .int 0, .int 0, .int 0, .int 0, .int 0])), ((rk_3 0), .inl ((K 0), 11, .inl fk_4)), ((rk_3 1), .inl ((K 0), 0, .inl (fun _ => 0))), (q_5, .inl ((K 4), 10, .inr (.inr (.inr (.inr (va_rl [(qi_6 0), (qi_6 1), (qi_6 2), (qi_6 3), (qi_6 4), (qi_6 5), (qi_6 6), (qi_6 7), (qi_6 8), (qi_6 9)])))))), ((qi_6 0), .inl ((K 0), 2048, .inl (fun _ => 0))), ((qi_6 1), .inl ((K 0), 2048, .inl (fun _ => 0))), ((qi_6 2), .inl ((K 0), 2048, .inl (fun _ => 0))), ((qi_6 3), .inl ((K 0), 2048, .inl (fun _ => 0))), ((qi_6 4), .inl ((K 0), 2048, .inl (fun _ => 0))), ((qi_6 5), .inl ((K 0), 2048, .inl (fun _ => 0))), ((qi_6 6), .inl ((K 0), 2048, .inl (fun _ => 0))), ((qi_6 7), .inl ((K 0), 2048, .inl (fun _ => 0))), ((qi_6 8), .inl ((K 0), 2048, .inl (fun _ => 0))), ((qi_6 9), .inl ((K 0), 2048, .inl (fun _ => 0)))] H := hP
  have hD : va_D A [(h0, .inr (6, [.ref q_1, .ref q_5, .null, .int 0, .int 0])), (q_1, .inr (7, [.ref (rk_3 0), .ref (rk_3 1), .int 0, .int 0, .int 0, .int 0, .int 0, .int 0, .int 0])), ((rk_3 0), .inl ((K 0), 11, .inl fk_4)), ((rk_3 1), .inl ((K 0), 0, .inl (fun _ => 0))), (q_5, .inl ((K 4), 10, .inr (.inr (.inr (.inr (va_rl [(qi_6 0), (qi_6 1), (qi_6 2), (qi_6 3), (qi_6 4), (qi_6 5), (qi_6 6), (qi_6 7), (qi_6 8), (qi_6 9)])))))), ((qi_6 0), .inl ((K 0), 2048, .inl (fun _ => 0))), ((qi_6 1), .inl ((K 0), 2048, .inl (fun _ => 0))), ((qi_6 2), .inl ((K 0), 2048, .inl (fun _ => 0))), ((qi_6 3), .inl ((K 0), 2048, .inl (fun _ => 0))), ((qi_6 4), .inl ((K 0), 2048, .inl (fun _ => 0))), ((qi_6 5), .inl ((K 0), 2048, .inl (fun _ => 0))), ((qi_6 6), .inl ((K 0), 2048, .inl (fun _ => 0))), ((qi_6 7), .inl ((K 0), 2048, .inl (fun _ => 0))), ((qi_6 8), .inl ((K 0), 2048, .inl (fun _ => 0))), ((qi_6 9), .inl ((K 0), 2048, .inl (fun _ => 0)))] := hD
  refine lv_aload_n hx hb dX6_init_28 rfl (lv_at hl 0 rfl) ?_
  refine lv_iconst (v := (-1)) hx hb dX6_init_29 (by decide) ?_
  refine va_put (D := (dC, dI)) (ci := 6) (v := .int (-1)) (ty := .int) (C := RX6) (T := TX6) (N := 5) hx hb hts hiX6 tyX6 tyX6_ok nmX6 hown hK hP hD hS 0 rfl rfl 4 (by decide) (hts _ t_538) (fun _ h9 => h9) rfl (by decide +kernel) rfl rfl (Nat.le_of_ble_eq_true rfl) dX6_init_30 (fun H locs hP hD hS => ?_)
  have hP : va_P (dC, dI) vwCl [(h0, .inr (6, [.ref q_1, .ref q_5, .null, .int 0, .int (-1)])), (q_1, .inr (7, [.ref (rk_3 0), .ref (rk_3 1), .int 0, .int 0, .int 0, .int 0, .int 0, .int 0, .int 0])), ((rk_3 0), .inl ((K 0), 11, .inl fk_4)), ((rk_3 1), .inl ((K 0), 0, .inl (fun _ => 0))), (q_5, .inl ((K 4), 10, .inr (.inr (.inr (.inr (va_rl [(qi_6 0), (qi_6 1), (qi_6 2), (qi_6 3), (qi_6 4), (qi_6 5), (qi_6 6), (qi_6 7), (qi_6 8), (qi_6 9)])))))), ((qi_6 0), .inl ((K 0), 2048, .inl (fun _ => 0))), ((qi_6 1), .inl ((K 0), 2048, .inl (fun _ => 0))), ((qi_6 2), .inl ((K 0), 2048, .inl (fun _ => 0))), ((qi_6 3), .inl ((K 0), 2048, .inl (fun _ => 0))), ((qi_6 4), .inl ((K 0), 2048, .inl (fun _ => 0))), ((qi_6 5), .inl ((K 0), 2048, .inl (fun _ => 0))), ((qi_6 6), .inl ((K 0), 2048, .inl (fun _ => 0))), ((qi_6 7), .inl ((K 0), 2048, .inl (fun _ => 0))), ((qi_6 8), .inl ((K 0), 2048, .inl (fun _ => 0))), ((qi_6 9), .inl ((K 0), 2048, .inl (fun _ => 0)))] H := hP
  have hD : va_D A [(h0, .inr (6, [.ref q_1, .ref q_5, .null, .int 0, .int (-1)])), (q_1, .inr (7, [.ref (rk_3 0), .ref (rk_3 1), .int 0, .int 0, .int 0, .int 0, .int 0, .int 0, .int 0])), ((rk_3 0), .inl ((K 0), 11, .inl fk_4)), ((rk_3 1), .inl ((K 0), 0, .inl (fun _ => 0))), (q_5, .inl ((K 4), 10, .inr (.inr (.inr (.inr (va_rl [(qi_6 0), (qi_6 1), (qi_6 2), (qi_6 3), (qi_6 4), (qi_6 5), (qi_6 6), (qi_6 7), (qi_6 8), (qi_6 9)])))))), ((qi_6 0), .inl ((K 0), 2048, .inl (fun _ => 0))), ((qi_6 1), .inl ((K 0), 2048, .inl (fun _ => 0))), ((qi_6 2), .inl ((K 0), 2048, .inl (fun _ => 0))), ((qi_6 3), .inl ((K 0), 2048, .inl (fun _ => 0))), ((qi_6 4), .inl ((K 0), 2048, .inl (fun _ => 0))), ((qi_6 5), .inl ((K 0), 2048, .inl (fun _ => 0))), ((qi_6 6), .inl ((K 0), 2048, .inl (fun _ => 0))), ((qi_6 7), .inl ((K 0), 2048, .inl (fun _ => 0))), ((qi_6 8), .inl ((K 0), 2048, .inl (fun _ => 0))), ((qi_6 9), .inl ((K 0), 2048, .inl (fun _ => 0)))] := hD
  refine lv_aload_n hx hb dX6_init_33 rfl (lv_at hl 0 rfl) ?_
  refine lv_aload_n hx hb dX6_init_34 rfl (lv_at hl 1 rfl) ?_
  refine va_put (D := (dC, dI)) (ci := 6) (v := .ref tb) (ty := (.object "MatchTrees$Table")) (C := RX6) (T := TX6) (N := 5) hx hb hts hiX6 tyX6 tyX6_ok nmX6 hown hK hP hD hS 0 rfl rfl 2 (by decide) (hts _ t_535) (fun _ h9 => h9) rfl (by decide +kernel) rfl rfl (Nat.le_of_ble_eq_true rfl) dX6_init_35 (fun H locs hP hD hS => ?_)
  have hP : va_P (dC, dI) vwCl [(h0, .inr (6, [.ref q_1, .ref q_5, .ref tb, .int 0, .int (-1)])), (q_1, .inr (7, [.ref (rk_3 0), .ref (rk_3 1), .int 0, .int 0, .int 0, .int 0, .int 0, .int 0, .int 0])), ((rk_3 0), .inl ((K 0), 11, .inl fk_4)), ((rk_3 1), .inl ((K 0), 0, .inl (fun _ => 0))), (q_5, .inl ((K 4), 10, .inr (.inr (.inr (.inr (va_rl [(qi_6 0), (qi_6 1), (qi_6 2), (qi_6 3), (qi_6 4), (qi_6 5), (qi_6 6), (qi_6 7), (qi_6 8), (qi_6 9)])))))), ((qi_6 0), .inl ((K 0), 2048, .inl (fun _ => 0))), ((qi_6 1), .inl ((K 0), 2048, .inl (fun _ => 0))), ((qi_6 2), .inl ((K 0), 2048, .inl (fun _ => 0))), ((qi_6 3), .inl ((K 0), 2048, .inl (fun _ => 0))), ((qi_6 4), .inl ((K 0), 2048, .inl (fun _ => 0))), ((qi_6 5), .inl ((K 0), 2048, .inl (fun _ => 0))), ((qi_6 6), .inl ((K 0), 2048, .inl (fun _ => 0))), ((qi_6 7), .inl ((K 0), 2048, .inl (fun _ => 0))), ((qi_6 8), .inl ((K 0), 2048, .inl (fun _ => 0))), ((qi_6 9), .inl ((K 0), 2048, .inl (fun _ => 0)))] H := hP
  have hD : va_D A [(h0, .inr (6, [.ref q_1, .ref q_5, .ref tb, .int 0, .int (-1)])), (q_1, .inr (7, [.ref (rk_3 0), .ref (rk_3 1), .int 0, .int 0, .int 0, .int 0, .int 0, .int 0, .int 0])), ((rk_3 0), .inl ((K 0), 11, .inl fk_4)), ((rk_3 1), .inl ((K 0), 0, .inl (fun _ => 0))), (q_5, .inl ((K 4), 10, .inr (.inr (.inr (.inr (va_rl [(qi_6 0), (qi_6 1), (qi_6 2), (qi_6 3), (qi_6 4), (qi_6 5), (qi_6 6), (qi_6 7), (qi_6 8), (qi_6 9)])))))), ((qi_6 0), .inl ((K 0), 2048, .inl (fun _ => 0))), ((qi_6 1), .inl ((K 0), 2048, .inl (fun _ => 0))), ((qi_6 2), .inl ((K 0), 2048, .inl (fun _ => 0))), ((qi_6 3), .inl ((K 0), 2048, .inl (fun _ => 0))), ((qi_6 4), .inl ((K 0), 2048, .inl (fun _ => 0))), ((qi_6 5), .inl ((K 0), 2048, .inl (fun _ => 0))), ((qi_6 6), .inl ((K 0), 2048, .inl (fun _ => 0))), ((qi_6 7), .inl ((K 0), 2048, .inl (fun _ => 0))), ((qi_6 8), .inl ((K 0), 2048, .inl (fun _ => 0))), ((qi_6 9), .inl ((K 0), 2048, .inl (fun _ => 0)))] := hD
  have hokF : okF fk_4 := ho_fk_4
  exact W.vret hx hb hr (fun t ht hW => ⟨⟨(), rfl, trivial, (fun i => [q_1, (rk_3 0), (rk_3 1), q_5, (qi_6 0), (qi_6 1), (qi_6 2), (qi_6 3), (qi_6 4), (qi_6 5), (qi_6 6), (qi_6 7), (qi_6 8), (qi_6 9)].getD i 0), fk_4, hokF, by rw [ht]; exact hP, hD⟩, hS.F ht⟩) hS.2.2 dX6_init_38
