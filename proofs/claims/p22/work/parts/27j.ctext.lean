section
/-! The class's String constants; String.length, charAt; spell. -/
abbrev lenS : List Nat := [4, 3, 5, 3, 4, 4, 6, 3, 3, 2, 2]
abbrev bytS : List (List Int32) := [[107, 105, 110, 100], [99, 111, 110], [109, 97, 116, 99, 104], [97, 114, 109], [119, 104, 101, 110], [114, 117, 108, 101], [98, 117, 100, 103, 101, 116], [110, 117, 109], [97, 110, 121], [111, 114], [116, 111]]
abbrev idxS : List Nat := [9, 17, 19, 21, 23, 25, 27, 29, 31, 33, 35]
abbrev txtS : List String := ["kind", "con", "match", "arm", "when", "rule", "budget", "num", "any", "or", "to"]
/-- the constants, and the statics of the JDK that their members read; nothing of them lies at or behind z -/
def vS (adK adV : Nat → Nat) (z : Nat) (U : State) : Prop := vk_S 11 lenS bytS adK adV (fun q => z ≤ q) U U.heap ∧ va_Z "java/lang/String" "COMPACT_STRINGS" "Z" (.int 1) (fun q => z ≤ q) U U.heap ∧ va_Zq "jdk/internal/util/Preconditions" "SIOOBE_FORMATTER" "Ljava/util/function/BiFunction;" (fun q => z ≤ q) U U.heap ∧ ∀ i : Nat, i < 11 → vk_R RX7 (idxS.getD i 0) (txtS.getD i "") (adK i) U
theorem vS.same {adK adV : Nat → Nat} {z : Nat} {u U : State} (hv : u.vm = U.vm) (hh : u.heap = U.heap) (h : vS adK adV z u) : vS adK adV z U := by
  obtain ⟨h1, h2, h3, h4⟩ := h
  have hal : u.vm.Alike U.vm := hv ▸ Vm.Alike.refl u.vm
  refine ⟨?_, ?_, ?_, fun i hi => vk_R.same hv.symm (h4 i hi)⟩
  · rw [← hh]; exact vk_S.moved hal h1
  · rw [← hh]; exact va_Z.moved hal h2
  · rw [← hh]; exact va_Zq.moved hal h3
theorem vS.go {adK adV : Nat → Nat} {z : Nat} {s : State} {A : Nat → Prop} {H : Heap} {locs : List Loc} (h : vS adK adV z s) (hAz : ∀ q, A q → z ≤ q) (hS : va_S A s.heap H locs) : ∀ U : State, U.heap = H → s.WarmedH U.vm → vS adK adV z U := by
  intro U hU hW
  obtain ⟨h1, h2, h3, h4⟩ := h
  have hk : ∀ a : Nat, a < s.heap.size → ¬ z ≤ a → H[a]? = s.heap[a]? := fun a ha hz => hS.2.1 a ha (fun q => hz (hAz a q))
  subst hU
  exact ⟨vk_S.moved hW.alike (h1.kept hk), va_Z.moved hW.alike (h2.kept hk), va_Zq.moved hW.alike (h3.kept hk), fun i hi => (h4 i hi).warm hW⟩
abbrev jPre (adK adV : Nat → Nat) (z sz : Nat) : State → Prop := fun U => U.heap.size = sz ∧ vS adK adV z U ∧ z ≤ sz
theorem jBlind {adK adV : Nat → Nat} {z sz : Nat} {av : List Value} : FrameBlind (va_Pc av (jPre adK adV z sz)) := fun a U g mk q => by
  obtain ⟨q0, q1, q2, q3⟩ := q
  exact ⟨q0, q1, vS.same rfl rfl q2, q3⟩
theorem jGo {adK adV : Nat → Nat} {z : Nat} {s : State} {A : Nat → Prop} {H : Heap} {locs : List Loc} {av : List Value} (h : vS adK adV z s) (hAz : ∀ q, A q → z ≤ q) (hS : va_S A s.heap H locs) (hz : z ≤ s.heap.size) : ∀ U : State, U.heap = H → s.WarmedH U.vm → va_Pc av (jPre adK adV z H.size) av.toArray U := fun U hU hW => ⟨rfl, by rw [hU], h.go hAz hS U hU hW, Nat.le_trans hz hS.1⟩
/-- a static call's start that says nothing -/
abbrev oPre (sz : Nat) : State → Prop := fun U => U.heap.size = sz
theorem oBlind {sz : Nat} {av : List Value} : FrameBlind (va_Pc av (oPre sz)) := fun a U g mk q => q
theorem oGo {s : State} {H : Heap} {av : List Value} : ∀ U : State, U.heap = H → s.WarmedH U.vm → va_Pc av (oPre H.size) av.toArray U := fun U hU _ => ⟨rfl, (by show U.heap.size = H.size; rw [hU])⟩
def chS (i k : Nat) : Int32 := (((bytS.getD i []).getD k 0 &&& 255).toUInt32 % 65536).toInt32
theorem lenS_ok : ∀ i : Nat, i < 11 → lenS.getD i 0 < 100 := by decide
set_option maxHeartbeats 4000000 in
set_option maxRecDepth 100000 in
theorem c_J0_coder_7d493 (l : Launch) (adK adV : Nat → Nat) (z i : Nat) (sz : Nat) (hi : i < 11) : Met l yJ0_coder_7d493 (.code yJ0_coder_7d493 cJ0_coder_7d493 1 (some .byte) :: WT) ({ frames := 1, cells := 0, slots := 0, locals := 100 }) (va_Pc [.ref (adK i)] (jPre adK adV z sz)) (va_Qi (fun (r : Int32) (u : Unit) => r = 0) (fun _ _ => True) (va_A [] sz)) 0 0 (va_A [] sz) := by
  refine Met.ofW (cc := cJ0_coder_7d493) (maxL := 1) (ret := (some .byte)) (by decide) rfl ?_
  intro p e s m args below meth c s₁ B hml hv
  obtain ⟨rfl, hsz, hE0, hz⟩ := hv
  have hx := B.exec
  have hb := B.bytes
  have hr := B.returns
  have hts0 := atoms_spec (ws := .code yJ0_coder_7d493 cJ0_coder_7d493 1 (some .byte) :: WT) B.pre
  have hts : ∀ w ∈ WT, w.before _ s = true := fun w h => hts0 w (List.mem_cons_of_mem _ h)
  have hown : s.vm.findClass RJ0 = some m.cls := findClass_of_methodNamed B.named
  have hlocks := B.notSynchronized
  subst hsz
  have hAz : ∀ q : Nat, va_A [] s.heap.size q → z ≤ q := fun q h => by
    rcases h with ⟨k9, e9, h9⟩ | h9
    · simp at h9
    · exact Nat.le_trans hz h9
  generalize hAe : va_A [] s.heap.size = A at hAz ⊢
  have hA : ∀ q : Nat, s.heap.size ≤ q → A q := fun q h => by rw [← hAe]; exact Or.inr h
  have hS : va_S A s.heap s.heap [] := va_S.rf
  have hE : vk_S 11 lenS bytS adK adV A s s.heap := hE0.1.narrow hAz
  have hZ : va_Z "java/lang/String" "COMPACT_STRINGS" "Z" (.int 1) A s s.heap := hE0.2.1.narrow hAz
  have hZq : va_Zq "jdk/internal/util/Preconditions" "SIOOBE_FORMATTER" "Ljava/util/function/BiFunction;" A s s.heap := hE0.2.2.1.narrow hAz
  have hl := lv_entry ([.ref (adK i)]) (n := 1) (Nat.le_of_ble_eq_true rfl)
  rw [lg_entry_eq]
  generalize (lg_sl ([.ref (adK i)]) ++ List.replicate (1 - (lg_sl ([.ref (adK i)])).length) Slot.unset).toArray = ls at hl ⊢
  have hl : lv_has ls 1 [(0, .ref (adK i))] := hl
  refine va_gets hx hb hZ hS hown (hts _ t_448) (fun _ h9 => h9) dJ0_coder_7d493_0 ?_
  refine lv_if_eq (tgt := 13) hx hb dJ0_coder_7d493_3 (by decide) (fun c => absurd c (by decide)) (fun _ => ?_)
  refine lv_aload_n hx hb dJ0_coder_7d493_6 rfl (lv_at hl 0 rfl) ?_
  refine vk_getf hx hb (hE.1 i hi).2.1 hS hown (hts _ t_2189) (fun _ h9 => h9) dJ0_coder_7d493_7 ?_
  refine lv_goto (tgt := 14) hx hb dJ0_coder_7d493_10 (by decide) ?_
  exact W.zret (v := 0) hx hb hr rfl (fun t ht hW => ⟨⟨0, (), rfl, rfl, trivial⟩, hS.F ht⟩) hS.2.2 dJ0_coder_7d493_14
set_option maxHeartbeats 4000000 in
set_option maxRecDepth 100000 in
theorem c_J0_isLatin1_aae02 (l : Launch) (adK adV : Nat → Nat) (z i : Nat) (sz : Nat) (hi : i < 11) : Met l yJ0_isLatin1_aae02 (.code yJ0_isLatin1_aae02 cJ0_isLatin1_aae02 1 (some .boolean) :: WT) ({ frames := 1, cells := 0, slots := 0, locals := 100 }) (va_Pc [.ref (adK i)] (jPre adK adV z sz)) (va_Qi (fun (r : Int32) (u : Unit) => r = 1) (fun _ _ => True) (va_A [] sz)) 0 0 (va_A [] sz) := by
  refine Met.ofW (cc := cJ0_isLatin1_aae02) (maxL := 1) (ret := (some .boolean)) (by decide) rfl ?_
  intro p e s m args below meth c s₁ B hml hv
  obtain ⟨rfl, hsz, hE0, hz⟩ := hv
  have hx := B.exec
  have hb := B.bytes
  have hr := B.returns
  have hts0 := atoms_spec (ws := .code yJ0_isLatin1_aae02 cJ0_isLatin1_aae02 1 (some .boolean) :: WT) B.pre
  have hts : ∀ w ∈ WT, w.before _ s = true := fun w h => hts0 w (List.mem_cons_of_mem _ h)
  have hown : s.vm.findClass RJ0 = some m.cls := findClass_of_methodNamed B.named
  have hlocks := B.notSynchronized
  subst hsz
  have hAz : ∀ q : Nat, va_A [] s.heap.size q → z ≤ q := fun q h => by
    rcases h with ⟨k9, e9, h9⟩ | h9
    · simp at h9
    · exact Nat.le_trans hz h9
  generalize hAe : va_A [] s.heap.size = A at hAz ⊢
  have hA : ∀ q : Nat, s.heap.size ≤ q → A q := fun q h => by rw [← hAe]; exact Or.inr h
  have hS : va_S A s.heap s.heap [] := va_S.rf
  have hE : vk_S 11 lenS bytS adK adV A s s.heap := hE0.1.narrow hAz
  have hZ : va_Z "java/lang/String" "COMPACT_STRINGS" "Z" (.int 1) A s s.heap := hE0.2.1.narrow hAz
  have hZq : va_Zq "jdk/internal/util/Preconditions" "SIOOBE_FORMATTER" "Ljava/util/function/BiFunction;" A s s.heap := hE0.2.2.1.narrow hAz
  have hl := lv_entry ([.ref (adK i)]) (n := 1) (Nat.le_of_ble_eq_true rfl)
  rw [lg_entry_eq]
  generalize (lg_sl ([.ref (adK i)]) ++ List.replicate (1 - (lg_sl ([.ref (adK i)])).length) Slot.unset).toArray = ls at hl ⊢
  have hl : lv_has ls 1 [(0, .ref (adK i))] := hl
  refine va_gets hx hb hZ hS hown (hts _ t_448) (fun _ h9 => h9) dJ0_isLatin1_aae02_0 ?_
  refine lv_if_eq (tgt := 17) hx hb dJ0_isLatin1_aae02_3 (by decide) (fun c => absurd c (by decide)) (fun _ => ?_)
  refine lv_aload_n hx hb dJ0_isLatin1_aae02_6 rfl (lv_at hl 0 rfl) ?_
  refine vk_getf hx hb (hE.1 i hi).2.1 hS hown (hts _ t_2189) (fun _ h9 => h9) dJ0_isLatin1_aae02_7 ?_
  refine lv_if_ne (tgt := 17) hx hb dJ0_isLatin1_aae02_10 (by decide) (fun c => absurd rfl c) (fun _ => ?_)
  refine lv_iconst (v := 1) hx hb dJ0_isLatin1_aae02_13 (by decide) ?_
  refine lv_goto (tgt := 18) hx hb dJ0_isLatin1_aae02_14 (by decide) ?_
  exact W.zret (v := 1) hx hb hr rfl (fun t ht hW => ⟨⟨1, (), rfl, rfl, trivial⟩, hS.F ht⟩) hS.2.2 dJ0_isLatin1_aae02_18
set_option maxHeartbeats 4000000 in
set_option maxRecDepth 100000 in
theorem c_J3_checkIndex_8e157_n (l : Launch) (i L : Nat) (sz : Nat) (hi : i < L) (hL : L < 2 ^ 31) : Met l yJ3_checkIndex_8e157 (.code yJ3_checkIndex_8e157 cJ3_checkIndex_8e157 3 (some .int) :: WT) ({ frames := 1, cells := 0, slots := 0, locals := 100 }) (va_Pc [.int (nI i), .int (nI L), .null] (oPre sz)) (va_Qi (fun (r : Int32) (u : Unit) => True) (fun _ _ => True) (va_A [] sz)) 0 0 (va_A [] sz) := by
  refine Met.ofW (cc := cJ3_checkIndex_8e157) (maxL := 3) (ret := (some .int)) (by decide) rfl ?_
  intro p e s m args below meth c s₁ B hml hv
  obtain ⟨rfl, hsz⟩ := hv
  have hx := B.exec
  have hb := B.bytes
  have hr := B.returns
  have hts0 := atoms_spec (ws := .code yJ3_checkIndex_8e157 cJ3_checkIndex_8e157 3 (some .int) :: WT) B.pre
  have hts : ∀ w ∈ WT, w.before _ s = true := fun w h => hts0 w (List.mem_cons_of_mem _ h)
  have hown : s.vm.findClass RJ3 = some m.cls := findClass_of_methodNamed B.named
  have hlocks := B.notSynchronized
  subst hsz
  generalize hAe : va_A [] s.heap.size = A at ⊢
  have hA : ∀ q : Nat, s.heap.size ≤ q → A q := fun q h => by rw [← hAe]; exact Or.inr h
  have hS : va_S A s.heap s.heap [] := va_S.rf
  have hl := lv_entry ([.int (nI i), .int (nI L), .null]) (n := 3) (Nat.le_of_ble_eq_true rfl)
  rw [lg_entry_eq]
  generalize (lg_sl ([.int (nI i), .int (nI L), .null]) ++ List.replicate (3 - (lg_sl ([.int (nI i), .int (nI L), .null])).length) Slot.unset).toArray = ls at hl ⊢
  have hl : lv_has ls 3 [(0, .int (nI i)), (1, .int (nI L)), (2, .null)] := hl
  refine lv_iload_n hx hb dJ3_checkIndex_8e157_0 rfl (lv_at hl 0 rfl) ?_
  refine lv_if_lt (tgt := 9) hx hb dJ3_checkIndex_8e157_1 (by decide) (fun c => absurd c (nI_pos (by omega))) (fun _ => ?_)
  refine lv_iload_n hx hb dJ3_checkIndex_8e157_4 rfl (lv_at hl 0 rfl) ?_
  refine lv_iload_n hx hb dJ3_checkIndex_8e157_5 rfl (lv_at hl 1 rfl) ?_
  refine lv_icmp_lt (tgt := 16) hx hb dJ3_checkIndex_8e157_6 (by decide) (fun _ => ?_) (fun c => absurd (nI_lt hi hL) c)
  refine lv_iload_n hx hb dJ3_checkIndex_8e157_16 rfl (lv_at hl 0 rfl) ?_
  exact W.iret (v := (nI i)) hx hb hr (fun t ht hW => ⟨⟨(nI i), (), rfl, trivial, trivial⟩, hS.F ht⟩) hS.2.2 dJ3_checkIndex_8e157_17
set_option maxHeartbeats 4000000 in
set_option maxRecDepth 100000 in
theorem c_J3_checkIndex_8e157_r (l : Launch) (i L : Nat) (t0 : Nat) (sz : Nat) (hi : i < L) (hL : L < 2 ^ 31) : Met l yJ3_checkIndex_8e157 (.code yJ3_checkIndex_8e157 cJ3_checkIndex_8e157 3 (some .int) :: WT) ({ frames := 1, cells := 0, slots := 0, locals := 100 }) (va_Pc [.int (nI i), .int (nI L), .ref t0] (oPre sz)) (va_Qi (fun (r : Int32) (u : Unit) => True) (fun _ _ => True) (va_A [] sz)) 0 0 (va_A [] sz) := by
  refine Met.ofW (cc := cJ3_checkIndex_8e157) (maxL := 3) (ret := (some .int)) (by decide) rfl ?_
  intro p e s m args below meth c s₁ B hml hv
  obtain ⟨rfl, hsz⟩ := hv
  have hx := B.exec
  have hb := B.bytes
  have hr := B.returns
  have hts0 := atoms_spec (ws := .code yJ3_checkIndex_8e157 cJ3_checkIndex_8e157 3 (some .int) :: WT) B.pre
  have hts : ∀ w ∈ WT, w.before _ s = true := fun w h => hts0 w (List.mem_cons_of_mem _ h)
  have hown : s.vm.findClass RJ3 = some m.cls := findClass_of_methodNamed B.named
  have hlocks := B.notSynchronized
  subst hsz
  generalize hAe : va_A [] s.heap.size = A at ⊢
  have hA : ∀ q : Nat, s.heap.size ≤ q → A q := fun q h => by rw [← hAe]; exact Or.inr h
  have hS : va_S A s.heap s.heap [] := va_S.rf
  have hl := lv_entry ([.int (nI i), .int (nI L), .ref t0]) (n := 3) (Nat.le_of_ble_eq_true rfl)
  rw [lg_entry_eq]
  generalize (lg_sl ([.int (nI i), .int (nI L), .ref t0]) ++ List.replicate (3 - (lg_sl ([.int (nI i), .int (nI L), .ref t0])).length) Slot.unset).toArray = ls at hl ⊢
  have hl : lv_has ls 3 [(0, .int (nI i)), (1, .int (nI L)), (2, .ref t0)] := hl
  refine lv_iload_n hx hb dJ3_checkIndex_8e157_0 rfl (lv_at hl 0 rfl) ?_
  refine lv_if_lt (tgt := 9) hx hb dJ3_checkIndex_8e157_1 (by decide) (fun c => absurd c (nI_pos (by omega))) (fun _ => ?_)
  refine lv_iload_n hx hb dJ3_checkIndex_8e157_4 rfl (lv_at hl 0 rfl) ?_
  refine lv_iload_n hx hb dJ3_checkIndex_8e157_5 rfl (lv_at hl 1 rfl) ?_
  refine lv_icmp_lt (tgt := 16) hx hb dJ3_checkIndex_8e157_6 (by decide) (fun _ => ?_) (fun c => absurd (nI_lt hi hL) c)
  refine lv_iload_n hx hb dJ3_checkIndex_8e157_16 rfl (lv_at hl 0 rfl) ?_
  exact W.iret (v := (nI i)) hx hb hr (fun t ht hW => ⟨⟨(nI i), (), rfl, trivial, trivial⟩, hS.F ht⟩) hS.2.2 dJ3_checkIndex_8e157_17
set_option maxHeartbeats 4000000 in
set_option maxRecDepth 100000 in
theorem c_J0_checkIndex_df160 (l : Launch) (adK adV : Nat → Nat) (z i L : Nat) (sz : Nat) (hi : i < L) (hL : L < 2 ^ 31) : Met l yJ0_checkIndex_df160 (.code yJ0_checkIndex_df160 cJ0_checkIndex_df160 2 none :: WT) ({ frames := 2, cells := 0, slots := 0, locals := 200 }) (va_Pc [.int (nI i), .int (nI L)] (jPre adK adV z sz)) (va_Qv (fun _ : Unit => True) (fun _ _ => True) (va_A [] sz)) 0 0 (va_A [] sz) := by
  refine Met.ofW (cc := cJ0_checkIndex_df160) (maxL := 2) (ret := none) (by decide) rfl ?_
  intro p e s m args below meth c s₁ B hml hv
  obtain ⟨rfl, hsz, hE0, hz⟩ := hv
  have hx := B.exec
  have hb := B.bytes
  have hr := B.returns
  have hts0 := atoms_spec (ws := .code yJ0_checkIndex_df160 cJ0_checkIndex_df160 2 none :: WT) B.pre
  have hts : ∀ w ∈ WT, w.before _ s = true := fun w h => hts0 w (List.mem_cons_of_mem _ h)
  have hown : s.vm.findClass RJ0 = some m.cls := findClass_of_methodNamed B.named
  have hlocks := B.notSynchronized
  subst hsz
  have hAz : ∀ q : Nat, va_A [] s.heap.size q → z ≤ q := fun q h => by
    rcases h with ⟨k9, e9, h9⟩ | h9
    · simp at h9
    · exact Nat.le_trans hz h9
  generalize hAe : va_A [] s.heap.size = A at hAz ⊢
  have hA : ∀ q : Nat, s.heap.size ≤ q → A q := fun q h => by rw [← hAe]; exact Or.inr h
  have hS : va_S A s.heap s.heap [] := va_S.rf
  have hE : vk_S 11 lenS bytS adK adV A s s.heap := hE0.1.narrow hAz
  have hZ : va_Z "java/lang/String" "COMPACT_STRINGS" "Z" (.int 1) A s s.heap := hE0.2.1.narrow hAz
  have hZq : va_Zq "jdk/internal/util/Preconditions" "SIOOBE_FORMATTER" "Ljava/util/function/BiFunction;" A s s.heap := hE0.2.2.1.narrow hAz
  have hl := lv_entry ([.int (nI i), .int (nI L)]) (n := 2) (Nat.le_of_ble_eq_true rfl)
  rw [lg_entry_eq]
  generalize (lg_sl ([.int (nI i), .int (nI L)]) ++ List.replicate (2 - (lg_sl ([.int (nI i), .int (nI L)])).length) Slot.unset).toArray = ls at hl ⊢
  have hl : lv_has ls 2 [(0, .int (nI i)), (1, .int (nI L))] := hl
  refine lv_iload_n hx hb dJ0_checkIndex_df160_0 rfl (lv_at hl 0 rfl) ?_
  refine lv_iload_n hx hb dJ0_checkIndex_df160_1 rfl (lv_at hl 1 rfl) ?_
  rcases hZq with hZ0 | ⟨t0, hZ0⟩
  · refine va_gets hx hb hZ0 hS hown (hts _ t_464) (fun _ h9 => h9) dJ0_checkIndex_df160_2 ?_
    have hFc : ∀ q : Nat, va_A [] s.heap.size q → A q := fun q h => by
      rcases h with ⟨k9, e9, h9⟩ | h9
      · simp at h9
      · exact hA q (Nat.le_trans hS.1 h9)
    refine va_calli (va_runS (As := [.int (nI i), .int (nI L), .null]) (rest := []) ⟨hx, hb, hml, hown, hts⟩ (c_J3_checkIndex_8e157_n l i L s.heap.size hi hL) (va_cwS 3 hts (gT t_466 t_467 t_144 t_468) rfl rfl rfl (by decide +kernel) ⟨Nat.le_of_ble_eq_true rfl, Nat.le_of_ble_eq_true rfl⟩) ⟨oBlind, oGo⟩ rfl rfl hl.1 rfl (lv_room (Nat.le_of_ble_eq_true rfl)) dJ0_checkIndex_df160_5 ⟨Nat.le_of_ble_eq_true rfl, Nat.le_of_ble_eq_true rfl⟩) hS (fun q _ h => hFc q h) hFc (fun r u t H1 locs ht hvm hw hB hz1 hk1 hS => ?_)
    refine lv_pop hx hb dJ0_checkIndex_df160_8 rfl ?_
    exact W.vret hx hb hr (fun t ht hW => ⟨⟨(), rfl, trivial, trivial⟩, hS.F ht⟩) hS.2.2 dJ0_checkIndex_df160_9
  · refine va_gets hx hb hZ0 hS hown (hts _ t_464) (fun _ h9 => h9) dJ0_checkIndex_df160_2 ?_
    have hFc : ∀ q : Nat, va_A [] s.heap.size q → A q := fun q h => by
      rcases h with ⟨k9, e9, h9⟩ | h9
      · simp at h9
      · exact hA q (Nat.le_trans hS.1 h9)
    refine va_calli (va_runS (As := [.int (nI i), .int (nI L), .ref t0]) (rest := []) ⟨hx, hb, hml, hown, hts⟩ (c_J3_checkIndex_8e157_r l i L t0 s.heap.size hi hL) (va_cwS 3 hts (gT t_466 t_467 t_144 t_468) rfl rfl rfl (by decide +kernel) ⟨Nat.le_of_ble_eq_true rfl, Nat.le_of_ble_eq_true rfl⟩) ⟨oBlind, oGo⟩ rfl rfl hl.1 rfl (lv_room (Nat.le_of_ble_eq_true rfl)) dJ0_checkIndex_df160_5 ⟨Nat.le_of_ble_eq_true rfl, Nat.le_of_ble_eq_true rfl⟩) hS (fun q _ h => hFc q h) hFc (fun r u t H1 locs ht hvm hw hB hz1 hk1 hS => ?_)
    refine lv_pop hx hb dJ0_checkIndex_df160_8 rfl ?_
    exact W.vret hx hb hr (fun t ht hW => ⟨⟨(), rfl, trivial, trivial⟩, hS.F ht⟩) hS.2.2 dJ0_checkIndex_df160_9
set_option maxHeartbeats 4000000 in
set_option maxRecDepth 100000 in
theorem c_J1_charAt_3b067 (l : Launch) (adK adV : Nat → Nat) (z i k : Nat) (sz : Nat) (hi : i < 11) (hk : k < lenS.getD i 0) : Met l yJ1_charAt_3b067 (.code yJ1_charAt_3b067 cJ1_charAt_3b067 2 (some .char) :: WT) ({ frames := 3, cells := 0, slots := 0, locals := 300 }) (va_Pc [.ref (adV i), .int (nI k)] (jPre adK adV z sz)) (va_Qi (fun (r : Int32) (u : Unit) => r = chS i k) (fun _ _ => True) (va_A [] sz)) 0 0 (va_A [] sz) := by
  refine Met.ofW (cc := cJ1_charAt_3b067) (maxL := 2) (ret := (some .char)) (by decide) rfl ?_
  intro p e s m args below meth c s₁ B hml hv
  obtain ⟨rfl, hsz, hE0, hz⟩ := hv
  have hx := B.exec
  have hb := B.bytes
  have hr := B.returns
  have hts0 := atoms_spec (ws := .code yJ1_charAt_3b067 cJ1_charAt_3b067 2 (some .char) :: WT) B.pre
  have hts : ∀ w ∈ WT, w.before _ s = true := fun w h => hts0 w (List.mem_cons_of_mem _ h)
  have hown : s.vm.findClass RJ1 = some m.cls := findClass_of_methodNamed B.named
  have hlocks := B.notSynchronized
  subst hsz
  have hAz : ∀ q : Nat, va_A [] s.heap.size q → z ≤ q := fun q h => by
    rcases h with ⟨k9, e9, h9⟩ | h9
    · simp at h9
    · exact Nat.le_trans hz h9
  generalize hAe : va_A [] s.heap.size = A at hAz ⊢
  have hA : ∀ q : Nat, s.heap.size ≤ q → A q := fun q h => by rw [← hAe]; exact Or.inr h
  have hS : va_S A s.heap s.heap [] := va_S.rf
  have hE : vk_S 11 lenS bytS adK adV A s s.heap := hE0.1.narrow hAz
  have hZ : va_Z "java/lang/String" "COMPACT_STRINGS" "Z" (.int 1) A s s.heap := hE0.2.1.narrow hAz
  have hZq : va_Zq "jdk/internal/util/Preconditions" "SIOOBE_FORMATTER" "Ljava/util/function/BiFunction;" A s s.heap := hE0.2.2.1.narrow hAz
  have hl := lv_entry ([.ref (adV i), .int (nI k)]) (n := 2) (Nat.le_of_ble_eq_true rfl)
  rw [lg_entry_eq]
  generalize (lg_sl ([.ref (adV i), .int (nI k)]) ++ List.replicate (2 - (lg_sl ([.ref (adV i), .int (nI k)])).length) Slot.unset).toArray = ls at hl ⊢
  have hl : lv_has ls 2 [(0, .ref (adV i)), (1, .int (nI k))] := hl
  have hL := lenS_ok i hi
  refine lv_iload_n hx hb dJ1_charAt_3b067_0 rfl (lv_at hl 1 rfl) ?_
  refine lv_aload_n hx hb dJ1_charAt_3b067_1 rfl (lv_at hl 0 rfl) ?_
  refine va_tlen (v := nI (lenS.getD i 0)) hx hb (hE.1 i hi).2.2.2 hS rfl dJ1_charAt_3b067_2 ?_
  have hFc : ∀ q : Nat, va_A [] s.heap.size q → A q := fun q h => by
    rcases h with ⟨k9, e9, h9⟩ | h9
    · simp at h9
    · exact hA q (Nat.le_trans hS.1 h9)
  refine va_callv (va_runS (As := [.int (nI k), .int (nI (lenS.getD i 0))]) (rest := []) ⟨hx, hb, hml, hown, hts⟩ (c_J0_checkIndex_df160 l adK adV z k (lenS.getD i 0) s.heap.size hk (by omega)) (va_cwS 2 hts (gT t_461 t_462 t_142 t_463) rfl rfl rfl (by decide +kernel) ⟨Nat.le_of_ble_eq_true rfl, Nat.le_of_ble_eq_true rfl⟩) ⟨jBlind, jGo hE0 hAz hS hz⟩ rfl rfl hl.1 rfl (lv_room (Nat.le_of_ble_eq_true rfl)) dJ1_charAt_3b067_3 ⟨Nat.le_of_ble_eq_true rfl, Nat.le_of_ble_eq_true rfl⟩) hS (fun q _ h => hFc q h) hFc (fun u t H1 locs ht hvm hw hB hz1 hk1 hS => ?_)
  refine lv_aload_n hx hb dJ1_charAt_3b067_6 rfl (lv_at hl 0 rfl) ?_
  refine lv_iload_n hx hb dJ1_charAt_3b067_7 rfl (lv_at hl 1 rfl) ?_
  refine va_tb (v := .int ((bytS.getD i []).getD k 0)) hx hb (hE.1 i hi).2.2.2 hS (vp_in_nI hk (by omega)) (by rw [nI_clamp (by omega)]) dJ1_charAt_3b067_8 ?_
  refine lv_sipush (v := 255) hx hb dJ1_charAt_3b067_9 (by decide) ?_
  refine lv_iand hx hb dJ1_charAt_3b067_12 ?_
  refine lv_i2c (v := chS i k) hx hb dJ1_charAt_3b067_13 rfl ?_
  exact W.zret (v := (chS i k)) hx hb hr (pk_nc _) (fun t ht hW => ⟨⟨(chS i k), (), rfl, rfl, trivial⟩, hS.F ht⟩) hS.2.2 dJ1_charAt_3b067_14
set_option maxHeartbeats 4000000 in
set_option maxRecDepth 100000 in
theorem c_J0_charAt_5068e (l : Launch) (adK adV : Nat → Nat) (z i k : Nat) (sz : Nat) (hi : i < 11) (hk : k < lenS.getD i 0) : Met l yJ0_charAt_5068e (.code yJ0_charAt_5068e cJ0_charAt_5068e 2 (some .char) :: WT) ({ frames := 6, cells := 0, slots := 0, locals := 500 }) (va_Pc [.ref (adK i), .int (nI k)] (jPre adK adV z sz)) (va_Qi (fun (r : Int32) (u : Unit) => r = chS i k) (fun _ _ => True) (va_A [] sz)) 0 0 (va_A [] sz) := by
  refine Met.ofW (cc := cJ0_charAt_5068e) (maxL := 2) (ret := (some .char)) (by decide) rfl ?_
  intro p e s m args below meth c s₁ B hml hv
  obtain ⟨rfl, hsz, hE0, hz⟩ := hv
  have hx := B.exec
  have hb := B.bytes
  have hr := B.returns
  have hts0 := atoms_spec (ws := .code yJ0_charAt_5068e cJ0_charAt_5068e 2 (some .char) :: WT) B.pre
  have hts : ∀ w ∈ WT, w.before _ s = true := fun w h => hts0 w (List.mem_cons_of_mem _ h)
  have hown : s.vm.findClass RJ0 = some m.cls := findClass_of_methodNamed B.named
  have hlocks := B.notSynchronized
  subst hsz
  have hAz : ∀ q : Nat, va_A [] s.heap.size q → z ≤ q := fun q h => by
    rcases h with ⟨k9, e9, h9⟩ | h9
    · simp at h9
    · exact Nat.le_trans hz h9
  generalize hAe : va_A [] s.heap.size = A at hAz ⊢
  have hA : ∀ q : Nat, s.heap.size ≤ q → A q := fun q h => by rw [← hAe]; exact Or.inr h
  have hS : va_S A s.heap s.heap [] := va_S.rf
  have hE : vk_S 11 lenS bytS adK adV A s s.heap := hE0.1.narrow hAz
  have hZ : va_Z "java/lang/String" "COMPACT_STRINGS" "Z" (.int 1) A s s.heap := hE0.2.1.narrow hAz
  have hZq : va_Zq "jdk/internal/util/Preconditions" "SIOOBE_FORMATTER" "Ljava/util/function/BiFunction;" A s s.heap := hE0.2.2.1.narrow hAz
  have hl := lv_entry ([.ref (adK i), .int (nI k)]) (n := 2) (Nat.le_of_ble_eq_true rfl)
  rw [lg_entry_eq]
  generalize (lg_sl ([.ref (adK i), .int (nI k)]) ++ List.replicate (2 - (lg_sl ([.ref (adK i), .int (nI k)])).length) Slot.unset).toArray = ls at hl ⊢
  have hl : lv_has ls 2 [(0, .ref (adK i)), (1, .int (nI k))] := hl
  refine lv_aload_n hx hb dJ0_charAt_5068e_0 rfl (lv_at hl 0 rfl) ?_
  have hFc : ∀ q : Nat, va_A [] s.heap.size q → A q := fun q h => by
    rcases h with ⟨k9, e9, h9⟩ | h9
    · simp at h9
    · exact hA q (Nat.le_trans hS.1 h9)
  refine va_calli (va_runV (As := []) (rest := []) ⟨hx, hb, hml, hown, hts⟩ (c_J0_isLatin1_aae02 l adK adV z i s.heap.size hi) (cwV 0 hts (gV t_454 t_455 t_456 t_142 t_457) rfl rfl rfl (by decide +kernel) ⟨Nat.le_of_ble_eq_true rfl, Nat.le_of_ble_eq_true rfl⟩) ⟨jBlind, vk_recv hE hi hS, jGo hE0 hAz hS hz⟩ rfl rfl hl.1 rfl (lv_room (Nat.le_of_ble_eq_true rfl)) dJ0_charAt_5068e_1 ⟨Nat.le_of_ble_eq_true rfl, Nat.le_of_ble_eq_true rfl⟩) hS (fun q _ h => hFc q h) hFc (fun r1 u t H1 locs ht hvm hw hB hz1 hk1 hS => ?_)
  refine lv_if_eq (tgt := 16) hx hb dJ0_charAt_5068e_4 (by decide) (fun c => absurd (hw.symm.trans c) (by decide)) (fun _ => ?_)
  refine lv_aload_n hx hb dJ0_charAt_5068e_7 rfl (lv_at hl 0 rfl) ?_
  refine vk_getf hx hb (hE.1 i hi).2.2.1 hS hown (hts _ t_2188) (fun _ h9 => h9) dJ0_charAt_5068e_8 ?_
  refine lv_iload_n hx hb dJ0_charAt_5068e_11 rfl (lv_at hl 1 rfl) ?_
  have hFc : ∀ q : Nat, va_A [] H1.size q → A q := fun q h => by
    rcases h with ⟨k9, e9, h9⟩ | h9
    · simp at h9
    · exact hA q (Nat.le_trans hS.1 h9)
  refine va_calli (va_runS (As := [.ref (adV i), .int (nI k)]) (rest := []) ⟨hx, hb, hml, hown, hts⟩ (c_J1_charAt_3b067 l adK adV z i k H1.size hi hk) (va_cwS 2 hts (gT t_458 t_459 t_143 t_460) rfl rfl rfl (by decide +kernel) ⟨Nat.le_of_ble_eq_true rfl, Nat.le_of_ble_eq_true rfl⟩) ⟨jBlind, jGo hE0 hAz hS hz⟩ rfl rfl hl.1 rfl (lv_room (Nat.le_of_ble_eq_true rfl)) dJ0_charAt_5068e_12 ⟨Nat.le_of_ble_eq_true rfl, Nat.le_of_ble_eq_true rfl⟩) hS (fun q _ h => hFc q h) hFc (fun r2 u t H1 locs ht hvm hw hB hz1 hk1 hS => ?_)
  exact W.zret (v := r2) hx hb hr (by rw [hw]; exact pk_nc _) (fun t ht hW => ⟨⟨r2, (), rfl, hw, trivial⟩, hS.F ht⟩) hS.2.2 dJ0_charAt_5068e_15
set_option maxHeartbeats 4000000 in
set_option maxRecDepth 100000 in
theorem c_J0_length_8abf5 (l : Launch) (adK adV : Nat → Nat) (z i : Nat) (sz : Nat) (hi : i < 11) : Met l yJ0_length_8abf5 (.code yJ0_length_8abf5 cJ0_length_8abf5 1 (some .int) :: WT) ({ frames := 6, cells := 0, slots := 0, locals := 500 }) (va_Pc [.ref (adK i)] (jPre adK adV z sz)) (va_Qi (fun (r : Int32) (u : Unit) => r = nI (lenS.getD i 0)) (fun _ _ => True) (va_A [] sz)) 0 0 (va_A [] sz) := by
  refine Met.ofW (cc := cJ0_length_8abf5) (maxL := 1) (ret := (some .int)) (by decide) rfl ?_
  intro p e s m args below meth c s₁ B hml hv
  obtain ⟨rfl, hsz, hE0, hz⟩ := hv
  have hx := B.exec
  have hb := B.bytes
  have hr := B.returns
  have hts0 := atoms_spec (ws := .code yJ0_length_8abf5 cJ0_length_8abf5 1 (some .int) :: WT) B.pre
  have hts : ∀ w ∈ WT, w.before _ s = true := fun w h => hts0 w (List.mem_cons_of_mem _ h)
  have hown : s.vm.findClass RJ0 = some m.cls := findClass_of_methodNamed B.named
  have hlocks := B.notSynchronized
  subst hsz
  have hAz : ∀ q : Nat, va_A [] s.heap.size q → z ≤ q := fun q h => by
    rcases h with ⟨k9, e9, h9⟩ | h9
    · simp at h9
    · exact Nat.le_trans hz h9
  generalize hAe : va_A [] s.heap.size = A at hAz ⊢
  have hA : ∀ q : Nat, s.heap.size ≤ q → A q := fun q h => by rw [← hAe]; exact Or.inr h
  have hS : va_S A s.heap s.heap [] := va_S.rf
  have hE : vk_S 11 lenS bytS adK adV A s s.heap := hE0.1.narrow hAz
  have hZ : va_Z "java/lang/String" "COMPACT_STRINGS" "Z" (.int 1) A s s.heap := hE0.2.1.narrow hAz
  have hZq : va_Zq "jdk/internal/util/Preconditions" "SIOOBE_FORMATTER" "Ljava/util/function/BiFunction;" A s s.heap := hE0.2.2.1.narrow hAz
  have hl := lv_entry ([.ref (adK i)]) (n := 1) (Nat.le_of_ble_eq_true rfl)
  rw [lg_entry_eq]
  generalize (lg_sl ([.ref (adK i)]) ++ List.replicate (1 - (lg_sl ([.ref (adK i)])).length) Slot.unset).toArray = ls at hl ⊢
  have hl : lv_has ls 1 [(0, .ref (adK i))] := hl
  have hL := lenS_ok i hi
  refine lv_aload_n hx hb dJ0_length_8abf5_0 rfl (lv_at hl 0 rfl) ?_
  refine vk_getf hx hb (hE.1 i hi).2.2.1 hS hown (hts _ t_2188) (fun _ h9 => h9) dJ0_length_8abf5_1 ?_
  refine va_tlen (v := nI (lenS.getD i 0)) hx hb (hE.1 i hi).2.2.2 hS rfl dJ0_length_8abf5_4 ?_
  refine lv_aload_n hx hb dJ0_length_8abf5_5 rfl (lv_at hl 0 rfl) ?_
  have hFc : ∀ q : Nat, va_A [] s.heap.size q → A q := fun q h => by
    rcases h with ⟨k9, e9, h9⟩ | h9
    · simp at h9
    · exact hA q (Nat.le_trans hS.1 h9)
  refine va_calli (va_runV (As := []) (rest := [.int (nI (lenS.getD i 0))]) ⟨hx, hb, hml, hown, hts⟩ (c_J0_coder_7d493 l adK adV z i s.heap.size hi) (cwV 0 hts (gV t_444 t_445 t_446 t_142 t_447) rfl rfl rfl (by decide +kernel) ⟨Nat.le_of_ble_eq_true rfl, Nat.le_of_ble_eq_true rfl⟩) ⟨jBlind, vk_recv hE hi hS, jGo hE0 hAz hS hz⟩ rfl rfl hl.1 rfl (lv_room (Nat.le_of_ble_eq_true rfl)) dJ0_length_8abf5_6 ⟨Nat.le_of_ble_eq_true rfl, Nat.le_of_ble_eq_true rfl⟩) hS (fun q _ h => hFc q h) hFc (fun r1 u t H1 locs ht hvm hw hB hz1 hk1 hS => ?_)
  refine lv_ishr hx hb dJ0_length_8abf5_9 ?_
  refine lv_topi (fun f9 e9 => ?_)
  exact W.iret (v := f9) hx hb hr (fun t ht hW => ⟨⟨f9, (), rfl, (by rw [e9, hw]; exact sc_shr0 (by omega)), trivial⟩, hS.F ht⟩) hS.2.2 dJ0_length_8abf5_10
set_option maxHeartbeats 4000000 in
set_option maxRecDepth 100000 in
theorem c_X7_spell_0 (l : Launch) (adK adV : Nat → Nat) (z : Nat) (sz : Nat) : Met l yX7_spell (.code yX7_spell cX7_spell 3 (some .int) :: WT) ({ frames := 8, cells := 0, slots := 0, locals := 700 }) (va_Pc [.ref (adK 0)] (jPre adK adV z sz)) (va_Qi (fun (r : Int32) (u : Unit) => r = 162899424) (fun _ _ => True) (va_A [] sz)) 0 0 (va_A [] sz) := by
  refine Met.ofW (cc := cX7_spell) (maxL := 3) (ret := (some .int)) (by decide) rfl ?_
  intro p e s m args below meth c s₁ B hml hv
  obtain ⟨rfl, hsz, hE0, hz⟩ := hv
  have hx := B.exec
  have hb := B.bytes
  have hr := B.returns
  have hts0 := atoms_spec (ws := .code yX7_spell cX7_spell 3 (some .int) :: WT) B.pre
  have hts : ∀ w ∈ WT, w.before _ s = true := fun w h => hts0 w (List.mem_cons_of_mem _ h)
  have hown : s.vm.findClass RX7 = some m.cls := findClass_of_methodNamed B.named
  have hlocks := B.notSynchronized
  subst hsz
  have hAz : ∀ q : Nat, va_A [] s.heap.size q → z ≤ q := fun q h => by
    rcases h with ⟨k9, e9, h9⟩ | h9
    · simp at h9
    · exact Nat.le_trans hz h9
  generalize hAe : va_A [] s.heap.size = A at hAz ⊢
  have hA : ∀ q : Nat, s.heap.size ≤ q → A q := fun q h => by rw [← hAe]; exact Or.inr h
  have hS : va_S A s.heap s.heap [] := va_S.rf
  have hE : vk_S 11 lenS bytS adK adV A s s.heap := hE0.1.narrow hAz
  have hZ : va_Z "java/lang/String" "COMPACT_STRINGS" "Z" (.int 1) A s s.heap := hE0.2.1.narrow hAz
  have hZq : va_Zq "jdk/internal/util/Preconditions" "SIOOBE_FORMATTER" "Ljava/util/function/BiFunction;" A s s.heap := hE0.2.2.1.narrow hAz
  have hl := lv_entry ([.ref (adK 0)]) (n := 3) (Nat.le_of_ble_eq_true rfl)
  rw [lg_entry_eq]
  generalize (lg_sl ([.ref (adK 0)]) ++ List.replicate (3 - (lg_sl ([.ref (adK 0)])).length) Slot.unset).toArray = ls at hl ⊢
  have hl : lv_has ls 3 [(0, .ref (adK 0))] := hl
  refine lv_iconst (v := 0) hx hb dX7_spell_0 (by decide) ?_
  refine lv_istore_n (lv' := [(1, .int 0), (0, .ref (adK 0))]) hx hb dX7_spell_1 rfl hl (by decide) rfl (fun ls hl => ?_)
  refine lv_iconst (v := 0) hx hb dX7_spell_2 (by decide) ?_
  refine lv_istore_n (lv' := [(2, .int 0), (1, .int 0), (0, .ref (adK 0))]) hx hb dX7_spell_3 rfl hl (by decide) rfl (fun ls hl => ?_)
  refine lv_iload_n hx hb dX7_spell_4 rfl (lv_at hl 0 rfl) ?_
  refine lv_bipush (v := 6) hx hb dX7_spell_5 (by decide) ?_
  refine lv_icmp_ge (tgt := 44) hx hb dX7_spell_7 (by decide) (fun c => absurd c (by decide)) (fun _ => ?_)
  refine lv_iload_n hx hb dX7_spell_10 rfl (lv_at hl 1 rfl) ?_
  refine lv_bipush (v := 27) hx hb dX7_spell_11 (by decide) ?_
  refine k_imul (v := 0) hx hb (by decide) dX7_spell_13 ?_
  refine lv_iload_n hx hb dX7_spell_14 rfl (lv_at hl 0 rfl) ?_
  refine lv_aload_n hx hb dX7_spell_15 rfl (lv_at hl 2 rfl) ?_
  have hFc : ∀ q : Nat, va_A [] s.heap.size q → A q := fun q h => by
    rcases h with ⟨k9, e9, h9⟩ | h9
    · simp at h9
    · exact hA q (Nat.le_trans hS.1 h9)
  refine va_calli (va_runV (As := []) (rest := [.int 0, .int 0]) ⟨hx, hb, hml, hown, hts⟩ (c_J0_length_8abf5 l adK adV z 0 s.heap.size (by decide)) (cwV 0 hts (gV t_440 t_441 t_442 t_142 t_443) rfl rfl rfl (by decide +kernel) ⟨Nat.le_of_ble_eq_true rfl, Nat.le_of_ble_eq_true rfl⟩) ⟨jBlind, vk_recv (i := 0) hE (by decide) hS, jGo hE0 hAz hS hz⟩ rfl rfl hl.1 rfl (lv_room (Nat.le_of_ble_eq_true rfl)) dX7_spell_16 ⟨Nat.le_of_ble_eq_true rfl, Nat.le_of_ble_eq_true rfl⟩) hS (fun q _ h => hFc q h) hFc (fun r9 u t H1 locs ht hvm hw hB hz1 hk1 hS => ?_)
  obtain rfl : r9 = 4 := hw.trans (by decide)
  refine lv_icmp_ge (tgt := 35) hx hb dX7_spell_19 (by decide) (fun c => absurd c (by decide)) (fun _ => ?_)
  refine lv_aload_n hx hb dX7_spell_22 rfl (lv_at hl 2 rfl) ?_
  refine lv_iload_n hx hb dX7_spell_23 rfl (lv_at hl 0 rfl) ?_
  have hFc : ∀ q : Nat, va_A [] H1.size q → A q := fun q h => by
    rcases h with ⟨k9, e9, h9⟩ | h9
    · simp at h9
    · exact hA q (Nat.le_trans hS.1 h9)
  refine va_calli (va_runV (As := [.int (nI 0)]) (rest := [.int 0]) ⟨hx, hb, hml, hown, hts⟩ (c_J0_charAt_5068e l adK adV z 0 0 H1.size (by decide) (by decide)) (cwV 1 hts (gV t_450 t_451 t_452 t_142 t_453) rfl rfl rfl (by decide +kernel) ⟨Nat.le_of_ble_eq_true rfl, Nat.le_of_ble_eq_true rfl⟩) ⟨jBlind, vk_recv (i := 0) hE (by decide) hS, jGo hE0 hAz hS hz⟩ rfl rfl hl.1 rfl (lv_room (Nat.le_of_ble_eq_true rfl)) dX7_spell_24 ⟨Nat.le_of_ble_eq_true rfl, Nat.le_of_ble_eq_true rfl⟩) hS (fun q _ h => hFc q h) hFc (fun r9 u t H1 locs ht hvm hw hB hz1 hk1 hS => ?_)
  obtain rfl : r9 = 107 := hw.trans (by decide)
  refine lv_bipush (v := 97) hx hb dX7_spell_27 (by decide) ?_
  refine k_isub (v := 10) hx hb (by decide) dX7_spell_29 ?_
  refine lv_iconst (v := 1) hx hb dX7_spell_30 (by decide) ?_
  refine k_iadd (v := 11) hx hb (by decide) dX7_spell_31 ?_
  refine lv_goto (tgt := 36) hx hb dX7_spell_32 (by decide) ?_
  refine k_iadd (v := 11) hx hb (by decide) dX7_spell_36 ?_
  refine lv_istore_n (lv' := [(1, .int 11), (2, .int 0), (0, .ref (adK 0))]) hx hb dX7_spell_37 rfl hl (by decide) rfl (fun ls hl => ?_)
  refine lv_iinc (v := 1) (lv' := [(2, .int 1), (1, .int 11), (0, .ref (adK 0))]) hx hb dX7_spell_38 hl (k := 1) rfl (by decide) (by decide) rfl (fun ls hl => ?_)
  refine lv_goto (tgt := 4) hx hb dX7_spell_41 (by decide) ?_
  refine lv_iload_n hx hb dX7_spell_4 rfl (lv_at hl 0 rfl) ?_
  refine lv_bipush (v := 6) hx hb dX7_spell_5 (by decide) ?_
  refine lv_icmp_ge (tgt := 44) hx hb dX7_spell_7 (by decide) (fun c => absurd c (by decide)) (fun _ => ?_)
  refine lv_iload_n hx hb dX7_spell_10 rfl (lv_at hl 1 rfl) ?_
  refine lv_bipush (v := 27) hx hb dX7_spell_11 (by decide) ?_
  refine k_imul (v := 297) hx hb (by decide) dX7_spell_13 ?_
  refine lv_iload_n hx hb dX7_spell_14 rfl (lv_at hl 0 rfl) ?_
  refine lv_aload_n hx hb dX7_spell_15 rfl (lv_at hl 2 rfl) ?_
  have hFc : ∀ q : Nat, va_A [] H1.size q → A q := fun q h => by
    rcases h with ⟨k9, e9, h9⟩ | h9
    · simp at h9
    · exact hA q (Nat.le_trans hS.1 h9)
  refine va_calli (va_runV (As := []) (rest := [.int 1, .int 297]) ⟨hx, hb, hml, hown, hts⟩ (c_J0_length_8abf5 l adK adV z 0 H1.size (by decide)) (cwV 0 hts (gV t_440 t_441 t_442 t_142 t_443) rfl rfl rfl (by decide +kernel) ⟨Nat.le_of_ble_eq_true rfl, Nat.le_of_ble_eq_true rfl⟩) ⟨jBlind, vk_recv (i := 0) hE (by decide) hS, jGo hE0 hAz hS hz⟩ rfl rfl hl.1 rfl (lv_room (Nat.le_of_ble_eq_true rfl)) dX7_spell_16 ⟨Nat.le_of_ble_eq_true rfl, Nat.le_of_ble_eq_true rfl⟩) hS (fun q _ h => hFc q h) hFc (fun r9 u t H1 locs ht hvm hw hB hz1 hk1 hS => ?_)
  obtain rfl : r9 = 4 := hw.trans (by decide)
  refine lv_icmp_ge (tgt := 35) hx hb dX7_spell_19 (by decide) (fun c => absurd c (by decide)) (fun _ => ?_)
  refine lv_aload_n hx hb dX7_spell_22 rfl (lv_at hl 2 rfl) ?_
  refine lv_iload_n hx hb dX7_spell_23 rfl (lv_at hl 0 rfl) ?_
  have hFc : ∀ q : Nat, va_A [] H1.size q → A q := fun q h => by
    rcases h with ⟨k9, e9, h9⟩ | h9
    · simp at h9
    · exact hA q (Nat.le_trans hS.1 h9)
  refine va_calli (va_runV (As := [.int (nI 1)]) (rest := [.int 297]) ⟨hx, hb, hml, hown, hts⟩ (c_J0_charAt_5068e l adK adV z 0 1 H1.size (by decide) (by decide)) (cwV 1 hts (gV t_450 t_451 t_452 t_142 t_453) rfl rfl rfl (by decide +kernel) ⟨Nat.le_of_ble_eq_true rfl, Nat.le_of_ble_eq_true rfl⟩) ⟨jBlind, vk_recv (i := 0) hE (by decide) hS, jGo hE0 hAz hS hz⟩ rfl rfl hl.1 rfl (lv_room (Nat.le_of_ble_eq_true rfl)) dX7_spell_24 ⟨Nat.le_of_ble_eq_true rfl, Nat.le_of_ble_eq_true rfl⟩) hS (fun q _ h => hFc q h) hFc (fun r9 u t H1 locs ht hvm hw hB hz1 hk1 hS => ?_)
  obtain rfl : r9 = 105 := hw.trans (by decide)
  refine lv_bipush (v := 97) hx hb dX7_spell_27 (by decide) ?_
  refine k_isub (v := 8) hx hb (by decide) dX7_spell_29 ?_
  refine lv_iconst (v := 1) hx hb dX7_spell_30 (by decide) ?_
  refine k_iadd (v := 9) hx hb (by decide) dX7_spell_31 ?_
  refine lv_goto (tgt := 36) hx hb dX7_spell_32 (by decide) ?_
  refine k_iadd (v := 306) hx hb (by decide) dX7_spell_36 ?_
  refine lv_istore_n (lv' := [(1, .int 306), (2, .int 1), (0, .ref (adK 0))]) hx hb dX7_spell_37 rfl hl (by decide) rfl (fun ls hl => ?_)
  refine lv_iinc (v := 2) (lv' := [(2, .int 2), (1, .int 306), (0, .ref (adK 0))]) hx hb dX7_spell_38 hl (k := 1) rfl (by decide) (by decide) rfl (fun ls hl => ?_)
  refine lv_goto (tgt := 4) hx hb dX7_spell_41 (by decide) ?_
  refine lv_iload_n hx hb dX7_spell_4 rfl (lv_at hl 0 rfl) ?_
  refine lv_bipush (v := 6) hx hb dX7_spell_5 (by decide) ?_
  refine lv_icmp_ge (tgt := 44) hx hb dX7_spell_7 (by decide) (fun c => absurd c (by decide)) (fun _ => ?_)
  refine lv_iload_n hx hb dX7_spell_10 rfl (lv_at hl 1 rfl) ?_
  refine lv_bipush (v := 27) hx hb dX7_spell_11 (by decide) ?_
  refine k_imul (v := 8262) hx hb (by decide) dX7_spell_13 ?_
  refine lv_iload_n hx hb dX7_spell_14 rfl (lv_at hl 0 rfl) ?_
  refine lv_aload_n hx hb dX7_spell_15 rfl (lv_at hl 2 rfl) ?_
  have hFc : ∀ q : Nat, va_A [] H1.size q → A q := fun q h => by
    rcases h with ⟨k9, e9, h9⟩ | h9
    · simp at h9
    · exact hA q (Nat.le_trans hS.1 h9)
  refine va_calli (va_runV (As := []) (rest := [.int 2, .int 8262]) ⟨hx, hb, hml, hown, hts⟩ (c_J0_length_8abf5 l adK adV z 0 H1.size (by decide)) (cwV 0 hts (gV t_440 t_441 t_442 t_142 t_443) rfl rfl rfl (by decide +kernel) ⟨Nat.le_of_ble_eq_true rfl, Nat.le_of_ble_eq_true rfl⟩) ⟨jBlind, vk_recv (i := 0) hE (by decide) hS, jGo hE0 hAz hS hz⟩ rfl rfl hl.1 rfl (lv_room (Nat.le_of_ble_eq_true rfl)) dX7_spell_16 ⟨Nat.le_of_ble_eq_true rfl, Nat.le_of_ble_eq_true rfl⟩) hS (fun q _ h => hFc q h) hFc (fun r9 u t H1 locs ht hvm hw hB hz1 hk1 hS => ?_)
  obtain rfl : r9 = 4 := hw.trans (by decide)
  refine lv_icmp_ge (tgt := 35) hx hb dX7_spell_19 (by decide) (fun c => absurd c (by decide)) (fun _ => ?_)
  refine lv_aload_n hx hb dX7_spell_22 rfl (lv_at hl 2 rfl) ?_
  refine lv_iload_n hx hb dX7_spell_23 rfl (lv_at hl 0 rfl) ?_
  have hFc : ∀ q : Nat, va_A [] H1.size q → A q := fun q h => by
    rcases h with ⟨k9, e9, h9⟩ | h9
    · simp at h9
    · exact hA q (Nat.le_trans hS.1 h9)
  refine va_calli (va_runV (As := [.int (nI 2)]) (rest := [.int 8262]) ⟨hx, hb, hml, hown, hts⟩ (c_J0_charAt_5068e l adK adV z 0 2 H1.size (by decide) (by decide)) (cwV 1 hts (gV t_450 t_451 t_452 t_142 t_453) rfl rfl rfl (by decide +kernel) ⟨Nat.le_of_ble_eq_true rfl, Nat.le_of_ble_eq_true rfl⟩) ⟨jBlind, vk_recv (i := 0) hE (by decide) hS, jGo hE0 hAz hS hz⟩ rfl rfl hl.1 rfl (lv_room (Nat.le_of_ble_eq_true rfl)) dX7_spell_24 ⟨Nat.le_of_ble_eq_true rfl, Nat.le_of_ble_eq_true rfl⟩) hS (fun q _ h => hFc q h) hFc (fun r9 u t H1 locs ht hvm hw hB hz1 hk1 hS => ?_)
  obtain rfl : r9 = 110 := hw.trans (by decide)
  refine lv_bipush (v := 97) hx hb dX7_spell_27 (by decide) ?_
  refine k_isub (v := 13) hx hb (by decide) dX7_spell_29 ?_
  refine lv_iconst (v := 1) hx hb dX7_spell_30 (by decide) ?_
  refine k_iadd (v := 14) hx hb (by decide) dX7_spell_31 ?_
  refine lv_goto (tgt := 36) hx hb dX7_spell_32 (by decide) ?_
  refine k_iadd (v := 8276) hx hb (by decide) dX7_spell_36 ?_
  refine lv_istore_n (lv' := [(1, .int 8276), (2, .int 2), (0, .ref (adK 0))]) hx hb dX7_spell_37 rfl hl (by decide) rfl (fun ls hl => ?_)
  refine lv_iinc (v := 3) (lv' := [(2, .int 3), (1, .int 8276), (0, .ref (adK 0))]) hx hb dX7_spell_38 hl (k := 1) rfl (by decide) (by decide) rfl (fun ls hl => ?_)
  refine lv_goto (tgt := 4) hx hb dX7_spell_41 (by decide) ?_
  refine lv_iload_n hx hb dX7_spell_4 rfl (lv_at hl 0 rfl) ?_
  refine lv_bipush (v := 6) hx hb dX7_spell_5 (by decide) ?_
  refine lv_icmp_ge (tgt := 44) hx hb dX7_spell_7 (by decide) (fun c => absurd c (by decide)) (fun _ => ?_)
  refine lv_iload_n hx hb dX7_spell_10 rfl (lv_at hl 1 rfl) ?_
  refine lv_bipush (v := 27) hx hb dX7_spell_11 (by decide) ?_
  refine k_imul (v := 223452) hx hb (by decide) dX7_spell_13 ?_
  refine lv_iload_n hx hb dX7_spell_14 rfl (lv_at hl 0 rfl) ?_
  refine lv_aload_n hx hb dX7_spell_15 rfl (lv_at hl 2 rfl) ?_
  have hFc : ∀ q : Nat, va_A [] H1.size q → A q := fun q h => by
    rcases h with ⟨k9, e9, h9⟩ | h9
    · simp at h9
    · exact hA q (Nat.le_trans hS.1 h9)
  refine va_calli (va_runV (As := []) (rest := [.int 3, .int 223452]) ⟨hx, hb, hml, hown, hts⟩ (c_J0_length_8abf5 l adK adV z 0 H1.size (by decide)) (cwV 0 hts (gV t_440 t_441 t_442 t_142 t_443) rfl rfl rfl (by decide +kernel) ⟨Nat.le_of_ble_eq_true rfl, Nat.le_of_ble_eq_true rfl⟩) ⟨jBlind, vk_recv (i := 0) hE (by decide) hS, jGo hE0 hAz hS hz⟩ rfl rfl hl.1 rfl (lv_room (Nat.le_of_ble_eq_true rfl)) dX7_spell_16 ⟨Nat.le_of_ble_eq_true rfl, Nat.le_of_ble_eq_true rfl⟩) hS (fun q _ h => hFc q h) hFc (fun r9 u t H1 locs ht hvm hw hB hz1 hk1 hS => ?_)
  obtain rfl : r9 = 4 := hw.trans (by decide)
  refine lv_icmp_ge (tgt := 35) hx hb dX7_spell_19 (by decide) (fun c => absurd c (by decide)) (fun _ => ?_)
  refine lv_aload_n hx hb dX7_spell_22 rfl (lv_at hl 2 rfl) ?_
  refine lv_iload_n hx hb dX7_spell_23 rfl (lv_at hl 0 rfl) ?_
  have hFc : ∀ q : Nat, va_A [] H1.size q → A q := fun q h => by
    rcases h with ⟨k9, e9, h9⟩ | h9
    · simp at h9
    · exact hA q (Nat.le_trans hS.1 h9)
  refine va_calli (va_runV (As := [.int (nI 3)]) (rest := [.int 223452]) ⟨hx, hb, hml, hown, hts⟩ (c_J0_charAt_5068e l adK adV z 0 3 H1.size (by decide) (by decide)) (cwV 1 hts (gV t_450 t_451 t_452 t_142 t_453) rfl rfl rfl (by decide +kernel) ⟨Nat.le_of_ble_eq_true rfl, Nat.le_of_ble_eq_true rfl⟩) ⟨jBlind, vk_recv (i := 0) hE (by decide) hS, jGo hE0 hAz hS hz⟩ rfl rfl hl.1 rfl (lv_room (Nat.le_of_ble_eq_true rfl)) dX7_spell_24 ⟨Nat.le_of_ble_eq_true rfl, Nat.le_of_ble_eq_true rfl⟩) hS (fun q _ h => hFc q h) hFc (fun r9 u t H1 locs ht hvm hw hB hz1 hk1 hS => ?_)
  obtain rfl : r9 = 100 := hw.trans (by decide)
  refine lv_bipush (v := 97) hx hb dX7_spell_27 (by decide) ?_
  refine k_isub (v := 3) hx hb (by decide) dX7_spell_29 ?_
  refine lv_iconst (v := 1) hx hb dX7_spell_30 (by decide) ?_
  refine k_iadd (v := 4) hx hb (by decide) dX7_spell_31 ?_
  refine lv_goto (tgt := 36) hx hb dX7_spell_32 (by decide) ?_
  refine k_iadd (v := 223456) hx hb (by decide) dX7_spell_36 ?_
  refine lv_istore_n (lv' := [(1, .int 223456), (2, .int 3), (0, .ref (adK 0))]) hx hb dX7_spell_37 rfl hl (by decide) rfl (fun ls hl => ?_)
  refine lv_iinc (v := 4) (lv' := [(2, .int 4), (1, .int 223456), (0, .ref (adK 0))]) hx hb dX7_spell_38 hl (k := 1) rfl (by decide) (by decide) rfl (fun ls hl => ?_)
  refine lv_goto (tgt := 4) hx hb dX7_spell_41 (by decide) ?_
  refine lv_iload_n hx hb dX7_spell_4 rfl (lv_at hl 0 rfl) ?_
  refine lv_bipush (v := 6) hx hb dX7_spell_5 (by decide) ?_
  refine lv_icmp_ge (tgt := 44) hx hb dX7_spell_7 (by decide) (fun c => absurd c (by decide)) (fun _ => ?_)
  refine lv_iload_n hx hb dX7_spell_10 rfl (lv_at hl 1 rfl) ?_
  refine lv_bipush (v := 27) hx hb dX7_spell_11 (by decide) ?_
  refine k_imul (v := 6033312) hx hb (by decide) dX7_spell_13 ?_
  refine lv_iload_n hx hb dX7_spell_14 rfl (lv_at hl 0 rfl) ?_
  refine lv_aload_n hx hb dX7_spell_15 rfl (lv_at hl 2 rfl) ?_
  have hFc : ∀ q : Nat, va_A [] H1.size q → A q := fun q h => by
    rcases h with ⟨k9, e9, h9⟩ | h9
    · simp at h9
    · exact hA q (Nat.le_trans hS.1 h9)
  refine va_calli (va_runV (As := []) (rest := [.int 4, .int 6033312]) ⟨hx, hb, hml, hown, hts⟩ (c_J0_length_8abf5 l adK adV z 0 H1.size (by decide)) (cwV 0 hts (gV t_440 t_441 t_442 t_142 t_443) rfl rfl rfl (by decide +kernel) ⟨Nat.le_of_ble_eq_true rfl, Nat.le_of_ble_eq_true rfl⟩) ⟨jBlind, vk_recv (i := 0) hE (by decide) hS, jGo hE0 hAz hS hz⟩ rfl rfl hl.1 rfl (lv_room (Nat.le_of_ble_eq_true rfl)) dX7_spell_16 ⟨Nat.le_of_ble_eq_true rfl, Nat.le_of_ble_eq_true rfl⟩) hS (fun q _ h => hFc q h) hFc (fun r9 u t H1 locs ht hvm hw hB hz1 hk1 hS => ?_)
  obtain rfl : r9 = 4 := hw.trans (by decide)
  refine lv_icmp_ge (tgt := 35) hx hb dX7_spell_19 (by decide) (fun _ => ?_) (fun c => absurd (by decide) c)
  refine lv_iconst (v := 0) hx hb dX7_spell_35 (by decide) ?_
  refine k_iadd (v := 6033312) hx hb (by decide) dX7_spell_36 ?_
  refine lv_istore_n (lv' := [(1, .int 6033312), (2, .int 4), (0, .ref (adK 0))]) hx hb dX7_spell_37 rfl hl (by decide) rfl (fun ls hl => ?_)
  refine lv_iinc (v := 5) (lv' := [(2, .int 5), (1, .int 6033312), (0, .ref (adK 0))]) hx hb dX7_spell_38 hl (k := 1) rfl (by decide) (by decide) rfl (fun ls hl => ?_)
  refine lv_goto (tgt := 4) hx hb dX7_spell_41 (by decide) ?_
  refine lv_iload_n hx hb dX7_spell_4 rfl (lv_at hl 0 rfl) ?_
  refine lv_bipush (v := 6) hx hb dX7_spell_5 (by decide) ?_
  refine lv_icmp_ge (tgt := 44) hx hb dX7_spell_7 (by decide) (fun c => absurd c (by decide)) (fun _ => ?_)
  refine lv_iload_n hx hb dX7_spell_10 rfl (lv_at hl 1 rfl) ?_
  refine lv_bipush (v := 27) hx hb dX7_spell_11 (by decide) ?_
  refine k_imul (v := 162899424) hx hb (by decide) dX7_spell_13 ?_
  refine lv_iload_n hx hb dX7_spell_14 rfl (lv_at hl 0 rfl) ?_
  refine lv_aload_n hx hb dX7_spell_15 rfl (lv_at hl 2 rfl) ?_
  have hFc : ∀ q : Nat, va_A [] H1.size q → A q := fun q h => by
    rcases h with ⟨k9, e9, h9⟩ | h9
    · simp at h9
    · exact hA q (Nat.le_trans hS.1 h9)
  refine va_calli (va_runV (As := []) (rest := [.int 5, .int 162899424]) ⟨hx, hb, hml, hown, hts⟩ (c_J0_length_8abf5 l adK adV z 0 H1.size (by decide)) (cwV 0 hts (gV t_440 t_441 t_442 t_142 t_443) rfl rfl rfl (by decide +kernel) ⟨Nat.le_of_ble_eq_true rfl, Nat.le_of_ble_eq_true rfl⟩) ⟨jBlind, vk_recv (i := 0) hE (by decide) hS, jGo hE0 hAz hS hz⟩ rfl rfl hl.1 rfl (lv_room (Nat.le_of_ble_eq_true rfl)) dX7_spell_16 ⟨Nat.le_of_ble_eq_true rfl, Nat.le_of_ble_eq_true rfl⟩) hS (fun q _ h => hFc q h) hFc (fun r9 u t H1 locs ht hvm hw hB hz1 hk1 hS => ?_)
  obtain rfl : r9 = 4 := hw.trans (by decide)
  refine lv_icmp_ge (tgt := 35) hx hb dX7_spell_19 (by decide) (fun _ => ?_) (fun c => absurd (by decide) c)
  refine lv_iconst (v := 0) hx hb dX7_spell_35 (by decide) ?_
  refine k_iadd (v := 162899424) hx hb (by decide) dX7_spell_36 ?_
  refine lv_istore_n (lv' := [(1, .int 162899424), (2, .int 5), (0, .ref (adK 0))]) hx hb dX7_spell_37 rfl hl (by decide) rfl (fun ls hl => ?_)
  refine lv_iinc (v := 6) (lv' := [(2, .int 6), (1, .int 162899424), (0, .ref (adK 0))]) hx hb dX7_spell_38 hl (k := 1) rfl (by decide) (by decide) rfl (fun ls hl => ?_)
  refine lv_goto (tgt := 4) hx hb dX7_spell_41 (by decide) ?_
  refine lv_iload_n hx hb dX7_spell_4 rfl (lv_at hl 0 rfl) ?_
  refine lv_bipush (v := 6) hx hb dX7_spell_5 (by decide) ?_
  refine lv_icmp_ge (tgt := 44) hx hb dX7_spell_7 (by decide) (fun _ => ?_) (fun c => absurd (by decide) c)
  refine lv_iload_n hx hb dX7_spell_44 rfl (lv_at hl 1 rfl) ?_
  exact W.iret (v := 162899424) hx hb hr (fun t ht hW => ⟨⟨162899424, (), rfl, rfl, trivial⟩, hS.F ht⟩) hS.2.2 dX7_spell_45
set_option maxHeartbeats 4000000 in
set_option maxRecDepth 100000 in
theorem c_X7_spell_1 (l : Launch) (adK adV : Nat → Nat) (z : Nat) (sz : Nat) : Met l yX7_spell (.code yX7_spell cX7_spell 3 (some .int) :: WT) ({ frames := 8, cells := 0, slots := 0, locals := 700 }) (va_Pc [.ref (adK 1)] (jPre adK adV z sz)) (va_Qi (fun (r : Int32) (u : Unit) => r = 51293898) (fun _ _ => True) (va_A [] sz)) 0 0 (va_A [] sz) := by
  refine Met.ofW (cc := cX7_spell) (maxL := 3) (ret := (some .int)) (by decide) rfl ?_
  intro p e s m args below meth c s₁ B hml hv
  obtain ⟨rfl, hsz, hE0, hz⟩ := hv
  have hx := B.exec
  have hb := B.bytes
  have hr := B.returns
  have hts0 := atoms_spec (ws := .code yX7_spell cX7_spell 3 (some .int) :: WT) B.pre
  have hts : ∀ w ∈ WT, w.before _ s = true := fun w h => hts0 w (List.mem_cons_of_mem _ h)
  have hown : s.vm.findClass RX7 = some m.cls := findClass_of_methodNamed B.named
  have hlocks := B.notSynchronized
  subst hsz
  have hAz : ∀ q : Nat, va_A [] s.heap.size q → z ≤ q := fun q h => by
    rcases h with ⟨k9, e9, h9⟩ | h9
    · simp at h9
    · exact Nat.le_trans hz h9
  generalize hAe : va_A [] s.heap.size = A at hAz ⊢
  have hA : ∀ q : Nat, s.heap.size ≤ q → A q := fun q h => by rw [← hAe]; exact Or.inr h
  have hS : va_S A s.heap s.heap [] := va_S.rf
  have hE : vk_S 11 lenS bytS adK adV A s s.heap := hE0.1.narrow hAz
  have hZ : va_Z "java/lang/String" "COMPACT_STRINGS" "Z" (.int 1) A s s.heap := hE0.2.1.narrow hAz
  have hZq : va_Zq "jdk/internal/util/Preconditions" "SIOOBE_FORMATTER" "Ljava/util/function/BiFunction;" A s s.heap := hE0.2.2.1.narrow hAz
  have hl := lv_entry ([.ref (adK 1)]) (n := 3) (Nat.le_of_ble_eq_true rfl)
  rw [lg_entry_eq]
  generalize (lg_sl ([.ref (adK 1)]) ++ List.replicate (3 - (lg_sl ([.ref (adK 1)])).length) Slot.unset).toArray = ls at hl ⊢
  have hl : lv_has ls 3 [(0, .ref (adK 1))] := hl
  refine lv_iconst (v := 0) hx hb dX7_spell_0 (by decide) ?_
  refine lv_istore_n (lv' := [(1, .int 0), (0, .ref (adK 1))]) hx hb dX7_spell_1 rfl hl (by decide) rfl (fun ls hl => ?_)
  refine lv_iconst (v := 0) hx hb dX7_spell_2 (by decide) ?_
  refine lv_istore_n (lv' := [(2, .int 0), (1, .int 0), (0, .ref (adK 1))]) hx hb dX7_spell_3 rfl hl (by decide) rfl (fun ls hl => ?_)
  refine lv_iload_n hx hb dX7_spell_4 rfl (lv_at hl 0 rfl) ?_
  refine lv_bipush (v := 6) hx hb dX7_spell_5 (by decide) ?_
  refine lv_icmp_ge (tgt := 44) hx hb dX7_spell_7 (by decide) (fun c => absurd c (by decide)) (fun _ => ?_)
  refine lv_iload_n hx hb dX7_spell_10 rfl (lv_at hl 1 rfl) ?_
  refine lv_bipush (v := 27) hx hb dX7_spell_11 (by decide) ?_
  refine k_imul (v := 0) hx hb (by decide) dX7_spell_13 ?_
  refine lv_iload_n hx hb dX7_spell_14 rfl (lv_at hl 0 rfl) ?_
  refine lv_aload_n hx hb dX7_spell_15 rfl (lv_at hl 2 rfl) ?_
  have hFc : ∀ q : Nat, va_A [] s.heap.size q → A q := fun q h => by
    rcases h with ⟨k9, e9, h9⟩ | h9
    · simp at h9
    · exact hA q (Nat.le_trans hS.1 h9)
  refine va_calli (va_runV (As := []) (rest := [.int 0, .int 0]) ⟨hx, hb, hml, hown, hts⟩ (c_J0_length_8abf5 l adK adV z 1 s.heap.size (by decide)) (cwV 0 hts (gV t_440 t_441 t_442 t_142 t_443) rfl rfl rfl (by decide +kernel) ⟨Nat.le_of_ble_eq_true rfl, Nat.le_of_ble_eq_true rfl⟩) ⟨jBlind, vk_recv (i := 1) hE (by decide) hS, jGo hE0 hAz hS hz⟩ rfl rfl hl.1 rfl (lv_room (Nat.le_of_ble_eq_true rfl)) dX7_spell_16 ⟨Nat.le_of_ble_eq_true rfl, Nat.le_of_ble_eq_true rfl⟩) hS (fun q _ h => hFc q h) hFc (fun r9 u t H1 locs ht hvm hw hB hz1 hk1 hS => ?_)
  obtain rfl : r9 = 3 := hw.trans (by decide)
  refine lv_icmp_ge (tgt := 35) hx hb dX7_spell_19 (by decide) (fun c => absurd c (by decide)) (fun _ => ?_)
  refine lv_aload_n hx hb dX7_spell_22 rfl (lv_at hl 2 rfl) ?_
  refine lv_iload_n hx hb dX7_spell_23 rfl (lv_at hl 0 rfl) ?_
  have hFc : ∀ q : Nat, va_A [] H1.size q → A q := fun q h => by
    rcases h with ⟨k9, e9, h9⟩ | h9
    · simp at h9
    · exact hA q (Nat.le_trans hS.1 h9)
  refine va_calli (va_runV (As := [.int (nI 0)]) (rest := [.int 0]) ⟨hx, hb, hml, hown, hts⟩ (c_J0_charAt_5068e l adK adV z 1 0 H1.size (by decide) (by decide)) (cwV 1 hts (gV t_450 t_451 t_452 t_142 t_453) rfl rfl rfl (by decide +kernel) ⟨Nat.le_of_ble_eq_true rfl, Nat.le_of_ble_eq_true rfl⟩) ⟨jBlind, vk_recv (i := 1) hE (by decide) hS, jGo hE0 hAz hS hz⟩ rfl rfl hl.1 rfl (lv_room (Nat.le_of_ble_eq_true rfl)) dX7_spell_24 ⟨Nat.le_of_ble_eq_true rfl, Nat.le_of_ble_eq_true rfl⟩) hS (fun q _ h => hFc q h) hFc (fun r9 u t H1 locs ht hvm hw hB hz1 hk1 hS => ?_)
  obtain rfl : r9 = 99 := hw.trans (by decide)
  refine lv_bipush (v := 97) hx hb dX7_spell_27 (by decide) ?_
  refine k_isub (v := 2) hx hb (by decide) dX7_spell_29 ?_
  refine lv_iconst (v := 1) hx hb dX7_spell_30 (by decide) ?_
  refine k_iadd (v := 3) hx hb (by decide) dX7_spell_31 ?_
  refine lv_goto (tgt := 36) hx hb dX7_spell_32 (by decide) ?_
  refine k_iadd (v := 3) hx hb (by decide) dX7_spell_36 ?_
  refine lv_istore_n (lv' := [(1, .int 3), (2, .int 0), (0, .ref (adK 1))]) hx hb dX7_spell_37 rfl hl (by decide) rfl (fun ls hl => ?_)
  refine lv_iinc (v := 1) (lv' := [(2, .int 1), (1, .int 3), (0, .ref (adK 1))]) hx hb dX7_spell_38 hl (k := 1) rfl (by decide) (by decide) rfl (fun ls hl => ?_)
  refine lv_goto (tgt := 4) hx hb dX7_spell_41 (by decide) ?_
  refine lv_iload_n hx hb dX7_spell_4 rfl (lv_at hl 0 rfl) ?_
  refine lv_bipush (v := 6) hx hb dX7_spell_5 (by decide) ?_
  refine lv_icmp_ge (tgt := 44) hx hb dX7_spell_7 (by decide) (fun c => absurd c (by decide)) (fun _ => ?_)
  refine lv_iload_n hx hb dX7_spell_10 rfl (lv_at hl 1 rfl) ?_
  refine lv_bipush (v := 27) hx hb dX7_spell_11 (by decide) ?_
  refine k_imul (v := 81) hx hb (by decide) dX7_spell_13 ?_
  refine lv_iload_n hx hb dX7_spell_14 rfl (lv_at hl 0 rfl) ?_
  refine lv_aload_n hx hb dX7_spell_15 rfl (lv_at hl 2 rfl) ?_
  have hFc : ∀ q : Nat, va_A [] H1.size q → A q := fun q h => by
    rcases h with ⟨k9, e9, h9⟩ | h9
    · simp at h9
    · exact hA q (Nat.le_trans hS.1 h9)
  refine va_calli (va_runV (As := []) (rest := [.int 1, .int 81]) ⟨hx, hb, hml, hown, hts⟩ (c_J0_length_8abf5 l adK adV z 1 H1.size (by decide)) (cwV 0 hts (gV t_440 t_441 t_442 t_142 t_443) rfl rfl rfl (by decide +kernel) ⟨Nat.le_of_ble_eq_true rfl, Nat.le_of_ble_eq_true rfl⟩) ⟨jBlind, vk_recv (i := 1) hE (by decide) hS, jGo hE0 hAz hS hz⟩ rfl rfl hl.1 rfl (lv_room (Nat.le_of_ble_eq_true rfl)) dX7_spell_16 ⟨Nat.le_of_ble_eq_true rfl, Nat.le_of_ble_eq_true rfl⟩) hS (fun q _ h => hFc q h) hFc (fun r9 u t H1 locs ht hvm hw hB hz1 hk1 hS => ?_)
  obtain rfl : r9 = 3 := hw.trans (by decide)
  refine lv_icmp_ge (tgt := 35) hx hb dX7_spell_19 (by decide) (fun c => absurd c (by decide)) (fun _ => ?_)
  refine lv_aload_n hx hb dX7_spell_22 rfl (lv_at hl 2 rfl) ?_
  refine lv_iload_n hx hb dX7_spell_23 rfl (lv_at hl 0 rfl) ?_
  have hFc : ∀ q : Nat, va_A [] H1.size q → A q := fun q h => by
    rcases h with ⟨k9, e9, h9⟩ | h9
    · simp at h9
    · exact hA q (Nat.le_trans hS.1 h9)
  refine va_calli (va_runV (As := [.int (nI 1)]) (rest := [.int 81]) ⟨hx, hb, hml, hown, hts⟩ (c_J0_charAt_5068e l adK adV z 1 1 H1.size (by decide) (by decide)) (cwV 1 hts (gV t_450 t_451 t_452 t_142 t_453) rfl rfl rfl (by decide +kernel) ⟨Nat.le_of_ble_eq_true rfl, Nat.le_of_ble_eq_true rfl⟩) ⟨jBlind, vk_recv (i := 1) hE (by decide) hS, jGo hE0 hAz hS hz⟩ rfl rfl hl.1 rfl (lv_room (Nat.le_of_ble_eq_true rfl)) dX7_spell_24 ⟨Nat.le_of_ble_eq_true rfl, Nat.le_of_ble_eq_true rfl⟩) hS (fun q _ h => hFc q h) hFc (fun r9 u t H1 locs ht hvm hw hB hz1 hk1 hS => ?_)
  obtain rfl : r9 = 111 := hw.trans (by decide)
  refine lv_bipush (v := 97) hx hb dX7_spell_27 (by decide) ?_
  refine k_isub (v := 14) hx hb (by decide) dX7_spell_29 ?_
  refine lv_iconst (v := 1) hx hb dX7_spell_30 (by decide) ?_
  refine k_iadd (v := 15) hx hb (by decide) dX7_spell_31 ?_
  refine lv_goto (tgt := 36) hx hb dX7_spell_32 (by decide) ?_
  refine k_iadd (v := 96) hx hb (by decide) dX7_spell_36 ?_
  refine lv_istore_n (lv' := [(1, .int 96), (2, .int 1), (0, .ref (adK 1))]) hx hb dX7_spell_37 rfl hl (by decide) rfl (fun ls hl => ?_)
  refine lv_iinc (v := 2) (lv' := [(2, .int 2), (1, .int 96), (0, .ref (adK 1))]) hx hb dX7_spell_38 hl (k := 1) rfl (by decide) (by decide) rfl (fun ls hl => ?_)
  refine lv_goto (tgt := 4) hx hb dX7_spell_41 (by decide) ?_
  refine lv_iload_n hx hb dX7_spell_4 rfl (lv_at hl 0 rfl) ?_
  refine lv_bipush (v := 6) hx hb dX7_spell_5 (by decide) ?_
  refine lv_icmp_ge (tgt := 44) hx hb dX7_spell_7 (by decide) (fun c => absurd c (by decide)) (fun _ => ?_)
  refine lv_iload_n hx hb dX7_spell_10 rfl (lv_at hl 1 rfl) ?_
  refine lv_bipush (v := 27) hx hb dX7_spell_11 (by decide) ?_
  refine k_imul (v := 2592) hx hb (by decide) dX7_spell_13 ?_
  refine lv_iload_n hx hb dX7_spell_14 rfl (lv_at hl 0 rfl) ?_
  refine lv_aload_n hx hb dX7_spell_15 rfl (lv_at hl 2 rfl) ?_
  have hFc : ∀ q : Nat, va_A [] H1.size q → A q := fun q h => by
    rcases h with ⟨k9, e9, h9⟩ | h9
    · simp at h9
    · exact hA q (Nat.le_trans hS.1 h9)
  refine va_calli (va_runV (As := []) (rest := [.int 2, .int 2592]) ⟨hx, hb, hml, hown, hts⟩ (c_J0_length_8abf5 l adK adV z 1 H1.size (by decide)) (cwV 0 hts (gV t_440 t_441 t_442 t_142 t_443) rfl rfl rfl (by decide +kernel) ⟨Nat.le_of_ble_eq_true rfl, Nat.le_of_ble_eq_true rfl⟩) ⟨jBlind, vk_recv (i := 1) hE (by decide) hS, jGo hE0 hAz hS hz⟩ rfl rfl hl.1 rfl (lv_room (Nat.le_of_ble_eq_true rfl)) dX7_spell_16 ⟨Nat.le_of_ble_eq_true rfl, Nat.le_of_ble_eq_true rfl⟩) hS (fun q _ h => hFc q h) hFc (fun r9 u t H1 locs ht hvm hw hB hz1 hk1 hS => ?_)
  obtain rfl : r9 = 3 := hw.trans (by decide)
  refine lv_icmp_ge (tgt := 35) hx hb dX7_spell_19 (by decide) (fun c => absurd c (by decide)) (fun _ => ?_)
  refine lv_aload_n hx hb dX7_spell_22 rfl (lv_at hl 2 rfl) ?_
  refine lv_iload_n hx hb dX7_spell_23 rfl (lv_at hl 0 rfl) ?_
  have hFc : ∀ q : Nat, va_A [] H1.size q → A q := fun q h => by
    rcases h with ⟨k9, e9, h9⟩ | h9
    · simp at h9
    · exact hA q (Nat.le_trans hS.1 h9)
  refine va_calli (va_runV (As := [.int (nI 2)]) (rest := [.int 2592]) ⟨hx, hb, hml, hown, hts⟩ (c_J0_charAt_5068e l adK adV z 1 2 H1.size (by decide) (by decide)) (cwV 1 hts (gV t_450 t_451 t_452 t_142 t_453) rfl rfl rfl (by decide +kernel) ⟨Nat.le_of_ble_eq_true rfl, Nat.le_of_ble_eq_true rfl⟩) ⟨jBlind, vk_recv (i := 1) hE (by decide) hS, jGo hE0 hAz hS hz⟩ rfl rfl hl.1 rfl (lv_room (Nat.le_of_ble_eq_true rfl)) dX7_spell_24 ⟨Nat.le_of_ble_eq_true rfl, Nat.le_of_ble_eq_true rfl⟩) hS (fun q _ h => hFc q h) hFc (fun r9 u t H1 locs ht hvm hw hB hz1 hk1 hS => ?_)
  obtain rfl : r9 = 110 := hw.trans (by decide)
  refine lv_bipush (v := 97) hx hb dX7_spell_27 (by decide) ?_
  refine k_isub (v := 13) hx hb (by decide) dX7_spell_29 ?_
  refine lv_iconst (v := 1) hx hb dX7_spell_30 (by decide) ?_
  refine k_iadd (v := 14) hx hb (by decide) dX7_spell_31 ?_
  refine lv_goto (tgt := 36) hx hb dX7_spell_32 (by decide) ?_
  refine k_iadd (v := 2606) hx hb (by decide) dX7_spell_36 ?_
  refine lv_istore_n (lv' := [(1, .int 2606), (2, .int 2), (0, .ref (adK 1))]) hx hb dX7_spell_37 rfl hl (by decide) rfl (fun ls hl => ?_)
  refine lv_iinc (v := 3) (lv' := [(2, .int 3), (1, .int 2606), (0, .ref (adK 1))]) hx hb dX7_spell_38 hl (k := 1) rfl (by decide) (by decide) rfl (fun ls hl => ?_)
  refine lv_goto (tgt := 4) hx hb dX7_spell_41 (by decide) ?_
  refine lv_iload_n hx hb dX7_spell_4 rfl (lv_at hl 0 rfl) ?_
  refine lv_bipush (v := 6) hx hb dX7_spell_5 (by decide) ?_
  refine lv_icmp_ge (tgt := 44) hx hb dX7_spell_7 (by decide) (fun c => absurd c (by decide)) (fun _ => ?_)
  refine lv_iload_n hx hb dX7_spell_10 rfl (lv_at hl 1 rfl) ?_
  refine lv_bipush (v := 27) hx hb dX7_spell_11 (by decide) ?_
  refine k_imul (v := 70362) hx hb (by decide) dX7_spell_13 ?_
  refine lv_iload_n hx hb dX7_spell_14 rfl (lv_at hl 0 rfl) ?_
  refine lv_aload_n hx hb dX7_spell_15 rfl (lv_at hl 2 rfl) ?_
  have hFc : ∀ q : Nat, va_A [] H1.size q → A q := fun q h => by
    rcases h with ⟨k9, e9, h9⟩ | h9
    · simp at h9
    · exact hA q (Nat.le_trans hS.1 h9)
  refine va_calli (va_runV (As := []) (rest := [.int 3, .int 70362]) ⟨hx, hb, hml, hown, hts⟩ (c_J0_length_8abf5 l adK adV z 1 H1.size (by decide)) (cwV 0 hts (gV t_440 t_441 t_442 t_142 t_443) rfl rfl rfl (by decide +kernel) ⟨Nat.le_of_ble_eq_true rfl, Nat.le_of_ble_eq_true rfl⟩) ⟨jBlind, vk_recv (i := 1) hE (by decide) hS, jGo hE0 hAz hS hz⟩ rfl rfl hl.1 rfl (lv_room (Nat.le_of_ble_eq_true rfl)) dX7_spell_16 ⟨Nat.le_of_ble_eq_true rfl, Nat.le_of_ble_eq_true rfl⟩) hS (fun q _ h => hFc q h) hFc (fun r9 u t H1 locs ht hvm hw hB hz1 hk1 hS => ?_)
  obtain rfl : r9 = 3 := hw.trans (by decide)
  refine lv_icmp_ge (tgt := 35) hx hb dX7_spell_19 (by decide) (fun _ => ?_) (fun c => absurd (by decide) c)
  refine lv_iconst (v := 0) hx hb dX7_spell_35 (by decide) ?_
  refine k_iadd (v := 70362) hx hb (by decide) dX7_spell_36 ?_
  refine lv_istore_n (lv' := [(1, .int 70362), (2, .int 3), (0, .ref (adK 1))]) hx hb dX7_spell_37 rfl hl (by decide) rfl (fun ls hl => ?_)
  refine lv_iinc (v := 4) (lv' := [(2, .int 4), (1, .int 70362), (0, .ref (adK 1))]) hx hb dX7_spell_38 hl (k := 1) rfl (by decide) (by decide) rfl (fun ls hl => ?_)
  refine lv_goto (tgt := 4) hx hb dX7_spell_41 (by decide) ?_
  refine lv_iload_n hx hb dX7_spell_4 rfl (lv_at hl 0 rfl) ?_
  refine lv_bipush (v := 6) hx hb dX7_spell_5 (by decide) ?_
  refine lv_icmp_ge (tgt := 44) hx hb dX7_spell_7 (by decide) (fun c => absurd c (by decide)) (fun _ => ?_)
  refine lv_iload_n hx hb dX7_spell_10 rfl (lv_at hl 1 rfl) ?_
  refine lv_bipush (v := 27) hx hb dX7_spell_11 (by decide) ?_
  refine k_imul (v := 1899774) hx hb (by decide) dX7_spell_13 ?_
  refine lv_iload_n hx hb dX7_spell_14 rfl (lv_at hl 0 rfl) ?_
  refine lv_aload_n hx hb dX7_spell_15 rfl (lv_at hl 2 rfl) ?_
  have hFc : ∀ q : Nat, va_A [] H1.size q → A q := fun q h => by
    rcases h with ⟨k9, e9, h9⟩ | h9
    · simp at h9
    · exact hA q (Nat.le_trans hS.1 h9)
  refine va_calli (va_runV (As := []) (rest := [.int 4, .int 1899774]) ⟨hx, hb, hml, hown, hts⟩ (c_J0_length_8abf5 l adK adV z 1 H1.size (by decide)) (cwV 0 hts (gV t_440 t_441 t_442 t_142 t_443) rfl rfl rfl (by decide +kernel) ⟨Nat.le_of_ble_eq_true rfl, Nat.le_of_ble_eq_true rfl⟩) ⟨jBlind, vk_recv (i := 1) hE (by decide) hS, jGo hE0 hAz hS hz⟩ rfl rfl hl.1 rfl (lv_room (Nat.le_of_ble_eq_true rfl)) dX7_spell_16 ⟨Nat.le_of_ble_eq_true rfl, Nat.le_of_ble_eq_true rfl⟩) hS (fun q _ h => hFc q h) hFc (fun r9 u t H1 locs ht hvm hw hB hz1 hk1 hS => ?_)
  obtain rfl : r9 = 3 := hw.trans (by decide)
  refine lv_icmp_ge (tgt := 35) hx hb dX7_spell_19 (by decide) (fun _ => ?_) (fun c => absurd (by decide) c)
  refine lv_iconst (v := 0) hx hb dX7_spell_35 (by decide) ?_
  refine k_iadd (v := 1899774) hx hb (by decide) dX7_spell_36 ?_
  refine lv_istore_n (lv' := [(1, .int 1899774), (2, .int 4), (0, .ref (adK 1))]) hx hb dX7_spell_37 rfl hl (by decide) rfl (fun ls hl => ?_)
  refine lv_iinc (v := 5) (lv' := [(2, .int 5), (1, .int 1899774), (0, .ref (adK 1))]) hx hb dX7_spell_38 hl (k := 1) rfl (by decide) (by decide) rfl (fun ls hl => ?_)
  refine lv_goto (tgt := 4) hx hb dX7_spell_41 (by decide) ?_
  refine lv_iload_n hx hb dX7_spell_4 rfl (lv_at hl 0 rfl) ?_
  refine lv_bipush (v := 6) hx hb dX7_spell_5 (by decide) ?_
  refine lv_icmp_ge (tgt := 44) hx hb dX7_spell_7 (by decide) (fun c => absurd c (by decide)) (fun _ => ?_)
  refine lv_iload_n hx hb dX7_spell_10 rfl (lv_at hl 1 rfl) ?_
  refine lv_bipush (v := 27) hx hb dX7_spell_11 (by decide) ?_
  refine k_imul (v := 51293898) hx hb (by decide) dX7_spell_13 ?_
  refine lv_iload_n hx hb dX7_spell_14 rfl (lv_at hl 0 rfl) ?_
  refine lv_aload_n hx hb dX7_spell_15 rfl (lv_at hl 2 rfl) ?_
  have hFc : ∀ q : Nat, va_A [] H1.size q → A q := fun q h => by
    rcases h with ⟨k9, e9, h9⟩ | h9
    · simp at h9
    · exact hA q (Nat.le_trans hS.1 h9)
  refine va_calli (va_runV (As := []) (rest := [.int 5, .int 51293898]) ⟨hx, hb, hml, hown, hts⟩ (c_J0_length_8abf5 l adK adV z 1 H1.size (by decide)) (cwV 0 hts (gV t_440 t_441 t_442 t_142 t_443) rfl rfl rfl (by decide +kernel) ⟨Nat.le_of_ble_eq_true rfl, Nat.le_of_ble_eq_true rfl⟩) ⟨jBlind, vk_recv (i := 1) hE (by decide) hS, jGo hE0 hAz hS hz⟩ rfl rfl hl.1 rfl (lv_room (Nat.le_of_ble_eq_true rfl)) dX7_spell_16 ⟨Nat.le_of_ble_eq_true rfl, Nat.le_of_ble_eq_true rfl⟩) hS (fun q _ h => hFc q h) hFc (fun r9 u t H1 locs ht hvm hw hB hz1 hk1 hS => ?_)
  obtain rfl : r9 = 3 := hw.trans (by decide)
  refine lv_icmp_ge (tgt := 35) hx hb dX7_spell_19 (by decide) (fun _ => ?_) (fun c => absurd (by decide) c)
  refine lv_iconst (v := 0) hx hb dX7_spell_35 (by decide) ?_
  refine k_iadd (v := 51293898) hx hb (by decide) dX7_spell_36 ?_
  refine lv_istore_n (lv' := [(1, .int 51293898), (2, .int 5), (0, .ref (adK 1))]) hx hb dX7_spell_37 rfl hl (by decide) rfl (fun ls hl => ?_)
  refine lv_iinc (v := 6) (lv' := [(2, .int 6), (1, .int 51293898), (0, .ref (adK 1))]) hx hb dX7_spell_38 hl (k := 1) rfl (by decide) (by decide) rfl (fun ls hl => ?_)
  refine lv_goto (tgt := 4) hx hb dX7_spell_41 (by decide) ?_
  refine lv_iload_n hx hb dX7_spell_4 rfl (lv_at hl 0 rfl) ?_
  refine lv_bipush (v := 6) hx hb dX7_spell_5 (by decide) ?_
  refine lv_icmp_ge (tgt := 44) hx hb dX7_spell_7 (by decide) (fun _ => ?_) (fun c => absurd (by decide) c)
  refine lv_iload_n hx hb dX7_spell_44 rfl (lv_at hl 1 rfl) ?_
  exact W.iret (v := 51293898) hx hb hr (fun t ht hW => ⟨⟨51293898, (), rfl, rfl, trivial⟩, hS.F ht⟩) hS.2.2 dX7_spell_45
set_option maxHeartbeats 4000000 in
set_option maxRecDepth 100000 in
theorem c_X7_spell_2 (l : Launch) (adK adV : Nat → Nat) (z : Nat) (sz : Nat) : Met l yX7_spell (.code yX7_spell cX7_spell 3 (some .int) :: WT) ({ frames := 8, cells := 0, slots := 0, locals := 700 }) (va_Pc [.ref (adK 2)] (jPre adK adV z sz)) (va_Qi (fun (r : Int32) (u : Unit) => r = 187463295) (fun _ _ => True) (va_A [] sz)) 0 0 (va_A [] sz) := by
  refine Met.ofW (cc := cX7_spell) (maxL := 3) (ret := (some .int)) (by decide) rfl ?_
  intro p e s m args below meth c s₁ B hml hv
  obtain ⟨rfl, hsz, hE0, hz⟩ := hv
  have hx := B.exec
  have hb := B.bytes
  have hr := B.returns
  have hts0 := atoms_spec (ws := .code yX7_spell cX7_spell 3 (some .int) :: WT) B.pre
  have hts : ∀ w ∈ WT, w.before _ s = true := fun w h => hts0 w (List.mem_cons_of_mem _ h)
  have hown : s.vm.findClass RX7 = some m.cls := findClass_of_methodNamed B.named
  have hlocks := B.notSynchronized
  subst hsz
  have hAz : ∀ q : Nat, va_A [] s.heap.size q → z ≤ q := fun q h => by
    rcases h with ⟨k9, e9, h9⟩ | h9
    · simp at h9
    · exact Nat.le_trans hz h9
  generalize hAe : va_A [] s.heap.size = A at hAz ⊢
  have hA : ∀ q : Nat, s.heap.size ≤ q → A q := fun q h => by rw [← hAe]; exact Or.inr h
  have hS : va_S A s.heap s.heap [] := va_S.rf
  have hE : vk_S 11 lenS bytS adK adV A s s.heap := hE0.1.narrow hAz
  have hZ : va_Z "java/lang/String" "COMPACT_STRINGS" "Z" (.int 1) A s s.heap := hE0.2.1.narrow hAz
  have hZq : va_Zq "jdk/internal/util/Preconditions" "SIOOBE_FORMATTER" "Ljava/util/function/BiFunction;" A s s.heap := hE0.2.2.1.narrow hAz
  have hl := lv_entry ([.ref (adK 2)]) (n := 3) (Nat.le_of_ble_eq_true rfl)
  rw [lg_entry_eq]
  generalize (lg_sl ([.ref (adK 2)]) ++ List.replicate (3 - (lg_sl ([.ref (adK 2)])).length) Slot.unset).toArray = ls at hl ⊢
  have hl : lv_has ls 3 [(0, .ref (adK 2))] := hl
  refine lv_iconst (v := 0) hx hb dX7_spell_0 (by decide) ?_
  refine lv_istore_n (lv' := [(1, .int 0), (0, .ref (adK 2))]) hx hb dX7_spell_1 rfl hl (by decide) rfl (fun ls hl => ?_)
  refine lv_iconst (v := 0) hx hb dX7_spell_2 (by decide) ?_
  refine lv_istore_n (lv' := [(2, .int 0), (1, .int 0), (0, .ref (adK 2))]) hx hb dX7_spell_3 rfl hl (by decide) rfl (fun ls hl => ?_)
  refine lv_iload_n hx hb dX7_spell_4 rfl (lv_at hl 0 rfl) ?_
  refine lv_bipush (v := 6) hx hb dX7_spell_5 (by decide) ?_
  refine lv_icmp_ge (tgt := 44) hx hb dX7_spell_7 (by decide) (fun c => absurd c (by decide)) (fun _ => ?_)
  refine lv_iload_n hx hb dX7_spell_10 rfl (lv_at hl 1 rfl) ?_
  refine lv_bipush (v := 27) hx hb dX7_spell_11 (by decide) ?_
  refine k_imul (v := 0) hx hb (by decide) dX7_spell_13 ?_
  refine lv_iload_n hx hb dX7_spell_14 rfl (lv_at hl 0 rfl) ?_
  refine lv_aload_n hx hb dX7_spell_15 rfl (lv_at hl 2 rfl) ?_
  have hFc : ∀ q : Nat, va_A [] s.heap.size q → A q := fun q h => by
    rcases h with ⟨k9, e9, h9⟩ | h9
    · simp at h9
    · exact hA q (Nat.le_trans hS.1 h9)
  refine va_calli (va_runV (As := []) (rest := [.int 0, .int 0]) ⟨hx, hb, hml, hown, hts⟩ (c_J0_length_8abf5 l adK adV z 2 s.heap.size (by decide)) (cwV 0 hts (gV t_440 t_441 t_442 t_142 t_443) rfl rfl rfl (by decide +kernel) ⟨Nat.le_of_ble_eq_true rfl, Nat.le_of_ble_eq_true rfl⟩) ⟨jBlind, vk_recv (i := 2) hE (by decide) hS, jGo hE0 hAz hS hz⟩ rfl rfl hl.1 rfl (lv_room (Nat.le_of_ble_eq_true rfl)) dX7_spell_16 ⟨Nat.le_of_ble_eq_true rfl, Nat.le_of_ble_eq_true rfl⟩) hS (fun q _ h => hFc q h) hFc (fun r9 u t H1 locs ht hvm hw hB hz1 hk1 hS => ?_)
  obtain rfl : r9 = 5 := hw.trans (by decide)
  refine lv_icmp_ge (tgt := 35) hx hb dX7_spell_19 (by decide) (fun c => absurd c (by decide)) (fun _ => ?_)
  refine lv_aload_n hx hb dX7_spell_22 rfl (lv_at hl 2 rfl) ?_
  refine lv_iload_n hx hb dX7_spell_23 rfl (lv_at hl 0 rfl) ?_
  have hFc : ∀ q : Nat, va_A [] H1.size q → A q := fun q h => by
    rcases h with ⟨k9, e9, h9⟩ | h9
    · simp at h9
    · exact hA q (Nat.le_trans hS.1 h9)
  refine va_calli (va_runV (As := [.int (nI 0)]) (rest := [.int 0]) ⟨hx, hb, hml, hown, hts⟩ (c_J0_charAt_5068e l adK adV z 2 0 H1.size (by decide) (by decide)) (cwV 1 hts (gV t_450 t_451 t_452 t_142 t_453) rfl rfl rfl (by decide +kernel) ⟨Nat.le_of_ble_eq_true rfl, Nat.le_of_ble_eq_true rfl⟩) ⟨jBlind, vk_recv (i := 2) hE (by decide) hS, jGo hE0 hAz hS hz⟩ rfl rfl hl.1 rfl (lv_room (Nat.le_of_ble_eq_true rfl)) dX7_spell_24 ⟨Nat.le_of_ble_eq_true rfl, Nat.le_of_ble_eq_true rfl⟩) hS (fun q _ h => hFc q h) hFc (fun r9 u t H1 locs ht hvm hw hB hz1 hk1 hS => ?_)
  obtain rfl : r9 = 109 := hw.trans (by decide)
  refine lv_bipush (v := 97) hx hb dX7_spell_27 (by decide) ?_
  refine k_isub (v := 12) hx hb (by decide) dX7_spell_29 ?_
  refine lv_iconst (v := 1) hx hb dX7_spell_30 (by decide) ?_
  refine k_iadd (v := 13) hx hb (by decide) dX7_spell_31 ?_
  refine lv_goto (tgt := 36) hx hb dX7_spell_32 (by decide) ?_
  refine k_iadd (v := 13) hx hb (by decide) dX7_spell_36 ?_
  refine lv_istore_n (lv' := [(1, .int 13), (2, .int 0), (0, .ref (adK 2))]) hx hb dX7_spell_37 rfl hl (by decide) rfl (fun ls hl => ?_)
  refine lv_iinc (v := 1) (lv' := [(2, .int 1), (1, .int 13), (0, .ref (adK 2))]) hx hb dX7_spell_38 hl (k := 1) rfl (by decide) (by decide) rfl (fun ls hl => ?_)
  refine lv_goto (tgt := 4) hx hb dX7_spell_41 (by decide) ?_
  refine lv_iload_n hx hb dX7_spell_4 rfl (lv_at hl 0 rfl) ?_
  refine lv_bipush (v := 6) hx hb dX7_spell_5 (by decide) ?_
  refine lv_icmp_ge (tgt := 44) hx hb dX7_spell_7 (by decide) (fun c => absurd c (by decide)) (fun _ => ?_)
  refine lv_iload_n hx hb dX7_spell_10 rfl (lv_at hl 1 rfl) ?_
  refine lv_bipush (v := 27) hx hb dX7_spell_11 (by decide) ?_
  refine k_imul (v := 351) hx hb (by decide) dX7_spell_13 ?_
  refine lv_iload_n hx hb dX7_spell_14 rfl (lv_at hl 0 rfl) ?_
  refine lv_aload_n hx hb dX7_spell_15 rfl (lv_at hl 2 rfl) ?_
  have hFc : ∀ q : Nat, va_A [] H1.size q → A q := fun q h => by
    rcases h with ⟨k9, e9, h9⟩ | h9
    · simp at h9
    · exact hA q (Nat.le_trans hS.1 h9)
  refine va_calli (va_runV (As := []) (rest := [.int 1, .int 351]) ⟨hx, hb, hml, hown, hts⟩ (c_J0_length_8abf5 l adK adV z 2 H1.size (by decide)) (cwV 0 hts (gV t_440 t_441 t_442 t_142 t_443) rfl rfl rfl (by decide +kernel) ⟨Nat.le_of_ble_eq_true rfl, Nat.le_of_ble_eq_true rfl⟩) ⟨jBlind, vk_recv (i := 2) hE (by decide) hS, jGo hE0 hAz hS hz⟩ rfl rfl hl.1 rfl (lv_room (Nat.le_of_ble_eq_true rfl)) dX7_spell_16 ⟨Nat.le_of_ble_eq_true rfl, Nat.le_of_ble_eq_true rfl⟩) hS (fun q _ h => hFc q h) hFc (fun r9 u t H1 locs ht hvm hw hB hz1 hk1 hS => ?_)
  obtain rfl : r9 = 5 := hw.trans (by decide)
  refine lv_icmp_ge (tgt := 35) hx hb dX7_spell_19 (by decide) (fun c => absurd c (by decide)) (fun _ => ?_)
  refine lv_aload_n hx hb dX7_spell_22 rfl (lv_at hl 2 rfl) ?_
  refine lv_iload_n hx hb dX7_spell_23 rfl (lv_at hl 0 rfl) ?_
  have hFc : ∀ q : Nat, va_A [] H1.size q → A q := fun q h => by
    rcases h with ⟨k9, e9, h9⟩ | h9
    · simp at h9
    · exact hA q (Nat.le_trans hS.1 h9)
  refine va_calli (va_runV (As := [.int (nI 1)]) (rest := [.int 351]) ⟨hx, hb, hml, hown, hts⟩ (c_J0_charAt_5068e l adK adV z 2 1 H1.size (by decide) (by decide)) (cwV 1 hts (gV t_450 t_451 t_452 t_142 t_453) rfl rfl rfl (by decide +kernel) ⟨Nat.le_of_ble_eq_true rfl, Nat.le_of_ble_eq_true rfl⟩) ⟨jBlind, vk_recv (i := 2) hE (by decide) hS, jGo hE0 hAz hS hz⟩ rfl rfl hl.1 rfl (lv_room (Nat.le_of_ble_eq_true rfl)) dX7_spell_24 ⟨Nat.le_of_ble_eq_true rfl, Nat.le_of_ble_eq_true rfl⟩) hS (fun q _ h => hFc q h) hFc (fun r9 u t H1 locs ht hvm hw hB hz1 hk1 hS => ?_)
  obtain rfl : r9 = 97 := hw.trans (by decide)
  refine lv_bipush (v := 97) hx hb dX7_spell_27 (by decide) ?_
  refine k_isub (v := 0) hx hb (by decide) dX7_spell_29 ?_
  refine lv_iconst (v := 1) hx hb dX7_spell_30 (by decide) ?_
  refine k_iadd (v := 1) hx hb (by decide) dX7_spell_31 ?_
  refine lv_goto (tgt := 36) hx hb dX7_spell_32 (by decide) ?_
  refine k_iadd (v := 352) hx hb (by decide) dX7_spell_36 ?_
  refine lv_istore_n (lv' := [(1, .int 352), (2, .int 1), (0, .ref (adK 2))]) hx hb dX7_spell_37 rfl hl (by decide) rfl (fun ls hl => ?_)
  refine lv_iinc (v := 2) (lv' := [(2, .int 2), (1, .int 352), (0, .ref (adK 2))]) hx hb dX7_spell_38 hl (k := 1) rfl (by decide) (by decide) rfl (fun ls hl => ?_)
  refine lv_goto (tgt := 4) hx hb dX7_spell_41 (by decide) ?_
  refine lv_iload_n hx hb dX7_spell_4 rfl (lv_at hl 0 rfl) ?_
  refine lv_bipush (v := 6) hx hb dX7_spell_5 (by decide) ?_
  refine lv_icmp_ge (tgt := 44) hx hb dX7_spell_7 (by decide) (fun c => absurd c (by decide)) (fun _ => ?_)
  refine lv_iload_n hx hb dX7_spell_10 rfl (lv_at hl 1 rfl) ?_
  refine lv_bipush (v := 27) hx hb dX7_spell_11 (by decide) ?_
  refine k_imul (v := 9504) hx hb (by decide) dX7_spell_13 ?_
  refine lv_iload_n hx hb dX7_spell_14 rfl (lv_at hl 0 rfl) ?_
  refine lv_aload_n hx hb dX7_spell_15 rfl (lv_at hl 2 rfl) ?_
  have hFc : ∀ q : Nat, va_A [] H1.size q → A q := fun q h => by
    rcases h with ⟨k9, e9, h9⟩ | h9
    · simp at h9
    · exact hA q (Nat.le_trans hS.1 h9)
  refine va_calli (va_runV (As := []) (rest := [.int 2, .int 9504]) ⟨hx, hb, hml, hown, hts⟩ (c_J0_length_8abf5 l adK adV z 2 H1.size (by decide)) (cwV 0 hts (gV t_440 t_441 t_442 t_142 t_443) rfl rfl rfl (by decide +kernel) ⟨Nat.le_of_ble_eq_true rfl, Nat.le_of_ble_eq_true rfl⟩) ⟨jBlind, vk_recv (i := 2) hE (by decide) hS, jGo hE0 hAz hS hz⟩ rfl rfl hl.1 rfl (lv_room (Nat.le_of_ble_eq_true rfl)) dX7_spell_16 ⟨Nat.le_of_ble_eq_true rfl, Nat.le_of_ble_eq_true rfl⟩) hS (fun q _ h => hFc q h) hFc (fun r9 u t H1 locs ht hvm hw hB hz1 hk1 hS => ?_)
  obtain rfl : r9 = 5 := hw.trans (by decide)
  refine lv_icmp_ge (tgt := 35) hx hb dX7_spell_19 (by decide) (fun c => absurd c (by decide)) (fun _ => ?_)
  refine lv_aload_n hx hb dX7_spell_22 rfl (lv_at hl 2 rfl) ?_
  refine lv_iload_n hx hb dX7_spell_23 rfl (lv_at hl 0 rfl) ?_
  have hFc : ∀ q : Nat, va_A [] H1.size q → A q := fun q h => by
    rcases h with ⟨k9, e9, h9⟩ | h9
    · simp at h9
    · exact hA q (Nat.le_trans hS.1 h9)
  refine va_calli (va_runV (As := [.int (nI 2)]) (rest := [.int 9504]) ⟨hx, hb, hml, hown, hts⟩ (c_J0_charAt_5068e l adK adV z 2 2 H1.size (by decide) (by decide)) (cwV 1 hts (gV t_450 t_451 t_452 t_142 t_453) rfl rfl rfl (by decide +kernel) ⟨Nat.le_of_ble_eq_true rfl, Nat.le_of_ble_eq_true rfl⟩) ⟨jBlind, vk_recv (i := 2) hE (by decide) hS, jGo hE0 hAz hS hz⟩ rfl rfl hl.1 rfl (lv_room (Nat.le_of_ble_eq_true rfl)) dX7_spell_24 ⟨Nat.le_of_ble_eq_true rfl, Nat.le_of_ble_eq_true rfl⟩) hS (fun q _ h => hFc q h) hFc (fun r9 u t H1 locs ht hvm hw hB hz1 hk1 hS => ?_)
  obtain rfl : r9 = 116 := hw.trans (by decide)
  refine lv_bipush (v := 97) hx hb dX7_spell_27 (by decide) ?_
  refine k_isub (v := 19) hx hb (by decide) dX7_spell_29 ?_
  refine lv_iconst (v := 1) hx hb dX7_spell_30 (by decide) ?_
  refine k_iadd (v := 20) hx hb (by decide) dX7_spell_31 ?_
  refine lv_goto (tgt := 36) hx hb dX7_spell_32 (by decide) ?_
  refine k_iadd (v := 9524) hx hb (by decide) dX7_spell_36 ?_
  refine lv_istore_n (lv' := [(1, .int 9524), (2, .int 2), (0, .ref (adK 2))]) hx hb dX7_spell_37 rfl hl (by decide) rfl (fun ls hl => ?_)
  refine lv_iinc (v := 3) (lv' := [(2, .int 3), (1, .int 9524), (0, .ref (adK 2))]) hx hb dX7_spell_38 hl (k := 1) rfl (by decide) (by decide) rfl (fun ls hl => ?_)
  refine lv_goto (tgt := 4) hx hb dX7_spell_41 (by decide) ?_
  refine lv_iload_n hx hb dX7_spell_4 rfl (lv_at hl 0 rfl) ?_
  refine lv_bipush (v := 6) hx hb dX7_spell_5 (by decide) ?_
  refine lv_icmp_ge (tgt := 44) hx hb dX7_spell_7 (by decide) (fun c => absurd c (by decide)) (fun _ => ?_)
  refine lv_iload_n hx hb dX7_spell_10 rfl (lv_at hl 1 rfl) ?_
  refine lv_bipush (v := 27) hx hb dX7_spell_11 (by decide) ?_
  refine k_imul (v := 257148) hx hb (by decide) dX7_spell_13 ?_
  refine lv_iload_n hx hb dX7_spell_14 rfl (lv_at hl 0 rfl) ?_
  refine lv_aload_n hx hb dX7_spell_15 rfl (lv_at hl 2 rfl) ?_
  have hFc : ∀ q : Nat, va_A [] H1.size q → A q := fun q h => by
    rcases h with ⟨k9, e9, h9⟩ | h9
    · simp at h9
    · exact hA q (Nat.le_trans hS.1 h9)
  refine va_calli (va_runV (As := []) (rest := [.int 3, .int 257148]) ⟨hx, hb, hml, hown, hts⟩ (c_J0_length_8abf5 l adK adV z 2 H1.size (by decide)) (cwV 0 hts (gV t_440 t_441 t_442 t_142 t_443) rfl rfl rfl (by decide +kernel) ⟨Nat.le_of_ble_eq_true rfl, Nat.le_of_ble_eq_true rfl⟩) ⟨jBlind, vk_recv (i := 2) hE (by decide) hS, jGo hE0 hAz hS hz⟩ rfl rfl hl.1 rfl (lv_room (Nat.le_of_ble_eq_true rfl)) dX7_spell_16 ⟨Nat.le_of_ble_eq_true rfl, Nat.le_of_ble_eq_true rfl⟩) hS (fun q _ h => hFc q h) hFc (fun r9 u t H1 locs ht hvm hw hB hz1 hk1 hS => ?_)
  obtain rfl : r9 = 5 := hw.trans (by decide)
  refine lv_icmp_ge (tgt := 35) hx hb dX7_spell_19 (by decide) (fun c => absurd c (by decide)) (fun _ => ?_)
  refine lv_aload_n hx hb dX7_spell_22 rfl (lv_at hl 2 rfl) ?_
  refine lv_iload_n hx hb dX7_spell_23 rfl (lv_at hl 0 rfl) ?_
  have hFc : ∀ q : Nat, va_A [] H1.size q → A q := fun q h => by
    rcases h with ⟨k9, e9, h9⟩ | h9
    · simp at h9
    · exact hA q (Nat.le_trans hS.1 h9)
  refine va_calli (va_runV (As := [.int (nI 3)]) (rest := [.int 257148]) ⟨hx, hb, hml, hown, hts⟩ (c_J0_charAt_5068e l adK adV z 2 3 H1.size (by decide) (by decide)) (cwV 1 hts (gV t_450 t_451 t_452 t_142 t_453) rfl rfl rfl (by decide +kernel) ⟨Nat.le_of_ble_eq_true rfl, Nat.le_of_ble_eq_true rfl⟩) ⟨jBlind, vk_recv (i := 2) hE (by decide) hS, jGo hE0 hAz hS hz⟩ rfl rfl hl.1 rfl (lv_room (Nat.le_of_ble_eq_true rfl)) dX7_spell_24 ⟨Nat.le_of_ble_eq_true rfl, Nat.le_of_ble_eq_true rfl⟩) hS (fun q _ h => hFc q h) hFc (fun r9 u t H1 locs ht hvm hw hB hz1 hk1 hS => ?_)
  obtain rfl : r9 = 99 := hw.trans (by decide)
  refine lv_bipush (v := 97) hx hb dX7_spell_27 (by decide) ?_
  refine k_isub (v := 2) hx hb (by decide) dX7_spell_29 ?_
  refine lv_iconst (v := 1) hx hb dX7_spell_30 (by decide) ?_
  refine k_iadd (v := 3) hx hb (by decide) dX7_spell_31 ?_
  refine lv_goto (tgt := 36) hx hb dX7_spell_32 (by decide) ?_
  refine k_iadd (v := 257151) hx hb (by decide) dX7_spell_36 ?_
  refine lv_istore_n (lv' := [(1, .int 257151), (2, .int 3), (0, .ref (adK 2))]) hx hb dX7_spell_37 rfl hl (by decide) rfl (fun ls hl => ?_)
  refine lv_iinc (v := 4) (lv' := [(2, .int 4), (1, .int 257151), (0, .ref (adK 2))]) hx hb dX7_spell_38 hl (k := 1) rfl (by decide) (by decide) rfl (fun ls hl => ?_)
  refine lv_goto (tgt := 4) hx hb dX7_spell_41 (by decide) ?_
  refine lv_iload_n hx hb dX7_spell_4 rfl (lv_at hl 0 rfl) ?_
  refine lv_bipush (v := 6) hx hb dX7_spell_5 (by decide) ?_
  refine lv_icmp_ge (tgt := 44) hx hb dX7_spell_7 (by decide) (fun c => absurd c (by decide)) (fun _ => ?_)
  refine lv_iload_n hx hb dX7_spell_10 rfl (lv_at hl 1 rfl) ?_
  refine lv_bipush (v := 27) hx hb dX7_spell_11 (by decide) ?_
  refine k_imul (v := 6943077) hx hb (by decide) dX7_spell_13 ?_
  refine lv_iload_n hx hb dX7_spell_14 rfl (lv_at hl 0 rfl) ?_
  refine lv_aload_n hx hb dX7_spell_15 rfl (lv_at hl 2 rfl) ?_
  have hFc : ∀ q : Nat, va_A [] H1.size q → A q := fun q h => by
    rcases h with ⟨k9, e9, h9⟩ | h9
    · simp at h9
    · exact hA q (Nat.le_trans hS.1 h9)
  refine va_calli (va_runV (As := []) (rest := [.int 4, .int 6943077]) ⟨hx, hb, hml, hown, hts⟩ (c_J0_length_8abf5 l adK adV z 2 H1.size (by decide)) (cwV 0 hts (gV t_440 t_441 t_442 t_142 t_443) rfl rfl rfl (by decide +kernel) ⟨Nat.le_of_ble_eq_true rfl, Nat.le_of_ble_eq_true rfl⟩) ⟨jBlind, vk_recv (i := 2) hE (by decide) hS, jGo hE0 hAz hS hz⟩ rfl rfl hl.1 rfl (lv_room (Nat.le_of_ble_eq_true rfl)) dX7_spell_16 ⟨Nat.le_of_ble_eq_true rfl, Nat.le_of_ble_eq_true rfl⟩) hS (fun q _ h => hFc q h) hFc (fun r9 u t H1 locs ht hvm hw hB hz1 hk1 hS => ?_)
  obtain rfl : r9 = 5 := hw.trans (by decide)
  refine lv_icmp_ge (tgt := 35) hx hb dX7_spell_19 (by decide) (fun c => absurd c (by decide)) (fun _ => ?_)
  refine lv_aload_n hx hb dX7_spell_22 rfl (lv_at hl 2 rfl) ?_
  refine lv_iload_n hx hb dX7_spell_23 rfl (lv_at hl 0 rfl) ?_
  have hFc : ∀ q : Nat, va_A [] H1.size q → A q := fun q h => by
    rcases h with ⟨k9, e9, h9⟩ | h9
    · simp at h9
    · exact hA q (Nat.le_trans hS.1 h9)
  refine va_calli (va_runV (As := [.int (nI 4)]) (rest := [.int 6943077]) ⟨hx, hb, hml, hown, hts⟩ (c_J0_charAt_5068e l adK adV z 2 4 H1.size (by decide) (by decide)) (cwV 1 hts (gV t_450 t_451 t_452 t_142 t_453) rfl rfl rfl (by decide +kernel) ⟨Nat.le_of_ble_eq_true rfl, Nat.le_of_ble_eq_true rfl⟩) ⟨jBlind, vk_recv (i := 2) hE (by decide) hS, jGo hE0 hAz hS hz⟩ rfl rfl hl.1 rfl (lv_room (Nat.le_of_ble_eq_true rfl)) dX7_spell_24 ⟨Nat.le_of_ble_eq_true rfl, Nat.le_of_ble_eq_true rfl⟩) hS (fun q _ h => hFc q h) hFc (fun r9 u t H1 locs ht hvm hw hB hz1 hk1 hS => ?_)
  obtain rfl : r9 = 104 := hw.trans (by decide)
  refine lv_bipush (v := 97) hx hb dX7_spell_27 (by decide) ?_
  refine k_isub (v := 7) hx hb (by decide) dX7_spell_29 ?_
  refine lv_iconst (v := 1) hx hb dX7_spell_30 (by decide) ?_
  refine k_iadd (v := 8) hx hb (by decide) dX7_spell_31 ?_
  refine lv_goto (tgt := 36) hx hb dX7_spell_32 (by decide) ?_
  refine k_iadd (v := 6943085) hx hb (by decide) dX7_spell_36 ?_
  refine lv_istore_n (lv' := [(1, .int 6943085), (2, .int 4), (0, .ref (adK 2))]) hx hb dX7_spell_37 rfl hl (by decide) rfl (fun ls hl => ?_)
  refine lv_iinc (v := 5) (lv' := [(2, .int 5), (1, .int 6943085), (0, .ref (adK 2))]) hx hb dX7_spell_38 hl (k := 1) rfl (by decide) (by decide) rfl (fun ls hl => ?_)
  refine lv_goto (tgt := 4) hx hb dX7_spell_41 (by decide) ?_
  refine lv_iload_n hx hb dX7_spell_4 rfl (lv_at hl 0 rfl) ?_
  refine lv_bipush (v := 6) hx hb dX7_spell_5 (by decide) ?_
  refine lv_icmp_ge (tgt := 44) hx hb dX7_spell_7 (by decide) (fun c => absurd c (by decide)) (fun _ => ?_)
  refine lv_iload_n hx hb dX7_spell_10 rfl (lv_at hl 1 rfl) ?_
  refine lv_bipush (v := 27) hx hb dX7_spell_11 (by decide) ?_
  refine k_imul (v := 187463295) hx hb (by decide) dX7_spell_13 ?_
  refine lv_iload_n hx hb dX7_spell_14 rfl (lv_at hl 0 rfl) ?_
  refine lv_aload_n hx hb dX7_spell_15 rfl (lv_at hl 2 rfl) ?_
  have hFc : ∀ q : Nat, va_A [] H1.size q → A q := fun q h => by
    rcases h with ⟨k9, e9, h9⟩ | h9
    · simp at h9
    · exact hA q (Nat.le_trans hS.1 h9)
  refine va_calli (va_runV (As := []) (rest := [.int 5, .int 187463295]) ⟨hx, hb, hml, hown, hts⟩ (c_J0_length_8abf5 l adK adV z 2 H1.size (by decide)) (cwV 0 hts (gV t_440 t_441 t_442 t_142 t_443) rfl rfl rfl (by decide +kernel) ⟨Nat.le_of_ble_eq_true rfl, Nat.le_of_ble_eq_true rfl⟩) ⟨jBlind, vk_recv (i := 2) hE (by decide) hS, jGo hE0 hAz hS hz⟩ rfl rfl hl.1 rfl (lv_room (Nat.le_of_ble_eq_true rfl)) dX7_spell_16 ⟨Nat.le_of_ble_eq_true rfl, Nat.le_of_ble_eq_true rfl⟩) hS (fun q _ h => hFc q h) hFc (fun r9 u t H1 locs ht hvm hw hB hz1 hk1 hS => ?_)
  obtain rfl : r9 = 5 := hw.trans (by decide)
  refine lv_icmp_ge (tgt := 35) hx hb dX7_spell_19 (by decide) (fun _ => ?_) (fun c => absurd (by decide) c)
  refine lv_iconst (v := 0) hx hb dX7_spell_35 (by decide) ?_
  refine k_iadd (v := 187463295) hx hb (by decide) dX7_spell_36 ?_
  refine lv_istore_n (lv' := [(1, .int 187463295), (2, .int 5), (0, .ref (adK 2))]) hx hb dX7_spell_37 rfl hl (by decide) rfl (fun ls hl => ?_)
  refine lv_iinc (v := 6) (lv' := [(2, .int 6), (1, .int 187463295), (0, .ref (adK 2))]) hx hb dX7_spell_38 hl (k := 1) rfl (by decide) (by decide) rfl (fun ls hl => ?_)
  refine lv_goto (tgt := 4) hx hb dX7_spell_41 (by decide) ?_
  refine lv_iload_n hx hb dX7_spell_4 rfl (lv_at hl 0 rfl) ?_
  refine lv_bipush (v := 6) hx hb dX7_spell_5 (by decide) ?_
  refine lv_icmp_ge (tgt := 44) hx hb dX7_spell_7 (by decide) (fun _ => ?_) (fun c => absurd (by decide) c)
  refine lv_iload_n hx hb dX7_spell_44 rfl (lv_at hl 1 rfl) ?_
  exact W.iret (v := 187463295) hx hb hr (fun t ht hW => ⟨⟨187463295, (), rfl, rfl, trivial⟩, hS.F ht⟩) hS.2.2 dX7_spell_45
set_option maxHeartbeats 4000000 in
set_option maxRecDepth 100000 in
theorem c_X7_spell_3 (l : Launch) (adK adV : Nat → Nat) (z : Nat) (sz : Nat) : Met l yX7_spell (.code yX7_spell cX7_spell 3 (some .int) :: WT) ({ frames := 8, cells := 0, slots := 0, locals := 700 }) (va_Pc [.ref (adK 3)] (jPre adK adV z sz)) (va_Qi (fun (r : Int32) (u : Unit) => r = 24170724) (fun _ _ => True) (va_A [] sz)) 0 0 (va_A [] sz) := by
  refine Met.ofW (cc := cX7_spell) (maxL := 3) (ret := (some .int)) (by decide) rfl ?_
  intro p e s m args below meth c s₁ B hml hv
  obtain ⟨rfl, hsz, hE0, hz⟩ := hv
  have hx := B.exec
  have hb := B.bytes
  have hr := B.returns
  have hts0 := atoms_spec (ws := .code yX7_spell cX7_spell 3 (some .int) :: WT) B.pre
  have hts : ∀ w ∈ WT, w.before _ s = true := fun w h => hts0 w (List.mem_cons_of_mem _ h)
  have hown : s.vm.findClass RX7 = some m.cls := findClass_of_methodNamed B.named
  have hlocks := B.notSynchronized
  subst hsz
  have hAz : ∀ q : Nat, va_A [] s.heap.size q → z ≤ q := fun q h => by
    rcases h with ⟨k9, e9, h9⟩ | h9
    · simp at h9
    · exact Nat.le_trans hz h9
  generalize hAe : va_A [] s.heap.size = A at hAz ⊢
  have hA : ∀ q : Nat, s.heap.size ≤ q → A q := fun q h => by rw [← hAe]; exact Or.inr h
  have hS : va_S A s.heap s.heap [] := va_S.rf
  have hE : vk_S 11 lenS bytS adK adV A s s.heap := hE0.1.narrow hAz
  have hZ : va_Z "java/lang/String" "COMPACT_STRINGS" "Z" (.int 1) A s s.heap := hE0.2.1.narrow hAz
  have hZq : va_Zq "jdk/internal/util/Preconditions" "SIOOBE_FORMATTER" "Ljava/util/function/BiFunction;" A s s.heap := hE0.2.2.1.narrow hAz
  have hl := lv_entry ([.ref (adK 3)]) (n := 3) (Nat.le_of_ble_eq_true rfl)
  rw [lg_entry_eq]
  generalize (lg_sl ([.ref (adK 3)]) ++ List.replicate (3 - (lg_sl ([.ref (adK 3)])).length) Slot.unset).toArray = ls at hl ⊢
  have hl : lv_has ls 3 [(0, .ref (adK 3))] := hl
  refine lv_iconst (v := 0) hx hb dX7_spell_0 (by decide) ?_
  refine lv_istore_n (lv' := [(1, .int 0), (0, .ref (adK 3))]) hx hb dX7_spell_1 rfl hl (by decide) rfl (fun ls hl => ?_)
  refine lv_iconst (v := 0) hx hb dX7_spell_2 (by decide) ?_
  refine lv_istore_n (lv' := [(2, .int 0), (1, .int 0), (0, .ref (adK 3))]) hx hb dX7_spell_3 rfl hl (by decide) rfl (fun ls hl => ?_)
  refine lv_iload_n hx hb dX7_spell_4 rfl (lv_at hl 0 rfl) ?_
  refine lv_bipush (v := 6) hx hb dX7_spell_5 (by decide) ?_
  refine lv_icmp_ge (tgt := 44) hx hb dX7_spell_7 (by decide) (fun c => absurd c (by decide)) (fun _ => ?_)
  refine lv_iload_n hx hb dX7_spell_10 rfl (lv_at hl 1 rfl) ?_
  refine lv_bipush (v := 27) hx hb dX7_spell_11 (by decide) ?_
  refine k_imul (v := 0) hx hb (by decide) dX7_spell_13 ?_
  refine lv_iload_n hx hb dX7_spell_14 rfl (lv_at hl 0 rfl) ?_
  refine lv_aload_n hx hb dX7_spell_15 rfl (lv_at hl 2 rfl) ?_
  have hFc : ∀ q : Nat, va_A [] s.heap.size q → A q := fun q h => by
    rcases h with ⟨k9, e9, h9⟩ | h9
    · simp at h9
    · exact hA q (Nat.le_trans hS.1 h9)
  refine va_calli (va_runV (As := []) (rest := [.int 0, .int 0]) ⟨hx, hb, hml, hown, hts⟩ (c_J0_length_8abf5 l adK adV z 3 s.heap.size (by decide)) (cwV 0 hts (gV t_440 t_441 t_442 t_142 t_443) rfl rfl rfl (by decide +kernel) ⟨Nat.le_of_ble_eq_true rfl, Nat.le_of_ble_eq_true rfl⟩) ⟨jBlind, vk_recv (i := 3) hE (by decide) hS, jGo hE0 hAz hS hz⟩ rfl rfl hl.1 rfl (lv_room (Nat.le_of_ble_eq_true rfl)) dX7_spell_16 ⟨Nat.le_of_ble_eq_true rfl, Nat.le_of_ble_eq_true rfl⟩) hS (fun q _ h => hFc q h) hFc (fun r9 u t H1 locs ht hvm hw hB hz1 hk1 hS => ?_)
  obtain rfl : r9 = 3 := hw.trans (by decide)
  refine lv_icmp_ge (tgt := 35) hx hb dX7_spell_19 (by decide) (fun c => absurd c (by decide)) (fun _ => ?_)
  refine lv_aload_n hx hb dX7_spell_22 rfl (lv_at hl 2 rfl) ?_
  refine lv_iload_n hx hb dX7_spell_23 rfl (lv_at hl 0 rfl) ?_
  have hFc : ∀ q : Nat, va_A [] H1.size q → A q := fun q h => by
    rcases h with ⟨k9, e9, h9⟩ | h9
    · simp at h9
    · exact hA q (Nat.le_trans hS.1 h9)
  refine va_calli (va_runV (As := [.int (nI 0)]) (rest := [.int 0]) ⟨hx, hb, hml, hown, hts⟩ (c_J0_charAt_5068e l adK adV z 3 0 H1.size (by decide) (by decide)) (cwV 1 hts (gV t_450 t_451 t_452 t_142 t_453) rfl rfl rfl (by decide +kernel) ⟨Nat.le_of_ble_eq_true rfl, Nat.le_of_ble_eq_true rfl⟩) ⟨jBlind, vk_recv (i := 3) hE (by decide) hS, jGo hE0 hAz hS hz⟩ rfl rfl hl.1 rfl (lv_room (Nat.le_of_ble_eq_true rfl)) dX7_spell_24 ⟨Nat.le_of_ble_eq_true rfl, Nat.le_of_ble_eq_true rfl⟩) hS (fun q _ h => hFc q h) hFc (fun r9 u t H1 locs ht hvm hw hB hz1 hk1 hS => ?_)
  obtain rfl : r9 = 97 := hw.trans (by decide)
  refine lv_bipush (v := 97) hx hb dX7_spell_27 (by decide) ?_
  refine k_isub (v := 0) hx hb (by decide) dX7_spell_29 ?_
  refine lv_iconst (v := 1) hx hb dX7_spell_30 (by decide) ?_
  refine k_iadd (v := 1) hx hb (by decide) dX7_spell_31 ?_
  refine lv_goto (tgt := 36) hx hb dX7_spell_32 (by decide) ?_
  refine k_iadd (v := 1) hx hb (by decide) dX7_spell_36 ?_
  refine lv_istore_n (lv' := [(1, .int 1), (2, .int 0), (0, .ref (adK 3))]) hx hb dX7_spell_37 rfl hl (by decide) rfl (fun ls hl => ?_)
  refine lv_iinc (v := 1) (lv' := [(2, .int 1), (1, .int 1), (0, .ref (adK 3))]) hx hb dX7_spell_38 hl (k := 1) rfl (by decide) (by decide) rfl (fun ls hl => ?_)
  refine lv_goto (tgt := 4) hx hb dX7_spell_41 (by decide) ?_
  refine lv_iload_n hx hb dX7_spell_4 rfl (lv_at hl 0 rfl) ?_
  refine lv_bipush (v := 6) hx hb dX7_spell_5 (by decide) ?_
  refine lv_icmp_ge (tgt := 44) hx hb dX7_spell_7 (by decide) (fun c => absurd c (by decide)) (fun _ => ?_)
  refine lv_iload_n hx hb dX7_spell_10 rfl (lv_at hl 1 rfl) ?_
  refine lv_bipush (v := 27) hx hb dX7_spell_11 (by decide) ?_
  refine k_imul (v := 27) hx hb (by decide) dX7_spell_13 ?_
  refine lv_iload_n hx hb dX7_spell_14 rfl (lv_at hl 0 rfl) ?_
  refine lv_aload_n hx hb dX7_spell_15 rfl (lv_at hl 2 rfl) ?_
  have hFc : ∀ q : Nat, va_A [] H1.size q → A q := fun q h => by
    rcases h with ⟨k9, e9, h9⟩ | h9
    · simp at h9
    · exact hA q (Nat.le_trans hS.1 h9)
  refine va_calli (va_runV (As := []) (rest := [.int 1, .int 27]) ⟨hx, hb, hml, hown, hts⟩ (c_J0_length_8abf5 l adK adV z 3 H1.size (by decide)) (cwV 0 hts (gV t_440 t_441 t_442 t_142 t_443) rfl rfl rfl (by decide +kernel) ⟨Nat.le_of_ble_eq_true rfl, Nat.le_of_ble_eq_true rfl⟩) ⟨jBlind, vk_recv (i := 3) hE (by decide) hS, jGo hE0 hAz hS hz⟩ rfl rfl hl.1 rfl (lv_room (Nat.le_of_ble_eq_true rfl)) dX7_spell_16 ⟨Nat.le_of_ble_eq_true rfl, Nat.le_of_ble_eq_true rfl⟩) hS (fun q _ h => hFc q h) hFc (fun r9 u t H1 locs ht hvm hw hB hz1 hk1 hS => ?_)
  obtain rfl : r9 = 3 := hw.trans (by decide)
  refine lv_icmp_ge (tgt := 35) hx hb dX7_spell_19 (by decide) (fun c => absurd c (by decide)) (fun _ => ?_)
  refine lv_aload_n hx hb dX7_spell_22 rfl (lv_at hl 2 rfl) ?_
  refine lv_iload_n hx hb dX7_spell_23 rfl (lv_at hl 0 rfl) ?_
  have hFc : ∀ q : Nat, va_A [] H1.size q → A q := fun q h => by
    rcases h with ⟨k9, e9, h9⟩ | h9
    · simp at h9
    · exact hA q (Nat.le_trans hS.1 h9)
  refine va_calli (va_runV (As := [.int (nI 1)]) (rest := [.int 27]) ⟨hx, hb, hml, hown, hts⟩ (c_J0_charAt_5068e l adK adV z 3 1 H1.size (by decide) (by decide)) (cwV 1 hts (gV t_450 t_451 t_452 t_142 t_453) rfl rfl rfl (by decide +kernel) ⟨Nat.le_of_ble_eq_true rfl, Nat.le_of_ble_eq_true rfl⟩) ⟨jBlind, vk_recv (i := 3) hE (by decide) hS, jGo hE0 hAz hS hz⟩ rfl rfl hl.1 rfl (lv_room (Nat.le_of_ble_eq_true rfl)) dX7_spell_24 ⟨Nat.le_of_ble_eq_true rfl, Nat.le_of_ble_eq_true rfl⟩) hS (fun q _ h => hFc q h) hFc (fun r9 u t H1 locs ht hvm hw hB hz1 hk1 hS => ?_)
  obtain rfl : r9 = 114 := hw.trans (by decide)
  refine lv_bipush (v := 97) hx hb dX7_spell_27 (by decide) ?_
  refine k_isub (v := 17) hx hb (by decide) dX7_spell_29 ?_
  refine lv_iconst (v := 1) hx hb dX7_spell_30 (by decide) ?_
  refine k_iadd (v := 18) hx hb (by decide) dX7_spell_31 ?_
  refine lv_goto (tgt := 36) hx hb dX7_spell_32 (by decide) ?_
  refine k_iadd (v := 45) hx hb (by decide) dX7_spell_36 ?_
  refine lv_istore_n (lv' := [(1, .int 45), (2, .int 1), (0, .ref (adK 3))]) hx hb dX7_spell_37 rfl hl (by decide) rfl (fun ls hl => ?_)
  refine lv_iinc (v := 2) (lv' := [(2, .int 2), (1, .int 45), (0, .ref (adK 3))]) hx hb dX7_spell_38 hl (k := 1) rfl (by decide) (by decide) rfl (fun ls hl => ?_)
  refine lv_goto (tgt := 4) hx hb dX7_spell_41 (by decide) ?_
  refine lv_iload_n hx hb dX7_spell_4 rfl (lv_at hl 0 rfl) ?_
  refine lv_bipush (v := 6) hx hb dX7_spell_5 (by decide) ?_
  refine lv_icmp_ge (tgt := 44) hx hb dX7_spell_7 (by decide) (fun c => absurd c (by decide)) (fun _ => ?_)
  refine lv_iload_n hx hb dX7_spell_10 rfl (lv_at hl 1 rfl) ?_
  refine lv_bipush (v := 27) hx hb dX7_spell_11 (by decide) ?_
  refine k_imul (v := 1215) hx hb (by decide) dX7_spell_13 ?_
  refine lv_iload_n hx hb dX7_spell_14 rfl (lv_at hl 0 rfl) ?_
  refine lv_aload_n hx hb dX7_spell_15 rfl (lv_at hl 2 rfl) ?_
  have hFc : ∀ q : Nat, va_A [] H1.size q → A q := fun q h => by
    rcases h with ⟨k9, e9, h9⟩ | h9
    · simp at h9
    · exact hA q (Nat.le_trans hS.1 h9)
  refine va_calli (va_runV (As := []) (rest := [.int 2, .int 1215]) ⟨hx, hb, hml, hown, hts⟩ (c_J0_length_8abf5 l adK adV z 3 H1.size (by decide)) (cwV 0 hts (gV t_440 t_441 t_442 t_142 t_443) rfl rfl rfl (by decide +kernel) ⟨Nat.le_of_ble_eq_true rfl, Nat.le_of_ble_eq_true rfl⟩) ⟨jBlind, vk_recv (i := 3) hE (by decide) hS, jGo hE0 hAz hS hz⟩ rfl rfl hl.1 rfl (lv_room (Nat.le_of_ble_eq_true rfl)) dX7_spell_16 ⟨Nat.le_of_ble_eq_true rfl, Nat.le_of_ble_eq_true rfl⟩) hS (fun q _ h => hFc q h) hFc (fun r9 u t H1 locs ht hvm hw hB hz1 hk1 hS => ?_)
  obtain rfl : r9 = 3 := hw.trans (by decide)
  refine lv_icmp_ge (tgt := 35) hx hb dX7_spell_19 (by decide) (fun c => absurd c (by decide)) (fun _ => ?_)
  refine lv_aload_n hx hb dX7_spell_22 rfl (lv_at hl 2 rfl) ?_
  refine lv_iload_n hx hb dX7_spell_23 rfl (lv_at hl 0 rfl) ?_
  have hFc : ∀ q : Nat, va_A [] H1.size q → A q := fun q h => by
    rcases h with ⟨k9, e9, h9⟩ | h9
    · simp at h9
    · exact hA q (Nat.le_trans hS.1 h9)
  refine va_calli (va_runV (As := [.int (nI 2)]) (rest := [.int 1215]) ⟨hx, hb, hml, hown, hts⟩ (c_J0_charAt_5068e l adK adV z 3 2 H1.size (by decide) (by decide)) (cwV 1 hts (gV t_450 t_451 t_452 t_142 t_453) rfl rfl rfl (by decide +kernel) ⟨Nat.le_of_ble_eq_true rfl, Nat.le_of_ble_eq_true rfl⟩) ⟨jBlind, vk_recv (i := 3) hE (by decide) hS, jGo hE0 hAz hS hz⟩ rfl rfl hl.1 rfl (lv_room (Nat.le_of_ble_eq_true rfl)) dX7_spell_24 ⟨Nat.le_of_ble_eq_true rfl, Nat.le_of_ble_eq_true rfl⟩) hS (fun q _ h => hFc q h) hFc (fun r9 u t H1 locs ht hvm hw hB hz1 hk1 hS => ?_)
  obtain rfl : r9 = 109 := hw.trans (by decide)
  refine lv_bipush (v := 97) hx hb dX7_spell_27 (by decide) ?_
  refine k_isub (v := 12) hx hb (by decide) dX7_spell_29 ?_
  refine lv_iconst (v := 1) hx hb dX7_spell_30 (by decide) ?_
  refine k_iadd (v := 13) hx hb (by decide) dX7_spell_31 ?_
  refine lv_goto (tgt := 36) hx hb dX7_spell_32 (by decide) ?_
  refine k_iadd (v := 1228) hx hb (by decide) dX7_spell_36 ?_
  refine lv_istore_n (lv' := [(1, .int 1228), (2, .int 2), (0, .ref (adK 3))]) hx hb dX7_spell_37 rfl hl (by decide) rfl (fun ls hl => ?_)
  refine lv_iinc (v := 3) (lv' := [(2, .int 3), (1, .int 1228), (0, .ref (adK 3))]) hx hb dX7_spell_38 hl (k := 1) rfl (by decide) (by decide) rfl (fun ls hl => ?_)
  refine lv_goto (tgt := 4) hx hb dX7_spell_41 (by decide) ?_
  refine lv_iload_n hx hb dX7_spell_4 rfl (lv_at hl 0 rfl) ?_
  refine lv_bipush (v := 6) hx hb dX7_spell_5 (by decide) ?_
  refine lv_icmp_ge (tgt := 44) hx hb dX7_spell_7 (by decide) (fun c => absurd c (by decide)) (fun _ => ?_)
  refine lv_iload_n hx hb dX7_spell_10 rfl (lv_at hl 1 rfl) ?_
  refine lv_bipush (v := 27) hx hb dX7_spell_11 (by decide) ?_
  refine k_imul (v := 33156) hx hb (by decide) dX7_spell_13 ?_
  refine lv_iload_n hx hb dX7_spell_14 rfl (lv_at hl 0 rfl) ?_
  refine lv_aload_n hx hb dX7_spell_15 rfl (lv_at hl 2 rfl) ?_
  have hFc : ∀ q : Nat, va_A [] H1.size q → A q := fun q h => by
    rcases h with ⟨k9, e9, h9⟩ | h9
    · simp at h9
    · exact hA q (Nat.le_trans hS.1 h9)
  refine va_calli (va_runV (As := []) (rest := [.int 3, .int 33156]) ⟨hx, hb, hml, hown, hts⟩ (c_J0_length_8abf5 l adK adV z 3 H1.size (by decide)) (cwV 0 hts (gV t_440 t_441 t_442 t_142 t_443) rfl rfl rfl (by decide +kernel) ⟨Nat.le_of_ble_eq_true rfl, Nat.le_of_ble_eq_true rfl⟩) ⟨jBlind, vk_recv (i := 3) hE (by decide) hS, jGo hE0 hAz hS hz⟩ rfl rfl hl.1 rfl (lv_room (Nat.le_of_ble_eq_true rfl)) dX7_spell_16 ⟨Nat.le_of_ble_eq_true rfl, Nat.le_of_ble_eq_true rfl⟩) hS (fun q _ h => hFc q h) hFc (fun r9 u t H1 locs ht hvm hw hB hz1 hk1 hS => ?_)
  obtain rfl : r9 = 3 := hw.trans (by decide)
  refine lv_icmp_ge (tgt := 35) hx hb dX7_spell_19 (by decide) (fun _ => ?_) (fun c => absurd (by decide) c)
  refine lv_iconst (v := 0) hx hb dX7_spell_35 (by decide) ?_
  refine k_iadd (v := 33156) hx hb (by decide) dX7_spell_36 ?_
  refine lv_istore_n (lv' := [(1, .int 33156), (2, .int 3), (0, .ref (adK 3))]) hx hb dX7_spell_37 rfl hl (by decide) rfl (fun ls hl => ?_)
  refine lv_iinc (v := 4) (lv' := [(2, .int 4), (1, .int 33156), (0, .ref (adK 3))]) hx hb dX7_spell_38 hl (k := 1) rfl (by decide) (by decide) rfl (fun ls hl => ?_)
  refine lv_goto (tgt := 4) hx hb dX7_spell_41 (by decide) ?_
  refine lv_iload_n hx hb dX7_spell_4 rfl (lv_at hl 0 rfl) ?_
  refine lv_bipush (v := 6) hx hb dX7_spell_5 (by decide) ?_
  refine lv_icmp_ge (tgt := 44) hx hb dX7_spell_7 (by decide) (fun c => absurd c (by decide)) (fun _ => ?_)
  refine lv_iload_n hx hb dX7_spell_10 rfl (lv_at hl 1 rfl) ?_
  refine lv_bipush (v := 27) hx hb dX7_spell_11 (by decide) ?_
  refine k_imul (v := 895212) hx hb (by decide) dX7_spell_13 ?_
  refine lv_iload_n hx hb dX7_spell_14 rfl (lv_at hl 0 rfl) ?_
  refine lv_aload_n hx hb dX7_spell_15 rfl (lv_at hl 2 rfl) ?_
  have hFc : ∀ q : Nat, va_A [] H1.size q → A q := fun q h => by
    rcases h with ⟨k9, e9, h9⟩ | h9
    · simp at h9
    · exact hA q (Nat.le_trans hS.1 h9)
  refine va_calli (va_runV (As := []) (rest := [.int 4, .int 895212]) ⟨hx, hb, hml, hown, hts⟩ (c_J0_length_8abf5 l adK adV z 3 H1.size (by decide)) (cwV 0 hts (gV t_440 t_441 t_442 t_142 t_443) rfl rfl rfl (by decide +kernel) ⟨Nat.le_of_ble_eq_true rfl, Nat.le_of_ble_eq_true rfl⟩) ⟨jBlind, vk_recv (i := 3) hE (by decide) hS, jGo hE0 hAz hS hz⟩ rfl rfl hl.1 rfl (lv_room (Nat.le_of_ble_eq_true rfl)) dX7_spell_16 ⟨Nat.le_of_ble_eq_true rfl, Nat.le_of_ble_eq_true rfl⟩) hS (fun q _ h => hFc q h) hFc (fun r9 u t H1 locs ht hvm hw hB hz1 hk1 hS => ?_)
  obtain rfl : r9 = 3 := hw.trans (by decide)
  refine lv_icmp_ge (tgt := 35) hx hb dX7_spell_19 (by decide) (fun _ => ?_) (fun c => absurd (by decide) c)
  refine lv_iconst (v := 0) hx hb dX7_spell_35 (by decide) ?_
  refine k_iadd (v := 895212) hx hb (by decide) dX7_spell_36 ?_
  refine lv_istore_n (lv' := [(1, .int 895212), (2, .int 4), (0, .ref (adK 3))]) hx hb dX7_spell_37 rfl hl (by decide) rfl (fun ls hl => ?_)
  refine lv_iinc (v := 5) (lv' := [(2, .int 5), (1, .int 895212), (0, .ref (adK 3))]) hx hb dX7_spell_38 hl (k := 1) rfl (by decide) (by decide) rfl (fun ls hl => ?_)
  refine lv_goto (tgt := 4) hx hb dX7_spell_41 (by decide) ?_
  refine lv_iload_n hx hb dX7_spell_4 rfl (lv_at hl 0 rfl) ?_
  refine lv_bipush (v := 6) hx hb dX7_spell_5 (by decide) ?_
  refine lv_icmp_ge (tgt := 44) hx hb dX7_spell_7 (by decide) (fun c => absurd c (by decide)) (fun _ => ?_)
  refine lv_iload_n hx hb dX7_spell_10 rfl (lv_at hl 1 rfl) ?_
  refine lv_bipush (v := 27) hx hb dX7_spell_11 (by decide) ?_
  refine k_imul (v := 24170724) hx hb (by decide) dX7_spell_13 ?_
  refine lv_iload_n hx hb dX7_spell_14 rfl (lv_at hl 0 rfl) ?_
  refine lv_aload_n hx hb dX7_spell_15 rfl (lv_at hl 2 rfl) ?_
  have hFc : ∀ q : Nat, va_A [] H1.size q → A q := fun q h => by
    rcases h with ⟨k9, e9, h9⟩ | h9
    · simp at h9
    · exact hA q (Nat.le_trans hS.1 h9)
  refine va_calli (va_runV (As := []) (rest := [.int 5, .int 24170724]) ⟨hx, hb, hml, hown, hts⟩ (c_J0_length_8abf5 l adK adV z 3 H1.size (by decide)) (cwV 0 hts (gV t_440 t_441 t_442 t_142 t_443) rfl rfl rfl (by decide +kernel) ⟨Nat.le_of_ble_eq_true rfl, Nat.le_of_ble_eq_true rfl⟩) ⟨jBlind, vk_recv (i := 3) hE (by decide) hS, jGo hE0 hAz hS hz⟩ rfl rfl hl.1 rfl (lv_room (Nat.le_of_ble_eq_true rfl)) dX7_spell_16 ⟨Nat.le_of_ble_eq_true rfl, Nat.le_of_ble_eq_true rfl⟩) hS (fun q _ h => hFc q h) hFc (fun r9 u t H1 locs ht hvm hw hB hz1 hk1 hS => ?_)
  obtain rfl : r9 = 3 := hw.trans (by decide)
  refine lv_icmp_ge (tgt := 35) hx hb dX7_spell_19 (by decide) (fun _ => ?_) (fun c => absurd (by decide) c)
  refine lv_iconst (v := 0) hx hb dX7_spell_35 (by decide) ?_
  refine k_iadd (v := 24170724) hx hb (by decide) dX7_spell_36 ?_
  refine lv_istore_n (lv' := [(1, .int 24170724), (2, .int 5), (0, .ref (adK 3))]) hx hb dX7_spell_37 rfl hl (by decide) rfl (fun ls hl => ?_)
  refine lv_iinc (v := 6) (lv' := [(2, .int 6), (1, .int 24170724), (0, .ref (adK 3))]) hx hb dX7_spell_38 hl (k := 1) rfl (by decide) (by decide) rfl (fun ls hl => ?_)
  refine lv_goto (tgt := 4) hx hb dX7_spell_41 (by decide) ?_
  refine lv_iload_n hx hb dX7_spell_4 rfl (lv_at hl 0 rfl) ?_
  refine lv_bipush (v := 6) hx hb dX7_spell_5 (by decide) ?_
  refine lv_icmp_ge (tgt := 44) hx hb dX7_spell_7 (by decide) (fun _ => ?_) (fun c => absurd (by decide) c)
  refine lv_iload_n hx hb dX7_spell_44 rfl (lv_at hl 1 rfl) ?_
  exact W.iret (v := 24170724) hx hb hr (fun t ht hW => ⟨⟨24170724, (), rfl, rfl, trivial⟩, hS.F ht⟩) hS.2.2 dX7_spell_45
set_option maxHeartbeats 4000000 in
set_option maxRecDepth 100000 in
theorem c_X7_spell_4 (l : Launch) (adK adV : Nat → Nat) (z : Nat) (sz : Nat) : Met l yX7_spell (.code yX7_spell cX7_spell 3 (some .int) :: WT) ({ frames := 8, cells := 0, slots := 0, locals := 700 }) (va_Pc [.ref (adK 4)] (jPre adK adV z sz)) (va_Qi (fun (r : Int32) (u : Unit) => r = 334385010) (fun _ _ => True) (va_A [] sz)) 0 0 (va_A [] sz) := by
  refine Met.ofW (cc := cX7_spell) (maxL := 3) (ret := (some .int)) (by decide) rfl ?_
  intro p e s m args below meth c s₁ B hml hv
  obtain ⟨rfl, hsz, hE0, hz⟩ := hv
  have hx := B.exec
  have hb := B.bytes
  have hr := B.returns
  have hts0 := atoms_spec (ws := .code yX7_spell cX7_spell 3 (some .int) :: WT) B.pre
  have hts : ∀ w ∈ WT, w.before _ s = true := fun w h => hts0 w (List.mem_cons_of_mem _ h)
  have hown : s.vm.findClass RX7 = some m.cls := findClass_of_methodNamed B.named
  have hlocks := B.notSynchronized
  subst hsz
  have hAz : ∀ q : Nat, va_A [] s.heap.size q → z ≤ q := fun q h => by
    rcases h with ⟨k9, e9, h9⟩ | h9
    · simp at h9
    · exact Nat.le_trans hz h9
  generalize hAe : va_A [] s.heap.size = A at hAz ⊢
  have hA : ∀ q : Nat, s.heap.size ≤ q → A q := fun q h => by rw [← hAe]; exact Or.inr h
  have hS : va_S A s.heap s.heap [] := va_S.rf
  have hE : vk_S 11 lenS bytS adK adV A s s.heap := hE0.1.narrow hAz
  have hZ : va_Z "java/lang/String" "COMPACT_STRINGS" "Z" (.int 1) A s s.heap := hE0.2.1.narrow hAz
  have hZq : va_Zq "jdk/internal/util/Preconditions" "SIOOBE_FORMATTER" "Ljava/util/function/BiFunction;" A s s.heap := hE0.2.2.1.narrow hAz
  have hl := lv_entry ([.ref (adK 4)]) (n := 3) (Nat.le_of_ble_eq_true rfl)
  rw [lg_entry_eq]
  generalize (lg_sl ([.ref (adK 4)]) ++ List.replicate (3 - (lg_sl ([.ref (adK 4)])).length) Slot.unset).toArray = ls at hl ⊢
  have hl : lv_has ls 3 [(0, .ref (adK 4))] := hl
  refine lv_iconst (v := 0) hx hb dX7_spell_0 (by decide) ?_
  refine lv_istore_n (lv' := [(1, .int 0), (0, .ref (adK 4))]) hx hb dX7_spell_1 rfl hl (by decide) rfl (fun ls hl => ?_)
  refine lv_iconst (v := 0) hx hb dX7_spell_2 (by decide) ?_
  refine lv_istore_n (lv' := [(2, .int 0), (1, .int 0), (0, .ref (adK 4))]) hx hb dX7_spell_3 rfl hl (by decide) rfl (fun ls hl => ?_)
  refine lv_iload_n hx hb dX7_spell_4 rfl (lv_at hl 0 rfl) ?_
  refine lv_bipush (v := 6) hx hb dX7_spell_5 (by decide) ?_
  refine lv_icmp_ge (tgt := 44) hx hb dX7_spell_7 (by decide) (fun c => absurd c (by decide)) (fun _ => ?_)
  refine lv_iload_n hx hb dX7_spell_10 rfl (lv_at hl 1 rfl) ?_
  refine lv_bipush (v := 27) hx hb dX7_spell_11 (by decide) ?_
  refine k_imul (v := 0) hx hb (by decide) dX7_spell_13 ?_
  refine lv_iload_n hx hb dX7_spell_14 rfl (lv_at hl 0 rfl) ?_
  refine lv_aload_n hx hb dX7_spell_15 rfl (lv_at hl 2 rfl) ?_
  have hFc : ∀ q : Nat, va_A [] s.heap.size q → A q := fun q h => by
    rcases h with ⟨k9, e9, h9⟩ | h9
    · simp at h9
    · exact hA q (Nat.le_trans hS.1 h9)
  refine va_calli (va_runV (As := []) (rest := [.int 0, .int 0]) ⟨hx, hb, hml, hown, hts⟩ (c_J0_length_8abf5 l adK adV z 4 s.heap.size (by decide)) (cwV 0 hts (gV t_440 t_441 t_442 t_142 t_443) rfl rfl rfl (by decide +kernel) ⟨Nat.le_of_ble_eq_true rfl, Nat.le_of_ble_eq_true rfl⟩) ⟨jBlind, vk_recv (i := 4) hE (by decide) hS, jGo hE0 hAz hS hz⟩ rfl rfl hl.1 rfl (lv_room (Nat.le_of_ble_eq_true rfl)) dX7_spell_16 ⟨Nat.le_of_ble_eq_true rfl, Nat.le_of_ble_eq_true rfl⟩) hS (fun q _ h => hFc q h) hFc (fun r9 u t H1 locs ht hvm hw hB hz1 hk1 hS => ?_)
  obtain rfl : r9 = 4 := hw.trans (by decide)
  refine lv_icmp_ge (tgt := 35) hx hb dX7_spell_19 (by decide) (fun c => absurd c (by decide)) (fun _ => ?_)
  refine lv_aload_n hx hb dX7_spell_22 rfl (lv_at hl 2 rfl) ?_
  refine lv_iload_n hx hb dX7_spell_23 rfl (lv_at hl 0 rfl) ?_
  have hFc : ∀ q : Nat, va_A [] H1.size q → A q := fun q h => by
    rcases h with ⟨k9, e9, h9⟩ | h9
    · simp at h9
    · exact hA q (Nat.le_trans hS.1 h9)
  refine va_calli (va_runV (As := [.int (nI 0)]) (rest := [.int 0]) ⟨hx, hb, hml, hown, hts⟩ (c_J0_charAt_5068e l adK adV z 4 0 H1.size (by decide) (by decide)) (cwV 1 hts (gV t_450 t_451 t_452 t_142 t_453) rfl rfl rfl (by decide +kernel) ⟨Nat.le_of_ble_eq_true rfl, Nat.le_of_ble_eq_true rfl⟩) ⟨jBlind, vk_recv (i := 4) hE (by decide) hS, jGo hE0 hAz hS hz⟩ rfl rfl hl.1 rfl (lv_room (Nat.le_of_ble_eq_true rfl)) dX7_spell_24 ⟨Nat.le_of_ble_eq_true rfl, Nat.le_of_ble_eq_true rfl⟩) hS (fun q _ h => hFc q h) hFc (fun r9 u t H1 locs ht hvm hw hB hz1 hk1 hS => ?_)
  obtain rfl : r9 = 119 := hw.trans (by decide)
  refine lv_bipush (v := 97) hx hb dX7_spell_27 (by decide) ?_
  refine k_isub (v := 22) hx hb (by decide) dX7_spell_29 ?_
  refine lv_iconst (v := 1) hx hb dX7_spell_30 (by decide) ?_
  refine k_iadd (v := 23) hx hb (by decide) dX7_spell_31 ?_
  refine lv_goto (tgt := 36) hx hb dX7_spell_32 (by decide) ?_
  refine k_iadd (v := 23) hx hb (by decide) dX7_spell_36 ?_
  refine lv_istore_n (lv' := [(1, .int 23), (2, .int 0), (0, .ref (adK 4))]) hx hb dX7_spell_37 rfl hl (by decide) rfl (fun ls hl => ?_)
  refine lv_iinc (v := 1) (lv' := [(2, .int 1), (1, .int 23), (0, .ref (adK 4))]) hx hb dX7_spell_38 hl (k := 1) rfl (by decide) (by decide) rfl (fun ls hl => ?_)
  refine lv_goto (tgt := 4) hx hb dX7_spell_41 (by decide) ?_
  refine lv_iload_n hx hb dX7_spell_4 rfl (lv_at hl 0 rfl) ?_
  refine lv_bipush (v := 6) hx hb dX7_spell_5 (by decide) ?_
  refine lv_icmp_ge (tgt := 44) hx hb dX7_spell_7 (by decide) (fun c => absurd c (by decide)) (fun _ => ?_)
  refine lv_iload_n hx hb dX7_spell_10 rfl (lv_at hl 1 rfl) ?_
  refine lv_bipush (v := 27) hx hb dX7_spell_11 (by decide) ?_
  refine k_imul (v := 621) hx hb (by decide) dX7_spell_13 ?_
  refine lv_iload_n hx hb dX7_spell_14 rfl (lv_at hl 0 rfl) ?_
  refine lv_aload_n hx hb dX7_spell_15 rfl (lv_at hl 2 rfl) ?_
  have hFc : ∀ q : Nat, va_A [] H1.size q → A q := fun q h => by
    rcases h with ⟨k9, e9, h9⟩ | h9
    · simp at h9
    · exact hA q (Nat.le_trans hS.1 h9)
  refine va_calli (va_runV (As := []) (rest := [.int 1, .int 621]) ⟨hx, hb, hml, hown, hts⟩ (c_J0_length_8abf5 l adK adV z 4 H1.size (by decide)) (cwV 0 hts (gV t_440 t_441 t_442 t_142 t_443) rfl rfl rfl (by decide +kernel) ⟨Nat.le_of_ble_eq_true rfl, Nat.le_of_ble_eq_true rfl⟩) ⟨jBlind, vk_recv (i := 4) hE (by decide) hS, jGo hE0 hAz hS hz⟩ rfl rfl hl.1 rfl (lv_room (Nat.le_of_ble_eq_true rfl)) dX7_spell_16 ⟨Nat.le_of_ble_eq_true rfl, Nat.le_of_ble_eq_true rfl⟩) hS (fun q _ h => hFc q h) hFc (fun r9 u t H1 locs ht hvm hw hB hz1 hk1 hS => ?_)
  obtain rfl : r9 = 4 := hw.trans (by decide)
  refine lv_icmp_ge (tgt := 35) hx hb dX7_spell_19 (by decide) (fun c => absurd c (by decide)) (fun _ => ?_)
  refine lv_aload_n hx hb dX7_spell_22 rfl (lv_at hl 2 rfl) ?_
  refine lv_iload_n hx hb dX7_spell_23 rfl (lv_at hl 0 rfl) ?_
  have hFc : ∀ q : Nat, va_A [] H1.size q → A q := fun q h => by
    rcases h with ⟨k9, e9, h9⟩ | h9
    · simp at h9
    · exact hA q (Nat.le_trans hS.1 h9)
  refine va_calli (va_runV (As := [.int (nI 1)]) (rest := [.int 621]) ⟨hx, hb, hml, hown, hts⟩ (c_J0_charAt_5068e l adK adV z 4 1 H1.size (by decide) (by decide)) (cwV 1 hts (gV t_450 t_451 t_452 t_142 t_453) rfl rfl rfl (by decide +kernel) ⟨Nat.le_of_ble_eq_true rfl, Nat.le_of_ble_eq_true rfl⟩) ⟨jBlind, vk_recv (i := 4) hE (by decide) hS, jGo hE0 hAz hS hz⟩ rfl rfl hl.1 rfl (lv_room (Nat.le_of_ble_eq_true rfl)) dX7_spell_24 ⟨Nat.le_of_ble_eq_true rfl, Nat.le_of_ble_eq_true rfl⟩) hS (fun q _ h => hFc q h) hFc (fun r9 u t H1 locs ht hvm hw hB hz1 hk1 hS => ?_)
  obtain rfl : r9 = 104 := hw.trans (by decide)
  refine lv_bipush (v := 97) hx hb dX7_spell_27 (by decide) ?_
  refine k_isub (v := 7) hx hb (by decide) dX7_spell_29 ?_
  refine lv_iconst (v := 1) hx hb dX7_spell_30 (by decide) ?_
  refine k_iadd (v := 8) hx hb (by decide) dX7_spell_31 ?_
  refine lv_goto (tgt := 36) hx hb dX7_spell_32 (by decide) ?_
  refine k_iadd (v := 629) hx hb (by decide) dX7_spell_36 ?_
  refine lv_istore_n (lv' := [(1, .int 629), (2, .int 1), (0, .ref (adK 4))]) hx hb dX7_spell_37 rfl hl (by decide) rfl (fun ls hl => ?_)
  refine lv_iinc (v := 2) (lv' := [(2, .int 2), (1, .int 629), (0, .ref (adK 4))]) hx hb dX7_spell_38 hl (k := 1) rfl (by decide) (by decide) rfl (fun ls hl => ?_)
  refine lv_goto (tgt := 4) hx hb dX7_spell_41 (by decide) ?_
  refine lv_iload_n hx hb dX7_spell_4 rfl (lv_at hl 0 rfl) ?_
  refine lv_bipush (v := 6) hx hb dX7_spell_5 (by decide) ?_
  refine lv_icmp_ge (tgt := 44) hx hb dX7_spell_7 (by decide) (fun c => absurd c (by decide)) (fun _ => ?_)
  refine lv_iload_n hx hb dX7_spell_10 rfl (lv_at hl 1 rfl) ?_
  refine lv_bipush (v := 27) hx hb dX7_spell_11 (by decide) ?_
  refine k_imul (v := 16983) hx hb (by decide) dX7_spell_13 ?_
  refine lv_iload_n hx hb dX7_spell_14 rfl (lv_at hl 0 rfl) ?_
  refine lv_aload_n hx hb dX7_spell_15 rfl (lv_at hl 2 rfl) ?_
  have hFc : ∀ q : Nat, va_A [] H1.size q → A q := fun q h => by
    rcases h with ⟨k9, e9, h9⟩ | h9
    · simp at h9
    · exact hA q (Nat.le_trans hS.1 h9)
  refine va_calli (va_runV (As := []) (rest := [.int 2, .int 16983]) ⟨hx, hb, hml, hown, hts⟩ (c_J0_length_8abf5 l adK adV z 4 H1.size (by decide)) (cwV 0 hts (gV t_440 t_441 t_442 t_142 t_443) rfl rfl rfl (by decide +kernel) ⟨Nat.le_of_ble_eq_true rfl, Nat.le_of_ble_eq_true rfl⟩) ⟨jBlind, vk_recv (i := 4) hE (by decide) hS, jGo hE0 hAz hS hz⟩ rfl rfl hl.1 rfl (lv_room (Nat.le_of_ble_eq_true rfl)) dX7_spell_16 ⟨Nat.le_of_ble_eq_true rfl, Nat.le_of_ble_eq_true rfl⟩) hS (fun q _ h => hFc q h) hFc (fun r9 u t H1 locs ht hvm hw hB hz1 hk1 hS => ?_)
  obtain rfl : r9 = 4 := hw.trans (by decide)
  refine lv_icmp_ge (tgt := 35) hx hb dX7_spell_19 (by decide) (fun c => absurd c (by decide)) (fun _ => ?_)
  refine lv_aload_n hx hb dX7_spell_22 rfl (lv_at hl 2 rfl) ?_
  refine lv_iload_n hx hb dX7_spell_23 rfl (lv_at hl 0 rfl) ?_
  have hFc : ∀ q : Nat, va_A [] H1.size q → A q := fun q h => by
    rcases h with ⟨k9, e9, h9⟩ | h9
    · simp at h9
    · exact hA q (Nat.le_trans hS.1 h9)
  refine va_calli (va_runV (As := [.int (nI 2)]) (rest := [.int 16983]) ⟨hx, hb, hml, hown, hts⟩ (c_J0_charAt_5068e l adK adV z 4 2 H1.size (by decide) (by decide)) (cwV 1 hts (gV t_450 t_451 t_452 t_142 t_453) rfl rfl rfl (by decide +kernel) ⟨Nat.le_of_ble_eq_true rfl, Nat.le_of_ble_eq_true rfl⟩) ⟨jBlind, vk_recv (i := 4) hE (by decide) hS, jGo hE0 hAz hS hz⟩ rfl rfl hl.1 rfl (lv_room (Nat.le_of_ble_eq_true rfl)) dX7_spell_24 ⟨Nat.le_of_ble_eq_true rfl, Nat.le_of_ble_eq_true rfl⟩) hS (fun q _ h => hFc q h) hFc (fun r9 u t H1 locs ht hvm hw hB hz1 hk1 hS => ?_)
  obtain rfl : r9 = 101 := hw.trans (by decide)
  refine lv_bipush (v := 97) hx hb dX7_spell_27 (by decide) ?_
  refine k_isub (v := 4) hx hb (by decide) dX7_spell_29 ?_
  refine lv_iconst (v := 1) hx hb dX7_spell_30 (by decide) ?_
  refine k_iadd (v := 5) hx hb (by decide) dX7_spell_31 ?_
  refine lv_goto (tgt := 36) hx hb dX7_spell_32 (by decide) ?_
  refine k_iadd (v := 16988) hx hb (by decide) dX7_spell_36 ?_
  refine lv_istore_n (lv' := [(1, .int 16988), (2, .int 2), (0, .ref (adK 4))]) hx hb dX7_spell_37 rfl hl (by decide) rfl (fun ls hl => ?_)
  refine lv_iinc (v := 3) (lv' := [(2, .int 3), (1, .int 16988), (0, .ref (adK 4))]) hx hb dX7_spell_38 hl (k := 1) rfl (by decide) (by decide) rfl (fun ls hl => ?_)
  refine lv_goto (tgt := 4) hx hb dX7_spell_41 (by decide) ?_
  refine lv_iload_n hx hb dX7_spell_4 rfl (lv_at hl 0 rfl) ?_
  refine lv_bipush (v := 6) hx hb dX7_spell_5 (by decide) ?_
  refine lv_icmp_ge (tgt := 44) hx hb dX7_spell_7 (by decide) (fun c => absurd c (by decide)) (fun _ => ?_)
  refine lv_iload_n hx hb dX7_spell_10 rfl (lv_at hl 1 rfl) ?_
  refine lv_bipush (v := 27) hx hb dX7_spell_11 (by decide) ?_
  refine k_imul (v := 458676) hx hb (by decide) dX7_spell_13 ?_
  refine lv_iload_n hx hb dX7_spell_14 rfl (lv_at hl 0 rfl) ?_
  refine lv_aload_n hx hb dX7_spell_15 rfl (lv_at hl 2 rfl) ?_
  have hFc : ∀ q : Nat, va_A [] H1.size q → A q := fun q h => by
    rcases h with ⟨k9, e9, h9⟩ | h9
    · simp at h9
    · exact hA q (Nat.le_trans hS.1 h9)
  refine va_calli (va_runV (As := []) (rest := [.int 3, .int 458676]) ⟨hx, hb, hml, hown, hts⟩ (c_J0_length_8abf5 l adK adV z 4 H1.size (by decide)) (cwV 0 hts (gV t_440 t_441 t_442 t_142 t_443) rfl rfl rfl (by decide +kernel) ⟨Nat.le_of_ble_eq_true rfl, Nat.le_of_ble_eq_true rfl⟩) ⟨jBlind, vk_recv (i := 4) hE (by decide) hS, jGo hE0 hAz hS hz⟩ rfl rfl hl.1 rfl (lv_room (Nat.le_of_ble_eq_true rfl)) dX7_spell_16 ⟨Nat.le_of_ble_eq_true rfl, Nat.le_of_ble_eq_true rfl⟩) hS (fun q _ h => hFc q h) hFc (fun r9 u t H1 locs ht hvm hw hB hz1 hk1 hS => ?_)
  obtain rfl : r9 = 4 := hw.trans (by decide)
  refine lv_icmp_ge (tgt := 35) hx hb dX7_spell_19 (by decide) (fun c => absurd c (by decide)) (fun _ => ?_)
  refine lv_aload_n hx hb dX7_spell_22 rfl (lv_at hl 2 rfl) ?_
  refine lv_iload_n hx hb dX7_spell_23 rfl (lv_at hl 0 rfl) ?_
  have hFc : ∀ q : Nat, va_A [] H1.size q → A q := fun q h => by
    rcases h with ⟨k9, e9, h9⟩ | h9
    · simp at h9
    · exact hA q (Nat.le_trans hS.1 h9)
  refine va_calli (va_runV (As := [.int (nI 3)]) (rest := [.int 458676]) ⟨hx, hb, hml, hown, hts⟩ (c_J0_charAt_5068e l adK adV z 4 3 H1.size (by decide) (by decide)) (cwV 1 hts (gV t_450 t_451 t_452 t_142 t_453) rfl rfl rfl (by decide +kernel) ⟨Nat.le_of_ble_eq_true rfl, Nat.le_of_ble_eq_true rfl⟩) ⟨jBlind, vk_recv (i := 4) hE (by decide) hS, jGo hE0 hAz hS hz⟩ rfl rfl hl.1 rfl (lv_room (Nat.le_of_ble_eq_true rfl)) dX7_spell_24 ⟨Nat.le_of_ble_eq_true rfl, Nat.le_of_ble_eq_true rfl⟩) hS (fun q _ h => hFc q h) hFc (fun r9 u t H1 locs ht hvm hw hB hz1 hk1 hS => ?_)
  obtain rfl : r9 = 110 := hw.trans (by decide)
  refine lv_bipush (v := 97) hx hb dX7_spell_27 (by decide) ?_
  refine k_isub (v := 13) hx hb (by decide) dX7_spell_29 ?_
  refine lv_iconst (v := 1) hx hb dX7_spell_30 (by decide) ?_
  refine k_iadd (v := 14) hx hb (by decide) dX7_spell_31 ?_
  refine lv_goto (tgt := 36) hx hb dX7_spell_32 (by decide) ?_
  refine k_iadd (v := 458690) hx hb (by decide) dX7_spell_36 ?_
  refine lv_istore_n (lv' := [(1, .int 458690), (2, .int 3), (0, .ref (adK 4))]) hx hb dX7_spell_37 rfl hl (by decide) rfl (fun ls hl => ?_)
  refine lv_iinc (v := 4) (lv' := [(2, .int 4), (1, .int 458690), (0, .ref (adK 4))]) hx hb dX7_spell_38 hl (k := 1) rfl (by decide) (by decide) rfl (fun ls hl => ?_)
  refine lv_goto (tgt := 4) hx hb dX7_spell_41 (by decide) ?_
  refine lv_iload_n hx hb dX7_spell_4 rfl (lv_at hl 0 rfl) ?_
  refine lv_bipush (v := 6) hx hb dX7_spell_5 (by decide) ?_
  refine lv_icmp_ge (tgt := 44) hx hb dX7_spell_7 (by decide) (fun c => absurd c (by decide)) (fun _ => ?_)
  refine lv_iload_n hx hb dX7_spell_10 rfl (lv_at hl 1 rfl) ?_
  refine lv_bipush (v := 27) hx hb dX7_spell_11 (by decide) ?_
  refine k_imul (v := 12384630) hx hb (by decide) dX7_spell_13 ?_
  refine lv_iload_n hx hb dX7_spell_14 rfl (lv_at hl 0 rfl) ?_
  refine lv_aload_n hx hb dX7_spell_15 rfl (lv_at hl 2 rfl) ?_
  have hFc : ∀ q : Nat, va_A [] H1.size q → A q := fun q h => by
    rcases h with ⟨k9, e9, h9⟩ | h9
    · simp at h9
    · exact hA q (Nat.le_trans hS.1 h9)
  refine va_calli (va_runV (As := []) (rest := [.int 4, .int 12384630]) ⟨hx, hb, hml, hown, hts⟩ (c_J0_length_8abf5 l adK adV z 4 H1.size (by decide)) (cwV 0 hts (gV t_440 t_441 t_442 t_142 t_443) rfl rfl rfl (by decide +kernel) ⟨Nat.le_of_ble_eq_true rfl, Nat.le_of_ble_eq_true rfl⟩) ⟨jBlind, vk_recv (i := 4) hE (by decide) hS, jGo hE0 hAz hS hz⟩ rfl rfl hl.1 rfl (lv_room (Nat.le_of_ble_eq_true rfl)) dX7_spell_16 ⟨Nat.le_of_ble_eq_true rfl, Nat.le_of_ble_eq_true rfl⟩) hS (fun q _ h => hFc q h) hFc (fun r9 u t H1 locs ht hvm hw hB hz1 hk1 hS => ?_)
  obtain rfl : r9 = 4 := hw.trans (by decide)
  refine lv_icmp_ge (tgt := 35) hx hb dX7_spell_19 (by decide) (fun _ => ?_) (fun c => absurd (by decide) c)
  refine lv_iconst (v := 0) hx hb dX7_spell_35 (by decide) ?_
  refine k_iadd (v := 12384630) hx hb (by decide) dX7_spell_36 ?_
  refine lv_istore_n (lv' := [(1, .int 12384630), (2, .int 4), (0, .ref (adK 4))]) hx hb dX7_spell_37 rfl hl (by decide) rfl (fun ls hl => ?_)
  refine lv_iinc (v := 5) (lv' := [(2, .int 5), (1, .int 12384630), (0, .ref (adK 4))]) hx hb dX7_spell_38 hl (k := 1) rfl (by decide) (by decide) rfl (fun ls hl => ?_)
  refine lv_goto (tgt := 4) hx hb dX7_spell_41 (by decide) ?_
  refine lv_iload_n hx hb dX7_spell_4 rfl (lv_at hl 0 rfl) ?_
  refine lv_bipush (v := 6) hx hb dX7_spell_5 (by decide) ?_
  refine lv_icmp_ge (tgt := 44) hx hb dX7_spell_7 (by decide) (fun c => absurd c (by decide)) (fun _ => ?_)
  refine lv_iload_n hx hb dX7_spell_10 rfl (lv_at hl 1 rfl) ?_
  refine lv_bipush (v := 27) hx hb dX7_spell_11 (by decide) ?_
  refine k_imul (v := 334385010) hx hb (by decide) dX7_spell_13 ?_
  refine lv_iload_n hx hb dX7_spell_14 rfl (lv_at hl 0 rfl) ?_
  refine lv_aload_n hx hb dX7_spell_15 rfl (lv_at hl 2 rfl) ?_
  have hFc : ∀ q : Nat, va_A [] H1.size q → A q := fun q h => by
    rcases h with ⟨k9, e9, h9⟩ | h9
    · simp at h9
    · exact hA q (Nat.le_trans hS.1 h9)
  refine va_calli (va_runV (As := []) (rest := [.int 5, .int 334385010]) ⟨hx, hb, hml, hown, hts⟩ (c_J0_length_8abf5 l adK adV z 4 H1.size (by decide)) (cwV 0 hts (gV t_440 t_441 t_442 t_142 t_443) rfl rfl rfl (by decide +kernel) ⟨Nat.le_of_ble_eq_true rfl, Nat.le_of_ble_eq_true rfl⟩) ⟨jBlind, vk_recv (i := 4) hE (by decide) hS, jGo hE0 hAz hS hz⟩ rfl rfl hl.1 rfl (lv_room (Nat.le_of_ble_eq_true rfl)) dX7_spell_16 ⟨Nat.le_of_ble_eq_true rfl, Nat.le_of_ble_eq_true rfl⟩) hS (fun q _ h => hFc q h) hFc (fun r9 u t H1 locs ht hvm hw hB hz1 hk1 hS => ?_)
  obtain rfl : r9 = 4 := hw.trans (by decide)
  refine lv_icmp_ge (tgt := 35) hx hb dX7_spell_19 (by decide) (fun _ => ?_) (fun c => absurd (by decide) c)
  refine lv_iconst (v := 0) hx hb dX7_spell_35 (by decide) ?_
  refine k_iadd (v := 334385010) hx hb (by decide) dX7_spell_36 ?_
  refine lv_istore_n (lv' := [(1, .int 334385010), (2, .int 5), (0, .ref (adK 4))]) hx hb dX7_spell_37 rfl hl (by decide) rfl (fun ls hl => ?_)
  refine lv_iinc (v := 6) (lv' := [(2, .int 6), (1, .int 334385010), (0, .ref (adK 4))]) hx hb dX7_spell_38 hl (k := 1) rfl (by decide) (by decide) rfl (fun ls hl => ?_)
  refine lv_goto (tgt := 4) hx hb dX7_spell_41 (by decide) ?_
  refine lv_iload_n hx hb dX7_spell_4 rfl (lv_at hl 0 rfl) ?_
  refine lv_bipush (v := 6) hx hb dX7_spell_5 (by decide) ?_
  refine lv_icmp_ge (tgt := 44) hx hb dX7_spell_7 (by decide) (fun _ => ?_) (fun c => absurd (by decide) c)
  refine lv_iload_n hx hb dX7_spell_44 rfl (lv_at hl 1 rfl) ?_
  exact W.iret (v := 334385010) hx hb hr (fun t ht hW => ⟨⟨334385010, (), rfl, rfl, trivial⟩, hS.F ht⟩) hS.2.2 dX7_spell_45
set_option maxHeartbeats 4000000 in
set_option maxRecDepth 100000 in
theorem c_X7_spell_5 (l : Launch) (adK adV : Nat → Nat) (z : Nat) (sz : Nat) : Met l yX7_spell (.code yX7_spell cX7_spell 3 (some .int) :: WT) ({ frames := 8, cells := 0, slots := 0, locals := 700 }) (va_Pc [.ref (adK 5)] (jPre adK adV z sz)) (va_Qi (fun (r : Int32) (u : Unit) => r = 269680428) (fun _ _ => True) (va_A [] sz)) 0 0 (va_A [] sz) := by
  refine Met.ofW (cc := cX7_spell) (maxL := 3) (ret := (some .int)) (by decide) rfl ?_
  intro p e s m args below meth c s₁ B hml hv
  obtain ⟨rfl, hsz, hE0, hz⟩ := hv
  have hx := B.exec
  have hb := B.bytes
  have hr := B.returns
  have hts0 := atoms_spec (ws := .code yX7_spell cX7_spell 3 (some .int) :: WT) B.pre
  have hts : ∀ w ∈ WT, w.before _ s = true := fun w h => hts0 w (List.mem_cons_of_mem _ h)
  have hown : s.vm.findClass RX7 = some m.cls := findClass_of_methodNamed B.named
  have hlocks := B.notSynchronized
  subst hsz
  have hAz : ∀ q : Nat, va_A [] s.heap.size q → z ≤ q := fun q h => by
    rcases h with ⟨k9, e9, h9⟩ | h9
    · simp at h9
    · exact Nat.le_trans hz h9
  generalize hAe : va_A [] s.heap.size = A at hAz ⊢
  have hA : ∀ q : Nat, s.heap.size ≤ q → A q := fun q h => by rw [← hAe]; exact Or.inr h
  have hS : va_S A s.heap s.heap [] := va_S.rf
  have hE : vk_S 11 lenS bytS adK adV A s s.heap := hE0.1.narrow hAz
  have hZ : va_Z "java/lang/String" "COMPACT_STRINGS" "Z" (.int 1) A s s.heap := hE0.2.1.narrow hAz
  have hZq : va_Zq "jdk/internal/util/Preconditions" "SIOOBE_FORMATTER" "Ljava/util/function/BiFunction;" A s s.heap := hE0.2.2.1.narrow hAz
  have hl := lv_entry ([.ref (adK 5)]) (n := 3) (Nat.le_of_ble_eq_true rfl)
  rw [lg_entry_eq]
  generalize (lg_sl ([.ref (adK 5)]) ++ List.replicate (3 - (lg_sl ([.ref (adK 5)])).length) Slot.unset).toArray = ls at hl ⊢
  have hl : lv_has ls 3 [(0, .ref (adK 5))] := hl
  refine lv_iconst (v := 0) hx hb dX7_spell_0 (by decide) ?_
  refine lv_istore_n (lv' := [(1, .int 0), (0, .ref (adK 5))]) hx hb dX7_spell_1 rfl hl (by decide) rfl (fun ls hl => ?_)
  refine lv_iconst (v := 0) hx hb dX7_spell_2 (by decide) ?_
  refine lv_istore_n (lv' := [(2, .int 0), (1, .int 0), (0, .ref (adK 5))]) hx hb dX7_spell_3 rfl hl (by decide) rfl (fun ls hl => ?_)
  refine lv_iload_n hx hb dX7_spell_4 rfl (lv_at hl 0 rfl) ?_
  refine lv_bipush (v := 6) hx hb dX7_spell_5 (by decide) ?_
  refine lv_icmp_ge (tgt := 44) hx hb dX7_spell_7 (by decide) (fun c => absurd c (by decide)) (fun _ => ?_)
  refine lv_iload_n hx hb dX7_spell_10 rfl (lv_at hl 1 rfl) ?_
  refine lv_bipush (v := 27) hx hb dX7_spell_11 (by decide) ?_
  refine k_imul (v := 0) hx hb (by decide) dX7_spell_13 ?_
  refine lv_iload_n hx hb dX7_spell_14 rfl (lv_at hl 0 rfl) ?_
  refine lv_aload_n hx hb dX7_spell_15 rfl (lv_at hl 2 rfl) ?_
  have hFc : ∀ q : Nat, va_A [] s.heap.size q → A q := fun q h => by
    rcases h with ⟨k9, e9, h9⟩ | h9
    · simp at h9
    · exact hA q (Nat.le_trans hS.1 h9)
  refine va_calli (va_runV (As := []) (rest := [.int 0, .int 0]) ⟨hx, hb, hml, hown, hts⟩ (c_J0_length_8abf5 l adK adV z 5 s.heap.size (by decide)) (cwV 0 hts (gV t_440 t_441 t_442 t_142 t_443) rfl rfl rfl (by decide +kernel) ⟨Nat.le_of_ble_eq_true rfl, Nat.le_of_ble_eq_true rfl⟩) ⟨jBlind, vk_recv (i := 5) hE (by decide) hS, jGo hE0 hAz hS hz⟩ rfl rfl hl.1 rfl (lv_room (Nat.le_of_ble_eq_true rfl)) dX7_spell_16 ⟨Nat.le_of_ble_eq_true rfl, Nat.le_of_ble_eq_true rfl⟩) hS (fun q _ h => hFc q h) hFc (fun r9 u t H1 locs ht hvm hw hB hz1 hk1 hS => ?_)
  obtain rfl : r9 = 4 := hw.trans (by decide)
  refine lv_icmp_ge (tgt := 35) hx hb dX7_spell_19 (by decide) (fun c => absurd c (by decide)) (fun _ => ?_)
  refine lv_aload_n hx hb dX7_spell_22 rfl (lv_at hl 2 rfl) ?_
  refine lv_iload_n hx hb dX7_spell_23 rfl (lv_at hl 0 rfl) ?_
  have hFc : ∀ q : Nat, va_A [] H1.size q → A q := fun q h => by
    rcases h with ⟨k9, e9, h9⟩ | h9
    · simp at h9
    · exact hA q (Nat.le_trans hS.1 h9)
  refine va_calli (va_runV (As := [.int (nI 0)]) (rest := [.int 0]) ⟨hx, hb, hml, hown, hts⟩ (c_J0_charAt_5068e l adK adV z 5 0 H1.size (by decide) (by decide)) (cwV 1 hts (gV t_450 t_451 t_452 t_142 t_453) rfl rfl rfl (by decide +kernel) ⟨Nat.le_of_ble_eq_true rfl, Nat.le_of_ble_eq_true rfl⟩) ⟨jBlind, vk_recv (i := 5) hE (by decide) hS, jGo hE0 hAz hS hz⟩ rfl rfl hl.1 rfl (lv_room (Nat.le_of_ble_eq_true rfl)) dX7_spell_24 ⟨Nat.le_of_ble_eq_true rfl, Nat.le_of_ble_eq_true rfl⟩) hS (fun q _ h => hFc q h) hFc (fun r9 u t H1 locs ht hvm hw hB hz1 hk1 hS => ?_)
  obtain rfl : r9 = 114 := hw.trans (by decide)
  refine lv_bipush (v := 97) hx hb dX7_spell_27 (by decide) ?_
  refine k_isub (v := 17) hx hb (by decide) dX7_spell_29 ?_
  refine lv_iconst (v := 1) hx hb dX7_spell_30 (by decide) ?_
  refine k_iadd (v := 18) hx hb (by decide) dX7_spell_31 ?_
  refine lv_goto (tgt := 36) hx hb dX7_spell_32 (by decide) ?_
  refine k_iadd (v := 18) hx hb (by decide) dX7_spell_36 ?_
  refine lv_istore_n (lv' := [(1, .int 18), (2, .int 0), (0, .ref (adK 5))]) hx hb dX7_spell_37 rfl hl (by decide) rfl (fun ls hl => ?_)
  refine lv_iinc (v := 1) (lv' := [(2, .int 1), (1, .int 18), (0, .ref (adK 5))]) hx hb dX7_spell_38 hl (k := 1) rfl (by decide) (by decide) rfl (fun ls hl => ?_)
  refine lv_goto (tgt := 4) hx hb dX7_spell_41 (by decide) ?_
  refine lv_iload_n hx hb dX7_spell_4 rfl (lv_at hl 0 rfl) ?_
  refine lv_bipush (v := 6) hx hb dX7_spell_5 (by decide) ?_
  refine lv_icmp_ge (tgt := 44) hx hb dX7_spell_7 (by decide) (fun c => absurd c (by decide)) (fun _ => ?_)
  refine lv_iload_n hx hb dX7_spell_10 rfl (lv_at hl 1 rfl) ?_
  refine lv_bipush (v := 27) hx hb dX7_spell_11 (by decide) ?_
  refine k_imul (v := 486) hx hb (by decide) dX7_spell_13 ?_
  refine lv_iload_n hx hb dX7_spell_14 rfl (lv_at hl 0 rfl) ?_
  refine lv_aload_n hx hb dX7_spell_15 rfl (lv_at hl 2 rfl) ?_
  have hFc : ∀ q : Nat, va_A [] H1.size q → A q := fun q h => by
    rcases h with ⟨k9, e9, h9⟩ | h9
    · simp at h9
    · exact hA q (Nat.le_trans hS.1 h9)
  refine va_calli (va_runV (As := []) (rest := [.int 1, .int 486]) ⟨hx, hb, hml, hown, hts⟩ (c_J0_length_8abf5 l adK adV z 5 H1.size (by decide)) (cwV 0 hts (gV t_440 t_441 t_442 t_142 t_443) rfl rfl rfl (by decide +kernel) ⟨Nat.le_of_ble_eq_true rfl, Nat.le_of_ble_eq_true rfl⟩) ⟨jBlind, vk_recv (i := 5) hE (by decide) hS, jGo hE0 hAz hS hz⟩ rfl rfl hl.1 rfl (lv_room (Nat.le_of_ble_eq_true rfl)) dX7_spell_16 ⟨Nat.le_of_ble_eq_true rfl, Nat.le_of_ble_eq_true rfl⟩) hS (fun q _ h => hFc q h) hFc (fun r9 u t H1 locs ht hvm hw hB hz1 hk1 hS => ?_)
  obtain rfl : r9 = 4 := hw.trans (by decide)
  refine lv_icmp_ge (tgt := 35) hx hb dX7_spell_19 (by decide) (fun c => absurd c (by decide)) (fun _ => ?_)
  refine lv_aload_n hx hb dX7_spell_22 rfl (lv_at hl 2 rfl) ?_
  refine lv_iload_n hx hb dX7_spell_23 rfl (lv_at hl 0 rfl) ?_
  have hFc : ∀ q : Nat, va_A [] H1.size q → A q := fun q h => by
    rcases h with ⟨k9, e9, h9⟩ | h9
    · simp at h9
    · exact hA q (Nat.le_trans hS.1 h9)
  refine va_calli (va_runV (As := [.int (nI 1)]) (rest := [.int 486]) ⟨hx, hb, hml, hown, hts⟩ (c_J0_charAt_5068e l adK adV z 5 1 H1.size (by decide) (by decide)) (cwV 1 hts (gV t_450 t_451 t_452 t_142 t_453) rfl rfl rfl (by decide +kernel) ⟨Nat.le_of_ble_eq_true rfl, Nat.le_of_ble_eq_true rfl⟩) ⟨jBlind, vk_recv (i := 5) hE (by decide) hS, jGo hE0 hAz hS hz⟩ rfl rfl hl.1 rfl (lv_room (Nat.le_of_ble_eq_true rfl)) dX7_spell_24 ⟨Nat.le_of_ble_eq_true rfl, Nat.le_of_ble_eq_true rfl⟩) hS (fun q _ h => hFc q h) hFc (fun r9 u t H1 locs ht hvm hw hB hz1 hk1 hS => ?_)
  obtain rfl : r9 = 117 := hw.trans (by decide)
  refine lv_bipush (v := 97) hx hb dX7_spell_27 (by decide) ?_
  refine k_isub (v := 20) hx hb (by decide) dX7_spell_29 ?_
  refine lv_iconst (v := 1) hx hb dX7_spell_30 (by decide) ?_
  refine k_iadd (v := 21) hx hb (by decide) dX7_spell_31 ?_
  refine lv_goto (tgt := 36) hx hb dX7_spell_32 (by decide) ?_
  refine k_iadd (v := 507) hx hb (by decide) dX7_spell_36 ?_
  refine lv_istore_n (lv' := [(1, .int 507), (2, .int 1), (0, .ref (adK 5))]) hx hb dX7_spell_37 rfl hl (by decide) rfl (fun ls hl => ?_)
  refine lv_iinc (v := 2) (lv' := [(2, .int 2), (1, .int 507), (0, .ref (adK 5))]) hx hb dX7_spell_38 hl (k := 1) rfl (by decide) (by decide) rfl (fun ls hl => ?_)
  refine lv_goto (tgt := 4) hx hb dX7_spell_41 (by decide) ?_
  refine lv_iload_n hx hb dX7_spell_4 rfl (lv_at hl 0 rfl) ?_
  refine lv_bipush (v := 6) hx hb dX7_spell_5 (by decide) ?_
  refine lv_icmp_ge (tgt := 44) hx hb dX7_spell_7 (by decide) (fun c => absurd c (by decide)) (fun _ => ?_)
  refine lv_iload_n hx hb dX7_spell_10 rfl (lv_at hl 1 rfl) ?_
  refine lv_bipush (v := 27) hx hb dX7_spell_11 (by decide) ?_
  refine k_imul (v := 13689) hx hb (by decide) dX7_spell_13 ?_
  refine lv_iload_n hx hb dX7_spell_14 rfl (lv_at hl 0 rfl) ?_
  refine lv_aload_n hx hb dX7_spell_15 rfl (lv_at hl 2 rfl) ?_
  have hFc : ∀ q : Nat, va_A [] H1.size q → A q := fun q h => by
    rcases h with ⟨k9, e9, h9⟩ | h9
    · simp at h9
    · exact hA q (Nat.le_trans hS.1 h9)
  refine va_calli (va_runV (As := []) (rest := [.int 2, .int 13689]) ⟨hx, hb, hml, hown, hts⟩ (c_J0_length_8abf5 l adK adV z 5 H1.size (by decide)) (cwV 0 hts (gV t_440 t_441 t_442 t_142 t_443) rfl rfl rfl (by decide +kernel) ⟨Nat.le_of_ble_eq_true rfl, Nat.le_of_ble_eq_true rfl⟩) ⟨jBlind, vk_recv (i := 5) hE (by decide) hS, jGo hE0 hAz hS hz⟩ rfl rfl hl.1 rfl (lv_room (Nat.le_of_ble_eq_true rfl)) dX7_spell_16 ⟨Nat.le_of_ble_eq_true rfl, Nat.le_of_ble_eq_true rfl⟩) hS (fun q _ h => hFc q h) hFc (fun r9 u t H1 locs ht hvm hw hB hz1 hk1 hS => ?_)
  obtain rfl : r9 = 4 := hw.trans (by decide)
  refine lv_icmp_ge (tgt := 35) hx hb dX7_spell_19 (by decide) (fun c => absurd c (by decide)) (fun _ => ?_)
  refine lv_aload_n hx hb dX7_spell_22 rfl (lv_at hl 2 rfl) ?_
  refine lv_iload_n hx hb dX7_spell_23 rfl (lv_at hl 0 rfl) ?_
  have hFc : ∀ q : Nat, va_A [] H1.size q → A q := fun q h => by
    rcases h with ⟨k9, e9, h9⟩ | h9
    · simp at h9
    · exact hA q (Nat.le_trans hS.1 h9)
  refine va_calli (va_runV (As := [.int (nI 2)]) (rest := [.int 13689]) ⟨hx, hb, hml, hown, hts⟩ (c_J0_charAt_5068e l adK adV z 5 2 H1.size (by decide) (by decide)) (cwV 1 hts (gV t_450 t_451 t_452 t_142 t_453) rfl rfl rfl (by decide +kernel) ⟨Nat.le_of_ble_eq_true rfl, Nat.le_of_ble_eq_true rfl⟩) ⟨jBlind, vk_recv (i := 5) hE (by decide) hS, jGo hE0 hAz hS hz⟩ rfl rfl hl.1 rfl (lv_room (Nat.le_of_ble_eq_true rfl)) dX7_spell_24 ⟨Nat.le_of_ble_eq_true rfl, Nat.le_of_ble_eq_true rfl⟩) hS (fun q _ h => hFc q h) hFc (fun r9 u t H1 locs ht hvm hw hB hz1 hk1 hS => ?_)
  obtain rfl : r9 = 108 := hw.trans (by decide)
  refine lv_bipush (v := 97) hx hb dX7_spell_27 (by decide) ?_
  refine k_isub (v := 11) hx hb (by decide) dX7_spell_29 ?_
  refine lv_iconst (v := 1) hx hb dX7_spell_30 (by decide) ?_
  refine k_iadd (v := 12) hx hb (by decide) dX7_spell_31 ?_
  refine lv_goto (tgt := 36) hx hb dX7_spell_32 (by decide) ?_
  refine k_iadd (v := 13701) hx hb (by decide) dX7_spell_36 ?_
  refine lv_istore_n (lv' := [(1, .int 13701), (2, .int 2), (0, .ref (adK 5))]) hx hb dX7_spell_37 rfl hl (by decide) rfl (fun ls hl => ?_)
  refine lv_iinc (v := 3) (lv' := [(2, .int 3), (1, .int 13701), (0, .ref (adK 5))]) hx hb dX7_spell_38 hl (k := 1) rfl (by decide) (by decide) rfl (fun ls hl => ?_)
  refine lv_goto (tgt := 4) hx hb dX7_spell_41 (by decide) ?_
  refine lv_iload_n hx hb dX7_spell_4 rfl (lv_at hl 0 rfl) ?_
  refine lv_bipush (v := 6) hx hb dX7_spell_5 (by decide) ?_
  refine lv_icmp_ge (tgt := 44) hx hb dX7_spell_7 (by decide) (fun c => absurd c (by decide)) (fun _ => ?_)
  refine lv_iload_n hx hb dX7_spell_10 rfl (lv_at hl 1 rfl) ?_
  refine lv_bipush (v := 27) hx hb dX7_spell_11 (by decide) ?_
  refine k_imul (v := 369927) hx hb (by decide) dX7_spell_13 ?_
  refine lv_iload_n hx hb dX7_spell_14 rfl (lv_at hl 0 rfl) ?_
  refine lv_aload_n hx hb dX7_spell_15 rfl (lv_at hl 2 rfl) ?_
  have hFc : ∀ q : Nat, va_A [] H1.size q → A q := fun q h => by
    rcases h with ⟨k9, e9, h9⟩ | h9
    · simp at h9
    · exact hA q (Nat.le_trans hS.1 h9)
  refine va_calli (va_runV (As := []) (rest := [.int 3, .int 369927]) ⟨hx, hb, hml, hown, hts⟩ (c_J0_length_8abf5 l adK adV z 5 H1.size (by decide)) (cwV 0 hts (gV t_440 t_441 t_442 t_142 t_443) rfl rfl rfl (by decide +kernel) ⟨Nat.le_of_ble_eq_true rfl, Nat.le_of_ble_eq_true rfl⟩) ⟨jBlind, vk_recv (i := 5) hE (by decide) hS, jGo hE0 hAz hS hz⟩ rfl rfl hl.1 rfl (lv_room (Nat.le_of_ble_eq_true rfl)) dX7_spell_16 ⟨Nat.le_of_ble_eq_true rfl, Nat.le_of_ble_eq_true rfl⟩) hS (fun q _ h => hFc q h) hFc (fun r9 u t H1 locs ht hvm hw hB hz1 hk1 hS => ?_)
  obtain rfl : r9 = 4 := hw.trans (by decide)
  refine lv_icmp_ge (tgt := 35) hx hb dX7_spell_19 (by decide) (fun c => absurd c (by decide)) (fun _ => ?_)
  refine lv_aload_n hx hb dX7_spell_22 rfl (lv_at hl 2 rfl) ?_
  refine lv_iload_n hx hb dX7_spell_23 rfl (lv_at hl 0 rfl) ?_
  have hFc : ∀ q : Nat, va_A [] H1.size q → A q := fun q h => by
    rcases h with ⟨k9, e9, h9⟩ | h9
    · simp at h9
    · exact hA q (Nat.le_trans hS.1 h9)
  refine va_calli (va_runV (As := [.int (nI 3)]) (rest := [.int 369927]) ⟨hx, hb, hml, hown, hts⟩ (c_J0_charAt_5068e l adK adV z 5 3 H1.size (by decide) (by decide)) (cwV 1 hts (gV t_450 t_451 t_452 t_142 t_453) rfl rfl rfl (by decide +kernel) ⟨Nat.le_of_ble_eq_true rfl, Nat.le_of_ble_eq_true rfl⟩) ⟨jBlind, vk_recv (i := 5) hE (by decide) hS, jGo hE0 hAz hS hz⟩ rfl rfl hl.1 rfl (lv_room (Nat.le_of_ble_eq_true rfl)) dX7_spell_24 ⟨Nat.le_of_ble_eq_true rfl, Nat.le_of_ble_eq_true rfl⟩) hS (fun q _ h => hFc q h) hFc (fun r9 u t H1 locs ht hvm hw hB hz1 hk1 hS => ?_)
  obtain rfl : r9 = 101 := hw.trans (by decide)
  refine lv_bipush (v := 97) hx hb dX7_spell_27 (by decide) ?_
  refine k_isub (v := 4) hx hb (by decide) dX7_spell_29 ?_
  refine lv_iconst (v := 1) hx hb dX7_spell_30 (by decide) ?_
  refine k_iadd (v := 5) hx hb (by decide) dX7_spell_31 ?_
  refine lv_goto (tgt := 36) hx hb dX7_spell_32 (by decide) ?_
  refine k_iadd (v := 369932) hx hb (by decide) dX7_spell_36 ?_
  refine lv_istore_n (lv' := [(1, .int 369932), (2, .int 3), (0, .ref (adK 5))]) hx hb dX7_spell_37 rfl hl (by decide) rfl (fun ls hl => ?_)
  refine lv_iinc (v := 4) (lv' := [(2, .int 4), (1, .int 369932), (0, .ref (adK 5))]) hx hb dX7_spell_38 hl (k := 1) rfl (by decide) (by decide) rfl (fun ls hl => ?_)
  refine lv_goto (tgt := 4) hx hb dX7_spell_41 (by decide) ?_
  refine lv_iload_n hx hb dX7_spell_4 rfl (lv_at hl 0 rfl) ?_
  refine lv_bipush (v := 6) hx hb dX7_spell_5 (by decide) ?_
  refine lv_icmp_ge (tgt := 44) hx hb dX7_spell_7 (by decide) (fun c => absurd c (by decide)) (fun _ => ?_)
  refine lv_iload_n hx hb dX7_spell_10 rfl (lv_at hl 1 rfl) ?_
  refine lv_bipush (v := 27) hx hb dX7_spell_11 (by decide) ?_
  refine k_imul (v := 9988164) hx hb (by decide) dX7_spell_13 ?_
  refine lv_iload_n hx hb dX7_spell_14 rfl (lv_at hl 0 rfl) ?_
  refine lv_aload_n hx hb dX7_spell_15 rfl (lv_at hl 2 rfl) ?_
  have hFc : ∀ q : Nat, va_A [] H1.size q → A q := fun q h => by
    rcases h with ⟨k9, e9, h9⟩ | h9
    · simp at h9
    · exact hA q (Nat.le_trans hS.1 h9)
  refine va_calli (va_runV (As := []) (rest := [.int 4, .int 9988164]) ⟨hx, hb, hml, hown, hts⟩ (c_J0_length_8abf5 l adK adV z 5 H1.size (by decide)) (cwV 0 hts (gV t_440 t_441 t_442 t_142 t_443) rfl rfl rfl (by decide +kernel) ⟨Nat.le_of_ble_eq_true rfl, Nat.le_of_ble_eq_true rfl⟩) ⟨jBlind, vk_recv (i := 5) hE (by decide) hS, jGo hE0 hAz hS hz⟩ rfl rfl hl.1 rfl (lv_room (Nat.le_of_ble_eq_true rfl)) dX7_spell_16 ⟨Nat.le_of_ble_eq_true rfl, Nat.le_of_ble_eq_true rfl⟩) hS (fun q _ h => hFc q h) hFc (fun r9 u t H1 locs ht hvm hw hB hz1 hk1 hS => ?_)
  obtain rfl : r9 = 4 := hw.trans (by decide)
  refine lv_icmp_ge (tgt := 35) hx hb dX7_spell_19 (by decide) (fun _ => ?_) (fun c => absurd (by decide) c)
  refine lv_iconst (v := 0) hx hb dX7_spell_35 (by decide) ?_
  refine k_iadd (v := 9988164) hx hb (by decide) dX7_spell_36 ?_
  refine lv_istore_n (lv' := [(1, .int 9988164), (2, .int 4), (0, .ref (adK 5))]) hx hb dX7_spell_37 rfl hl (by decide) rfl (fun ls hl => ?_)
  refine lv_iinc (v := 5) (lv' := [(2, .int 5), (1, .int 9988164), (0, .ref (adK 5))]) hx hb dX7_spell_38 hl (k := 1) rfl (by decide) (by decide) rfl (fun ls hl => ?_)
  refine lv_goto (tgt := 4) hx hb dX7_spell_41 (by decide) ?_
  refine lv_iload_n hx hb dX7_spell_4 rfl (lv_at hl 0 rfl) ?_
  refine lv_bipush (v := 6) hx hb dX7_spell_5 (by decide) ?_
  refine lv_icmp_ge (tgt := 44) hx hb dX7_spell_7 (by decide) (fun c => absurd c (by decide)) (fun _ => ?_)
  refine lv_iload_n hx hb dX7_spell_10 rfl (lv_at hl 1 rfl) ?_
  refine lv_bipush (v := 27) hx hb dX7_spell_11 (by decide) ?_
  refine k_imul (v := 269680428) hx hb (by decide) dX7_spell_13 ?_
  refine lv_iload_n hx hb dX7_spell_14 rfl (lv_at hl 0 rfl) ?_
  refine lv_aload_n hx hb dX7_spell_15 rfl (lv_at hl 2 rfl) ?_
  have hFc : ∀ q : Nat, va_A [] H1.size q → A q := fun q h => by
    rcases h with ⟨k9, e9, h9⟩ | h9
    · simp at h9
    · exact hA q (Nat.le_trans hS.1 h9)
  refine va_calli (va_runV (As := []) (rest := [.int 5, .int 269680428]) ⟨hx, hb, hml, hown, hts⟩ (c_J0_length_8abf5 l adK adV z 5 H1.size (by decide)) (cwV 0 hts (gV t_440 t_441 t_442 t_142 t_443) rfl rfl rfl (by decide +kernel) ⟨Nat.le_of_ble_eq_true rfl, Nat.le_of_ble_eq_true rfl⟩) ⟨jBlind, vk_recv (i := 5) hE (by decide) hS, jGo hE0 hAz hS hz⟩ rfl rfl hl.1 rfl (lv_room (Nat.le_of_ble_eq_true rfl)) dX7_spell_16 ⟨Nat.le_of_ble_eq_true rfl, Nat.le_of_ble_eq_true rfl⟩) hS (fun q _ h => hFc q h) hFc (fun r9 u t H1 locs ht hvm hw hB hz1 hk1 hS => ?_)
  obtain rfl : r9 = 4 := hw.trans (by decide)
  refine lv_icmp_ge (tgt := 35) hx hb dX7_spell_19 (by decide) (fun _ => ?_) (fun c => absurd (by decide) c)
  refine lv_iconst (v := 0) hx hb dX7_spell_35 (by decide) ?_
  refine k_iadd (v := 269680428) hx hb (by decide) dX7_spell_36 ?_
  refine lv_istore_n (lv' := [(1, .int 269680428), (2, .int 5), (0, .ref (adK 5))]) hx hb dX7_spell_37 rfl hl (by decide) rfl (fun ls hl => ?_)
  refine lv_iinc (v := 6) (lv' := [(2, .int 6), (1, .int 269680428), (0, .ref (adK 5))]) hx hb dX7_spell_38 hl (k := 1) rfl (by decide) (by decide) rfl (fun ls hl => ?_)
  refine lv_goto (tgt := 4) hx hb dX7_spell_41 (by decide) ?_
  refine lv_iload_n hx hb dX7_spell_4 rfl (lv_at hl 0 rfl) ?_
  refine lv_bipush (v := 6) hx hb dX7_spell_5 (by decide) ?_
  refine lv_icmp_ge (tgt := 44) hx hb dX7_spell_7 (by decide) (fun _ => ?_) (fun c => absurd (by decide) c)
  refine lv_iload_n hx hb dX7_spell_44 rfl (lv_at hl 1 rfl) ?_
  exact W.iret (v := 269680428) hx hb hr (fun t ht hW => ⟨⟨269680428, (), rfl, rfl, trivial⟩, hS.F ht⟩) hS.2.2 dX7_spell_45
set_option maxHeartbeats 4000000 in
set_option maxRecDepth 100000 in
theorem c_X7_spell_6 (l : Launch) (adK adV : Nat → Nat) (z : Nat) (sz : Nat) : Met l yX7_spell (.code yX7_spell cX7_spell 3 (some .int) :: WT) ({ frames := 8, cells := 0, slots := 0, locals := 700 }) (va_Pc [.ref (adK 6)] (jPre adK adV z sz)) (va_Qi (fun (r : Int32) (u : Unit) => r = 39942065) (fun _ _ => True) (va_A [] sz)) 0 0 (va_A [] sz) := by
  refine Met.ofW (cc := cX7_spell) (maxL := 3) (ret := (some .int)) (by decide) rfl ?_
  intro p e s m args below meth c s₁ B hml hv
  obtain ⟨rfl, hsz, hE0, hz⟩ := hv
  have hx := B.exec
  have hb := B.bytes
  have hr := B.returns
  have hts0 := atoms_spec (ws := .code yX7_spell cX7_spell 3 (some .int) :: WT) B.pre
  have hts : ∀ w ∈ WT, w.before _ s = true := fun w h => hts0 w (List.mem_cons_of_mem _ h)
  have hown : s.vm.findClass RX7 = some m.cls := findClass_of_methodNamed B.named
  have hlocks := B.notSynchronized
  subst hsz
  have hAz : ∀ q : Nat, va_A [] s.heap.size q → z ≤ q := fun q h => by
    rcases h with ⟨k9, e9, h9⟩ | h9
    · simp at h9
    · exact Nat.le_trans hz h9
  generalize hAe : va_A [] s.heap.size = A at hAz ⊢
  have hA : ∀ q : Nat, s.heap.size ≤ q → A q := fun q h => by rw [← hAe]; exact Or.inr h
  have hS : va_S A s.heap s.heap [] := va_S.rf
  have hE : vk_S 11 lenS bytS adK adV A s s.heap := hE0.1.narrow hAz
  have hZ : va_Z "java/lang/String" "COMPACT_STRINGS" "Z" (.int 1) A s s.heap := hE0.2.1.narrow hAz
  have hZq : va_Zq "jdk/internal/util/Preconditions" "SIOOBE_FORMATTER" "Ljava/util/function/BiFunction;" A s s.heap := hE0.2.2.1.narrow hAz
  have hl := lv_entry ([.ref (adK 6)]) (n := 3) (Nat.le_of_ble_eq_true rfl)
  rw [lg_entry_eq]
  generalize (lg_sl ([.ref (adK 6)]) ++ List.replicate (3 - (lg_sl ([.ref (adK 6)])).length) Slot.unset).toArray = ls at hl ⊢
  have hl : lv_has ls 3 [(0, .ref (adK 6))] := hl
  refine lv_iconst (v := 0) hx hb dX7_spell_0 (by decide) ?_
  refine lv_istore_n (lv' := [(1, .int 0), (0, .ref (adK 6))]) hx hb dX7_spell_1 rfl hl (by decide) rfl (fun ls hl => ?_)
  refine lv_iconst (v := 0) hx hb dX7_spell_2 (by decide) ?_
  refine lv_istore_n (lv' := [(2, .int 0), (1, .int 0), (0, .ref (adK 6))]) hx hb dX7_spell_3 rfl hl (by decide) rfl (fun ls hl => ?_)
  refine lv_iload_n hx hb dX7_spell_4 rfl (lv_at hl 0 rfl) ?_
  refine lv_bipush (v := 6) hx hb dX7_spell_5 (by decide) ?_
  refine lv_icmp_ge (tgt := 44) hx hb dX7_spell_7 (by decide) (fun c => absurd c (by decide)) (fun _ => ?_)
  refine lv_iload_n hx hb dX7_spell_10 rfl (lv_at hl 1 rfl) ?_
  refine lv_bipush (v := 27) hx hb dX7_spell_11 (by decide) ?_
  refine k_imul (v := 0) hx hb (by decide) dX7_spell_13 ?_
  refine lv_iload_n hx hb dX7_spell_14 rfl (lv_at hl 0 rfl) ?_
  refine lv_aload_n hx hb dX7_spell_15 rfl (lv_at hl 2 rfl) ?_
  have hFc : ∀ q : Nat, va_A [] s.heap.size q → A q := fun q h => by
    rcases h with ⟨k9, e9, h9⟩ | h9
    · simp at h9
    · exact hA q (Nat.le_trans hS.1 h9)
  refine va_calli (va_runV (As := []) (rest := [.int 0, .int 0]) ⟨hx, hb, hml, hown, hts⟩ (c_J0_length_8abf5 l adK adV z 6 s.heap.size (by decide)) (cwV 0 hts (gV t_440 t_441 t_442 t_142 t_443) rfl rfl rfl (by decide +kernel) ⟨Nat.le_of_ble_eq_true rfl, Nat.le_of_ble_eq_true rfl⟩) ⟨jBlind, vk_recv (i := 6) hE (by decide) hS, jGo hE0 hAz hS hz⟩ rfl rfl hl.1 rfl (lv_room (Nat.le_of_ble_eq_true rfl)) dX7_spell_16 ⟨Nat.le_of_ble_eq_true rfl, Nat.le_of_ble_eq_true rfl⟩) hS (fun q _ h => hFc q h) hFc (fun r9 u t H1 locs ht hvm hw hB hz1 hk1 hS => ?_)
  obtain rfl : r9 = 6 := hw.trans (by decide)
  refine lv_icmp_ge (tgt := 35) hx hb dX7_spell_19 (by decide) (fun c => absurd c (by decide)) (fun _ => ?_)
  refine lv_aload_n hx hb dX7_spell_22 rfl (lv_at hl 2 rfl) ?_
  refine lv_iload_n hx hb dX7_spell_23 rfl (lv_at hl 0 rfl) ?_
  have hFc : ∀ q : Nat, va_A [] H1.size q → A q := fun q h => by
    rcases h with ⟨k9, e9, h9⟩ | h9
    · simp at h9
    · exact hA q (Nat.le_trans hS.1 h9)
  refine va_calli (va_runV (As := [.int (nI 0)]) (rest := [.int 0]) ⟨hx, hb, hml, hown, hts⟩ (c_J0_charAt_5068e l adK adV z 6 0 H1.size (by decide) (by decide)) (cwV 1 hts (gV t_450 t_451 t_452 t_142 t_453) rfl rfl rfl (by decide +kernel) ⟨Nat.le_of_ble_eq_true rfl, Nat.le_of_ble_eq_true rfl⟩) ⟨jBlind, vk_recv (i := 6) hE (by decide) hS, jGo hE0 hAz hS hz⟩ rfl rfl hl.1 rfl (lv_room (Nat.le_of_ble_eq_true rfl)) dX7_spell_24 ⟨Nat.le_of_ble_eq_true rfl, Nat.le_of_ble_eq_true rfl⟩) hS (fun q _ h => hFc q h) hFc (fun r9 u t H1 locs ht hvm hw hB hz1 hk1 hS => ?_)
  obtain rfl : r9 = 98 := hw.trans (by decide)
  refine lv_bipush (v := 97) hx hb dX7_spell_27 (by decide) ?_
  refine k_isub (v := 1) hx hb (by decide) dX7_spell_29 ?_
  refine lv_iconst (v := 1) hx hb dX7_spell_30 (by decide) ?_
  refine k_iadd (v := 2) hx hb (by decide) dX7_spell_31 ?_
  refine lv_goto (tgt := 36) hx hb dX7_spell_32 (by decide) ?_
  refine k_iadd (v := 2) hx hb (by decide) dX7_spell_36 ?_
  refine lv_istore_n (lv' := [(1, .int 2), (2, .int 0), (0, .ref (adK 6))]) hx hb dX7_spell_37 rfl hl (by decide) rfl (fun ls hl => ?_)
  refine lv_iinc (v := 1) (lv' := [(2, .int 1), (1, .int 2), (0, .ref (adK 6))]) hx hb dX7_spell_38 hl (k := 1) rfl (by decide) (by decide) rfl (fun ls hl => ?_)
  refine lv_goto (tgt := 4) hx hb dX7_spell_41 (by decide) ?_
  refine lv_iload_n hx hb dX7_spell_4 rfl (lv_at hl 0 rfl) ?_
  refine lv_bipush (v := 6) hx hb dX7_spell_5 (by decide) ?_
  refine lv_icmp_ge (tgt := 44) hx hb dX7_spell_7 (by decide) (fun c => absurd c (by decide)) (fun _ => ?_)
  refine lv_iload_n hx hb dX7_spell_10 rfl (lv_at hl 1 rfl) ?_
  refine lv_bipush (v := 27) hx hb dX7_spell_11 (by decide) ?_
  refine k_imul (v := 54) hx hb (by decide) dX7_spell_13 ?_
  refine lv_iload_n hx hb dX7_spell_14 rfl (lv_at hl 0 rfl) ?_
  refine lv_aload_n hx hb dX7_spell_15 rfl (lv_at hl 2 rfl) ?_
  have hFc : ∀ q : Nat, va_A [] H1.size q → A q := fun q h => by
    rcases h with ⟨k9, e9, h9⟩ | h9
    · simp at h9
    · exact hA q (Nat.le_trans hS.1 h9)
  refine va_calli (va_runV (As := []) (rest := [.int 1, .int 54]) ⟨hx, hb, hml, hown, hts⟩ (c_J0_length_8abf5 l adK adV z 6 H1.size (by decide)) (cwV 0 hts (gV t_440 t_441 t_442 t_142 t_443) rfl rfl rfl (by decide +kernel) ⟨Nat.le_of_ble_eq_true rfl, Nat.le_of_ble_eq_true rfl⟩) ⟨jBlind, vk_recv (i := 6) hE (by decide) hS, jGo hE0 hAz hS hz⟩ rfl rfl hl.1 rfl (lv_room (Nat.le_of_ble_eq_true rfl)) dX7_spell_16 ⟨Nat.le_of_ble_eq_true rfl, Nat.le_of_ble_eq_true rfl⟩) hS (fun q _ h => hFc q h) hFc (fun r9 u t H1 locs ht hvm hw hB hz1 hk1 hS => ?_)
  obtain rfl : r9 = 6 := hw.trans (by decide)
  refine lv_icmp_ge (tgt := 35) hx hb dX7_spell_19 (by decide) (fun c => absurd c (by decide)) (fun _ => ?_)
  refine lv_aload_n hx hb dX7_spell_22 rfl (lv_at hl 2 rfl) ?_
  refine lv_iload_n hx hb dX7_spell_23 rfl (lv_at hl 0 rfl) ?_
  have hFc : ∀ q : Nat, va_A [] H1.size q → A q := fun q h => by
    rcases h with ⟨k9, e9, h9⟩ | h9
    · simp at h9
    · exact hA q (Nat.le_trans hS.1 h9)
  refine va_calli (va_runV (As := [.int (nI 1)]) (rest := [.int 54]) ⟨hx, hb, hml, hown, hts⟩ (c_J0_charAt_5068e l adK adV z 6 1 H1.size (by decide) (by decide)) (cwV 1 hts (gV t_450 t_451 t_452 t_142 t_453) rfl rfl rfl (by decide +kernel) ⟨Nat.le_of_ble_eq_true rfl, Nat.le_of_ble_eq_true rfl⟩) ⟨jBlind, vk_recv (i := 6) hE (by decide) hS, jGo hE0 hAz hS hz⟩ rfl rfl hl.1 rfl (lv_room (Nat.le_of_ble_eq_true rfl)) dX7_spell_24 ⟨Nat.le_of_ble_eq_true rfl, Nat.le_of_ble_eq_true rfl⟩) hS (fun q _ h => hFc q h) hFc (fun r9 u t H1 locs ht hvm hw hB hz1 hk1 hS => ?_)
  obtain rfl : r9 = 117 := hw.trans (by decide)
  refine lv_bipush (v := 97) hx hb dX7_spell_27 (by decide) ?_
  refine k_isub (v := 20) hx hb (by decide) dX7_spell_29 ?_
  refine lv_iconst (v := 1) hx hb dX7_spell_30 (by decide) ?_
  refine k_iadd (v := 21) hx hb (by decide) dX7_spell_31 ?_
  refine lv_goto (tgt := 36) hx hb dX7_spell_32 (by decide) ?_
  refine k_iadd (v := 75) hx hb (by decide) dX7_spell_36 ?_
  refine lv_istore_n (lv' := [(1, .int 75), (2, .int 1), (0, .ref (adK 6))]) hx hb dX7_spell_37 rfl hl (by decide) rfl (fun ls hl => ?_)
  refine lv_iinc (v := 2) (lv' := [(2, .int 2), (1, .int 75), (0, .ref (adK 6))]) hx hb dX7_spell_38 hl (k := 1) rfl (by decide) (by decide) rfl (fun ls hl => ?_)
  refine lv_goto (tgt := 4) hx hb dX7_spell_41 (by decide) ?_
  refine lv_iload_n hx hb dX7_spell_4 rfl (lv_at hl 0 rfl) ?_
  refine lv_bipush (v := 6) hx hb dX7_spell_5 (by decide) ?_
  refine lv_icmp_ge (tgt := 44) hx hb dX7_spell_7 (by decide) (fun c => absurd c (by decide)) (fun _ => ?_)
  refine lv_iload_n hx hb dX7_spell_10 rfl (lv_at hl 1 rfl) ?_
  refine lv_bipush (v := 27) hx hb dX7_spell_11 (by decide) ?_
  refine k_imul (v := 2025) hx hb (by decide) dX7_spell_13 ?_
  refine lv_iload_n hx hb dX7_spell_14 rfl (lv_at hl 0 rfl) ?_
  refine lv_aload_n hx hb dX7_spell_15 rfl (lv_at hl 2 rfl) ?_
  have hFc : ∀ q : Nat, va_A [] H1.size q → A q := fun q h => by
    rcases h with ⟨k9, e9, h9⟩ | h9
    · simp at h9
    · exact hA q (Nat.le_trans hS.1 h9)
  refine va_calli (va_runV (As := []) (rest := [.int 2, .int 2025]) ⟨hx, hb, hml, hown, hts⟩ (c_J0_length_8abf5 l adK adV z 6 H1.size (by decide)) (cwV 0 hts (gV t_440 t_441 t_442 t_142 t_443) rfl rfl rfl (by decide +kernel) ⟨Nat.le_of_ble_eq_true rfl, Nat.le_of_ble_eq_true rfl⟩) ⟨jBlind, vk_recv (i := 6) hE (by decide) hS, jGo hE0 hAz hS hz⟩ rfl rfl hl.1 rfl (lv_room (Nat.le_of_ble_eq_true rfl)) dX7_spell_16 ⟨Nat.le_of_ble_eq_true rfl, Nat.le_of_ble_eq_true rfl⟩) hS (fun q _ h => hFc q h) hFc (fun r9 u t H1 locs ht hvm hw hB hz1 hk1 hS => ?_)
  obtain rfl : r9 = 6 := hw.trans (by decide)
  refine lv_icmp_ge (tgt := 35) hx hb dX7_spell_19 (by decide) (fun c => absurd c (by decide)) (fun _ => ?_)
  refine lv_aload_n hx hb dX7_spell_22 rfl (lv_at hl 2 rfl) ?_
  refine lv_iload_n hx hb dX7_spell_23 rfl (lv_at hl 0 rfl) ?_
  have hFc : ∀ q : Nat, va_A [] H1.size q → A q := fun q h => by
    rcases h with ⟨k9, e9, h9⟩ | h9
    · simp at h9
    · exact hA q (Nat.le_trans hS.1 h9)
  refine va_calli (va_runV (As := [.int (nI 2)]) (rest := [.int 2025]) ⟨hx, hb, hml, hown, hts⟩ (c_J0_charAt_5068e l adK adV z 6 2 H1.size (by decide) (by decide)) (cwV 1 hts (gV t_450 t_451 t_452 t_142 t_453) rfl rfl rfl (by decide +kernel) ⟨Nat.le_of_ble_eq_true rfl, Nat.le_of_ble_eq_true rfl⟩) ⟨jBlind, vk_recv (i := 6) hE (by decide) hS, jGo hE0 hAz hS hz⟩ rfl rfl hl.1 rfl (lv_room (Nat.le_of_ble_eq_true rfl)) dX7_spell_24 ⟨Nat.le_of_ble_eq_true rfl, Nat.le_of_ble_eq_true rfl⟩) hS (fun q _ h => hFc q h) hFc (fun r9 u t H1 locs ht hvm hw hB hz1 hk1 hS => ?_)
  obtain rfl : r9 = 100 := hw.trans (by decide)
  refine lv_bipush (v := 97) hx hb dX7_spell_27 (by decide) ?_
  refine k_isub (v := 3) hx hb (by decide) dX7_spell_29 ?_
  refine lv_iconst (v := 1) hx hb dX7_spell_30 (by decide) ?_
  refine k_iadd (v := 4) hx hb (by decide) dX7_spell_31 ?_
  refine lv_goto (tgt := 36) hx hb dX7_spell_32 (by decide) ?_
  refine k_iadd (v := 2029) hx hb (by decide) dX7_spell_36 ?_
  refine lv_istore_n (lv' := [(1, .int 2029), (2, .int 2), (0, .ref (adK 6))]) hx hb dX7_spell_37 rfl hl (by decide) rfl (fun ls hl => ?_)
  refine lv_iinc (v := 3) (lv' := [(2, .int 3), (1, .int 2029), (0, .ref (adK 6))]) hx hb dX7_spell_38 hl (k := 1) rfl (by decide) (by decide) rfl (fun ls hl => ?_)
  refine lv_goto (tgt := 4) hx hb dX7_spell_41 (by decide) ?_
  refine lv_iload_n hx hb dX7_spell_4 rfl (lv_at hl 0 rfl) ?_
  refine lv_bipush (v := 6) hx hb dX7_spell_5 (by decide) ?_
  refine lv_icmp_ge (tgt := 44) hx hb dX7_spell_7 (by decide) (fun c => absurd c (by decide)) (fun _ => ?_)
  refine lv_iload_n hx hb dX7_spell_10 rfl (lv_at hl 1 rfl) ?_
  refine lv_bipush (v := 27) hx hb dX7_spell_11 (by decide) ?_
  refine k_imul (v := 54783) hx hb (by decide) dX7_spell_13 ?_
  refine lv_iload_n hx hb dX7_spell_14 rfl (lv_at hl 0 rfl) ?_
  refine lv_aload_n hx hb dX7_spell_15 rfl (lv_at hl 2 rfl) ?_
  have hFc : ∀ q : Nat, va_A [] H1.size q → A q := fun q h => by
    rcases h with ⟨k9, e9, h9⟩ | h9
    · simp at h9
    · exact hA q (Nat.le_trans hS.1 h9)
  refine va_calli (va_runV (As := []) (rest := [.int 3, .int 54783]) ⟨hx, hb, hml, hown, hts⟩ (c_J0_length_8abf5 l adK adV z 6 H1.size (by decide)) (cwV 0 hts (gV t_440 t_441 t_442 t_142 t_443) rfl rfl rfl (by decide +kernel) ⟨Nat.le_of_ble_eq_true rfl, Nat.le_of_ble_eq_true rfl⟩) ⟨jBlind, vk_recv (i := 6) hE (by decide) hS, jGo hE0 hAz hS hz⟩ rfl rfl hl.1 rfl (lv_room (Nat.le_of_ble_eq_true rfl)) dX7_spell_16 ⟨Nat.le_of_ble_eq_true rfl, Nat.le_of_ble_eq_true rfl⟩) hS (fun q _ h => hFc q h) hFc (fun r9 u t H1 locs ht hvm hw hB hz1 hk1 hS => ?_)
  obtain rfl : r9 = 6 := hw.trans (by decide)
  refine lv_icmp_ge (tgt := 35) hx hb dX7_spell_19 (by decide) (fun c => absurd c (by decide)) (fun _ => ?_)
  refine lv_aload_n hx hb dX7_spell_22 rfl (lv_at hl 2 rfl) ?_
  refine lv_iload_n hx hb dX7_spell_23 rfl (lv_at hl 0 rfl) ?_
  have hFc : ∀ q : Nat, va_A [] H1.size q → A q := fun q h => by
    rcases h with ⟨k9, e9, h9⟩ | h9
    · simp at h9
    · exact hA q (Nat.le_trans hS.1 h9)
  refine va_calli (va_runV (As := [.int (nI 3)]) (rest := [.int 54783]) ⟨hx, hb, hml, hown, hts⟩ (c_J0_charAt_5068e l adK adV z 6 3 H1.size (by decide) (by decide)) (cwV 1 hts (gV t_450 t_451 t_452 t_142 t_453) rfl rfl rfl (by decide +kernel) ⟨Nat.le_of_ble_eq_true rfl, Nat.le_of_ble_eq_true rfl⟩) ⟨jBlind, vk_recv (i := 6) hE (by decide) hS, jGo hE0 hAz hS hz⟩ rfl rfl hl.1 rfl (lv_room (Nat.le_of_ble_eq_true rfl)) dX7_spell_24 ⟨Nat.le_of_ble_eq_true rfl, Nat.le_of_ble_eq_true rfl⟩) hS (fun q _ h => hFc q h) hFc (fun r9 u t H1 locs ht hvm hw hB hz1 hk1 hS => ?_)
  obtain rfl : r9 = 103 := hw.trans (by decide)
  refine lv_bipush (v := 97) hx hb dX7_spell_27 (by decide) ?_
  refine k_isub (v := 6) hx hb (by decide) dX7_spell_29 ?_
  refine lv_iconst (v := 1) hx hb dX7_spell_30 (by decide) ?_
  refine k_iadd (v := 7) hx hb (by decide) dX7_spell_31 ?_
  refine lv_goto (tgt := 36) hx hb dX7_spell_32 (by decide) ?_
  refine k_iadd (v := 54790) hx hb (by decide) dX7_spell_36 ?_
  refine lv_istore_n (lv' := [(1, .int 54790), (2, .int 3), (0, .ref (adK 6))]) hx hb dX7_spell_37 rfl hl (by decide) rfl (fun ls hl => ?_)
  refine lv_iinc (v := 4) (lv' := [(2, .int 4), (1, .int 54790), (0, .ref (adK 6))]) hx hb dX7_spell_38 hl (k := 1) rfl (by decide) (by decide) rfl (fun ls hl => ?_)
  refine lv_goto (tgt := 4) hx hb dX7_spell_41 (by decide) ?_
  refine lv_iload_n hx hb dX7_spell_4 rfl (lv_at hl 0 rfl) ?_
  refine lv_bipush (v := 6) hx hb dX7_spell_5 (by decide) ?_
  refine lv_icmp_ge (tgt := 44) hx hb dX7_spell_7 (by decide) (fun c => absurd c (by decide)) (fun _ => ?_)
  refine lv_iload_n hx hb dX7_spell_10 rfl (lv_at hl 1 rfl) ?_
  refine lv_bipush (v := 27) hx hb dX7_spell_11 (by decide) ?_
  refine k_imul (v := 1479330) hx hb (by decide) dX7_spell_13 ?_
  refine lv_iload_n hx hb dX7_spell_14 rfl (lv_at hl 0 rfl) ?_
  refine lv_aload_n hx hb dX7_spell_15 rfl (lv_at hl 2 rfl) ?_
  have hFc : ∀ q : Nat, va_A [] H1.size q → A q := fun q h => by
    rcases h with ⟨k9, e9, h9⟩ | h9
    · simp at h9
    · exact hA q (Nat.le_trans hS.1 h9)
  refine va_calli (va_runV (As := []) (rest := [.int 4, .int 1479330]) ⟨hx, hb, hml, hown, hts⟩ (c_J0_length_8abf5 l adK adV z 6 H1.size (by decide)) (cwV 0 hts (gV t_440 t_441 t_442 t_142 t_443) rfl rfl rfl (by decide +kernel) ⟨Nat.le_of_ble_eq_true rfl, Nat.le_of_ble_eq_true rfl⟩) ⟨jBlind, vk_recv (i := 6) hE (by decide) hS, jGo hE0 hAz hS hz⟩ rfl rfl hl.1 rfl (lv_room (Nat.le_of_ble_eq_true rfl)) dX7_spell_16 ⟨Nat.le_of_ble_eq_true rfl, Nat.le_of_ble_eq_true rfl⟩) hS (fun q _ h => hFc q h) hFc (fun r9 u t H1 locs ht hvm hw hB hz1 hk1 hS => ?_)
  obtain rfl : r9 = 6 := hw.trans (by decide)
  refine lv_icmp_ge (tgt := 35) hx hb dX7_spell_19 (by decide) (fun c => absurd c (by decide)) (fun _ => ?_)
  refine lv_aload_n hx hb dX7_spell_22 rfl (lv_at hl 2 rfl) ?_
  refine lv_iload_n hx hb dX7_spell_23 rfl (lv_at hl 0 rfl) ?_
  have hFc : ∀ q : Nat, va_A [] H1.size q → A q := fun q h => by
    rcases h with ⟨k9, e9, h9⟩ | h9
    · simp at h9
    · exact hA q (Nat.le_trans hS.1 h9)
  refine va_calli (va_runV (As := [.int (nI 4)]) (rest := [.int 1479330]) ⟨hx, hb, hml, hown, hts⟩ (c_J0_charAt_5068e l adK adV z 6 4 H1.size (by decide) (by decide)) (cwV 1 hts (gV t_450 t_451 t_452 t_142 t_453) rfl rfl rfl (by decide +kernel) ⟨Nat.le_of_ble_eq_true rfl, Nat.le_of_ble_eq_true rfl⟩) ⟨jBlind, vk_recv (i := 6) hE (by decide) hS, jGo hE0 hAz hS hz⟩ rfl rfl hl.1 rfl (lv_room (Nat.le_of_ble_eq_true rfl)) dX7_spell_24 ⟨Nat.le_of_ble_eq_true rfl, Nat.le_of_ble_eq_true rfl⟩) hS (fun q _ h => hFc q h) hFc (fun r9 u t H1 locs ht hvm hw hB hz1 hk1 hS => ?_)
  obtain rfl : r9 = 101 := hw.trans (by decide)
  refine lv_bipush (v := 97) hx hb dX7_spell_27 (by decide) ?_
  refine k_isub (v := 4) hx hb (by decide) dX7_spell_29 ?_
  refine lv_iconst (v := 1) hx hb dX7_spell_30 (by decide) ?_
  refine k_iadd (v := 5) hx hb (by decide) dX7_spell_31 ?_
  refine lv_goto (tgt := 36) hx hb dX7_spell_32 (by decide) ?_
  refine k_iadd (v := 1479335) hx hb (by decide) dX7_spell_36 ?_
  refine lv_istore_n (lv' := [(1, .int 1479335), (2, .int 4), (0, .ref (adK 6))]) hx hb dX7_spell_37 rfl hl (by decide) rfl (fun ls hl => ?_)
  refine lv_iinc (v := 5) (lv' := [(2, .int 5), (1, .int 1479335), (0, .ref (adK 6))]) hx hb dX7_spell_38 hl (k := 1) rfl (by decide) (by decide) rfl (fun ls hl => ?_)
  refine lv_goto (tgt := 4) hx hb dX7_spell_41 (by decide) ?_
  refine lv_iload_n hx hb dX7_spell_4 rfl (lv_at hl 0 rfl) ?_
  refine lv_bipush (v := 6) hx hb dX7_spell_5 (by decide) ?_
  refine lv_icmp_ge (tgt := 44) hx hb dX7_spell_7 (by decide) (fun c => absurd c (by decide)) (fun _ => ?_)
  refine lv_iload_n hx hb dX7_spell_10 rfl (lv_at hl 1 rfl) ?_
  refine lv_bipush (v := 27) hx hb dX7_spell_11 (by decide) ?_
  refine k_imul (v := 39942045) hx hb (by decide) dX7_spell_13 ?_
  refine lv_iload_n hx hb dX7_spell_14 rfl (lv_at hl 0 rfl) ?_
  refine lv_aload_n hx hb dX7_spell_15 rfl (lv_at hl 2 rfl) ?_
  have hFc : ∀ q : Nat, va_A [] H1.size q → A q := fun q h => by
    rcases h with ⟨k9, e9, h9⟩ | h9
    · simp at h9
    · exact hA q (Nat.le_trans hS.1 h9)
  refine va_calli (va_runV (As := []) (rest := [.int 5, .int 39942045]) ⟨hx, hb, hml, hown, hts⟩ (c_J0_length_8abf5 l adK adV z 6 H1.size (by decide)) (cwV 0 hts (gV t_440 t_441 t_442 t_142 t_443) rfl rfl rfl (by decide +kernel) ⟨Nat.le_of_ble_eq_true rfl, Nat.le_of_ble_eq_true rfl⟩) ⟨jBlind, vk_recv (i := 6) hE (by decide) hS, jGo hE0 hAz hS hz⟩ rfl rfl hl.1 rfl (lv_room (Nat.le_of_ble_eq_true rfl)) dX7_spell_16 ⟨Nat.le_of_ble_eq_true rfl, Nat.le_of_ble_eq_true rfl⟩) hS (fun q _ h => hFc q h) hFc (fun r9 u t H1 locs ht hvm hw hB hz1 hk1 hS => ?_)
  obtain rfl : r9 = 6 := hw.trans (by decide)
  refine lv_icmp_ge (tgt := 35) hx hb dX7_spell_19 (by decide) (fun c => absurd c (by decide)) (fun _ => ?_)
  refine lv_aload_n hx hb dX7_spell_22 rfl (lv_at hl 2 rfl) ?_
  refine lv_iload_n hx hb dX7_spell_23 rfl (lv_at hl 0 rfl) ?_
  have hFc : ∀ q : Nat, va_A [] H1.size q → A q := fun q h => by
    rcases h with ⟨k9, e9, h9⟩ | h9
    · simp at h9
    · exact hA q (Nat.le_trans hS.1 h9)
  refine va_calli (va_runV (As := [.int (nI 5)]) (rest := [.int 39942045]) ⟨hx, hb, hml, hown, hts⟩ (c_J0_charAt_5068e l adK adV z 6 5 H1.size (by decide) (by decide)) (cwV 1 hts (gV t_450 t_451 t_452 t_142 t_453) rfl rfl rfl (by decide +kernel) ⟨Nat.le_of_ble_eq_true rfl, Nat.le_of_ble_eq_true rfl⟩) ⟨jBlind, vk_recv (i := 6) hE (by decide) hS, jGo hE0 hAz hS hz⟩ rfl rfl hl.1 rfl (lv_room (Nat.le_of_ble_eq_true rfl)) dX7_spell_24 ⟨Nat.le_of_ble_eq_true rfl, Nat.le_of_ble_eq_true rfl⟩) hS (fun q _ h => hFc q h) hFc (fun r9 u t H1 locs ht hvm hw hB hz1 hk1 hS => ?_)
  obtain rfl : r9 = 116 := hw.trans (by decide)
  refine lv_bipush (v := 97) hx hb dX7_spell_27 (by decide) ?_
  refine k_isub (v := 19) hx hb (by decide) dX7_spell_29 ?_
  refine lv_iconst (v := 1) hx hb dX7_spell_30 (by decide) ?_
  refine k_iadd (v := 20) hx hb (by decide) dX7_spell_31 ?_
  refine lv_goto (tgt := 36) hx hb dX7_spell_32 (by decide) ?_
  refine k_iadd (v := 39942065) hx hb (by decide) dX7_spell_36 ?_
  refine lv_istore_n (lv' := [(1, .int 39942065), (2, .int 5), (0, .ref (adK 6))]) hx hb dX7_spell_37 rfl hl (by decide) rfl (fun ls hl => ?_)
  refine lv_iinc (v := 6) (lv' := [(2, .int 6), (1, .int 39942065), (0, .ref (adK 6))]) hx hb dX7_spell_38 hl (k := 1) rfl (by decide) (by decide) rfl (fun ls hl => ?_)
  refine lv_goto (tgt := 4) hx hb dX7_spell_41 (by decide) ?_
  refine lv_iload_n hx hb dX7_spell_4 rfl (lv_at hl 0 rfl) ?_
  refine lv_bipush (v := 6) hx hb dX7_spell_5 (by decide) ?_
  refine lv_icmp_ge (tgt := 44) hx hb dX7_spell_7 (by decide) (fun _ => ?_) (fun c => absurd (by decide) c)
  refine lv_iload_n hx hb dX7_spell_44 rfl (lv_at hl 1 rfl) ?_
  exact W.iret (v := 39942065) hx hb hr (fun t ht hW => ⟨⟨39942065, (), rfl, rfl, trivial⟩, hS.F ht⟩) hS.2.2 dX7_spell_45
set_option maxHeartbeats 4000000 in
set_option maxRecDepth 100000 in
theorem c_X7_spell_7 (l : Launch) (adK adV : Nat → Nat) (z : Nat) (sz : Nat) : Met l yX7_spell (.code yX7_spell cX7_spell 3 (some .int) :: WT) ({ frames := 8, cells := 0, slots := 0, locals := 700 }) (va_Pc [.ref (adK 7)] (jPre adK adV z sz)) (va_Qi (fun (r : Int32) (u : Unit) => r = 212300838) (fun _ _ => True) (va_A [] sz)) 0 0 (va_A [] sz) := by
  refine Met.ofW (cc := cX7_spell) (maxL := 3) (ret := (some .int)) (by decide) rfl ?_
  intro p e s m args below meth c s₁ B hml hv
  obtain ⟨rfl, hsz, hE0, hz⟩ := hv
  have hx := B.exec
  have hb := B.bytes
  have hr := B.returns
  have hts0 := atoms_spec (ws := .code yX7_spell cX7_spell 3 (some .int) :: WT) B.pre
  have hts : ∀ w ∈ WT, w.before _ s = true := fun w h => hts0 w (List.mem_cons_of_mem _ h)
  have hown : s.vm.findClass RX7 = some m.cls := findClass_of_methodNamed B.named
  have hlocks := B.notSynchronized
  subst hsz
  have hAz : ∀ q : Nat, va_A [] s.heap.size q → z ≤ q := fun q h => by
    rcases h with ⟨k9, e9, h9⟩ | h9
    · simp at h9
    · exact Nat.le_trans hz h9
  generalize hAe : va_A [] s.heap.size = A at hAz ⊢
  have hA : ∀ q : Nat, s.heap.size ≤ q → A q := fun q h => by rw [← hAe]; exact Or.inr h
  have hS : va_S A s.heap s.heap [] := va_S.rf
  have hE : vk_S 11 lenS bytS adK adV A s s.heap := hE0.1.narrow hAz
  have hZ : va_Z "java/lang/String" "COMPACT_STRINGS" "Z" (.int 1) A s s.heap := hE0.2.1.narrow hAz
  have hZq : va_Zq "jdk/internal/util/Preconditions" "SIOOBE_FORMATTER" "Ljava/util/function/BiFunction;" A s s.heap := hE0.2.2.1.narrow hAz
  have hl := lv_entry ([.ref (adK 7)]) (n := 3) (Nat.le_of_ble_eq_true rfl)
  rw [lg_entry_eq]
  generalize (lg_sl ([.ref (adK 7)]) ++ List.replicate (3 - (lg_sl ([.ref (adK 7)])).length) Slot.unset).toArray = ls at hl ⊢
  have hl : lv_has ls 3 [(0, .ref (adK 7))] := hl
  refine lv_iconst (v := 0) hx hb dX7_spell_0 (by decide) ?_
  refine lv_istore_n (lv' := [(1, .int 0), (0, .ref (adK 7))]) hx hb dX7_spell_1 rfl hl (by decide) rfl (fun ls hl => ?_)
  refine lv_iconst (v := 0) hx hb dX7_spell_2 (by decide) ?_
  refine lv_istore_n (lv' := [(2, .int 0), (1, .int 0), (0, .ref (adK 7))]) hx hb dX7_spell_3 rfl hl (by decide) rfl (fun ls hl => ?_)
  refine lv_iload_n hx hb dX7_spell_4 rfl (lv_at hl 0 rfl) ?_
  refine lv_bipush (v := 6) hx hb dX7_spell_5 (by decide) ?_
  refine lv_icmp_ge (tgt := 44) hx hb dX7_spell_7 (by decide) (fun c => absurd c (by decide)) (fun _ => ?_)
  refine lv_iload_n hx hb dX7_spell_10 rfl (lv_at hl 1 rfl) ?_
  refine lv_bipush (v := 27) hx hb dX7_spell_11 (by decide) ?_
  refine k_imul (v := 0) hx hb (by decide) dX7_spell_13 ?_
  refine lv_iload_n hx hb dX7_spell_14 rfl (lv_at hl 0 rfl) ?_
  refine lv_aload_n hx hb dX7_spell_15 rfl (lv_at hl 2 rfl) ?_
  have hFc : ∀ q : Nat, va_A [] s.heap.size q → A q := fun q h => by
    rcases h with ⟨k9, e9, h9⟩ | h9
    · simp at h9
    · exact hA q (Nat.le_trans hS.1 h9)
  refine va_calli (va_runV (As := []) (rest := [.int 0, .int 0]) ⟨hx, hb, hml, hown, hts⟩ (c_J0_length_8abf5 l adK adV z 7 s.heap.size (by decide)) (cwV 0 hts (gV t_440 t_441 t_442 t_142 t_443) rfl rfl rfl (by decide +kernel) ⟨Nat.le_of_ble_eq_true rfl, Nat.le_of_ble_eq_true rfl⟩) ⟨jBlind, vk_recv (i := 7) hE (by decide) hS, jGo hE0 hAz hS hz⟩ rfl rfl hl.1 rfl (lv_room (Nat.le_of_ble_eq_true rfl)) dX7_spell_16 ⟨Nat.le_of_ble_eq_true rfl, Nat.le_of_ble_eq_true rfl⟩) hS (fun q _ h => hFc q h) hFc (fun r9 u t H1 locs ht hvm hw hB hz1 hk1 hS => ?_)
  obtain rfl : r9 = 3 := hw.trans (by decide)
  refine lv_icmp_ge (tgt := 35) hx hb dX7_spell_19 (by decide) (fun c => absurd c (by decide)) (fun _ => ?_)
  refine lv_aload_n hx hb dX7_spell_22 rfl (lv_at hl 2 rfl) ?_
  refine lv_iload_n hx hb dX7_spell_23 rfl (lv_at hl 0 rfl) ?_
  have hFc : ∀ q : Nat, va_A [] H1.size q → A q := fun q h => by
    rcases h with ⟨k9, e9, h9⟩ | h9
    · simp at h9
    · exact hA q (Nat.le_trans hS.1 h9)
  refine va_calli (va_runV (As := [.int (nI 0)]) (rest := [.int 0]) ⟨hx, hb, hml, hown, hts⟩ (c_J0_charAt_5068e l adK adV z 7 0 H1.size (by decide) (by decide)) (cwV 1 hts (gV t_450 t_451 t_452 t_142 t_453) rfl rfl rfl (by decide +kernel) ⟨Nat.le_of_ble_eq_true rfl, Nat.le_of_ble_eq_true rfl⟩) ⟨jBlind, vk_recv (i := 7) hE (by decide) hS, jGo hE0 hAz hS hz⟩ rfl rfl hl.1 rfl (lv_room (Nat.le_of_ble_eq_true rfl)) dX7_spell_24 ⟨Nat.le_of_ble_eq_true rfl, Nat.le_of_ble_eq_true rfl⟩) hS (fun q _ h => hFc q h) hFc (fun r9 u t H1 locs ht hvm hw hB hz1 hk1 hS => ?_)
  obtain rfl : r9 = 110 := hw.trans (by decide)
  refine lv_bipush (v := 97) hx hb dX7_spell_27 (by decide) ?_
  refine k_isub (v := 13) hx hb (by decide) dX7_spell_29 ?_
  refine lv_iconst (v := 1) hx hb dX7_spell_30 (by decide) ?_
  refine k_iadd (v := 14) hx hb (by decide) dX7_spell_31 ?_
  refine lv_goto (tgt := 36) hx hb dX7_spell_32 (by decide) ?_
  refine k_iadd (v := 14) hx hb (by decide) dX7_spell_36 ?_
  refine lv_istore_n (lv' := [(1, .int 14), (2, .int 0), (0, .ref (adK 7))]) hx hb dX7_spell_37 rfl hl (by decide) rfl (fun ls hl => ?_)
  refine lv_iinc (v := 1) (lv' := [(2, .int 1), (1, .int 14), (0, .ref (adK 7))]) hx hb dX7_spell_38 hl (k := 1) rfl (by decide) (by decide) rfl (fun ls hl => ?_)
  refine lv_goto (tgt := 4) hx hb dX7_spell_41 (by decide) ?_
  refine lv_iload_n hx hb dX7_spell_4 rfl (lv_at hl 0 rfl) ?_
  refine lv_bipush (v := 6) hx hb dX7_spell_5 (by decide) ?_
  refine lv_icmp_ge (tgt := 44) hx hb dX7_spell_7 (by decide) (fun c => absurd c (by decide)) (fun _ => ?_)
  refine lv_iload_n hx hb dX7_spell_10 rfl (lv_at hl 1 rfl) ?_
  refine lv_bipush (v := 27) hx hb dX7_spell_11 (by decide) ?_
  refine k_imul (v := 378) hx hb (by decide) dX7_spell_13 ?_
  refine lv_iload_n hx hb dX7_spell_14 rfl (lv_at hl 0 rfl) ?_
  refine lv_aload_n hx hb dX7_spell_15 rfl (lv_at hl 2 rfl) ?_
  have hFc : ∀ q : Nat, va_A [] H1.size q → A q := fun q h => by
    rcases h with ⟨k9, e9, h9⟩ | h9
    · simp at h9
    · exact hA q (Nat.le_trans hS.1 h9)
  refine va_calli (va_runV (As := []) (rest := [.int 1, .int 378]) ⟨hx, hb, hml, hown, hts⟩ (c_J0_length_8abf5 l adK adV z 7 H1.size (by decide)) (cwV 0 hts (gV t_440 t_441 t_442 t_142 t_443) rfl rfl rfl (by decide +kernel) ⟨Nat.le_of_ble_eq_true rfl, Nat.le_of_ble_eq_true rfl⟩) ⟨jBlind, vk_recv (i := 7) hE (by decide) hS, jGo hE0 hAz hS hz⟩ rfl rfl hl.1 rfl (lv_room (Nat.le_of_ble_eq_true rfl)) dX7_spell_16 ⟨Nat.le_of_ble_eq_true rfl, Nat.le_of_ble_eq_true rfl⟩) hS (fun q _ h => hFc q h) hFc (fun r9 u t H1 locs ht hvm hw hB hz1 hk1 hS => ?_)
  obtain rfl : r9 = 3 := hw.trans (by decide)
  refine lv_icmp_ge (tgt := 35) hx hb dX7_spell_19 (by decide) (fun c => absurd c (by decide)) (fun _ => ?_)
  refine lv_aload_n hx hb dX7_spell_22 rfl (lv_at hl 2 rfl) ?_
  refine lv_iload_n hx hb dX7_spell_23 rfl (lv_at hl 0 rfl) ?_
  have hFc : ∀ q : Nat, va_A [] H1.size q → A q := fun q h => by
    rcases h with ⟨k9, e9, h9⟩ | h9
    · simp at h9
    · exact hA q (Nat.le_trans hS.1 h9)
  refine va_calli (va_runV (As := [.int (nI 1)]) (rest := [.int 378]) ⟨hx, hb, hml, hown, hts⟩ (c_J0_charAt_5068e l adK adV z 7 1 H1.size (by decide) (by decide)) (cwV 1 hts (gV t_450 t_451 t_452 t_142 t_453) rfl rfl rfl (by decide +kernel) ⟨Nat.le_of_ble_eq_true rfl, Nat.le_of_ble_eq_true rfl⟩) ⟨jBlind, vk_recv (i := 7) hE (by decide) hS, jGo hE0 hAz hS hz⟩ rfl rfl hl.1 rfl (lv_room (Nat.le_of_ble_eq_true rfl)) dX7_spell_24 ⟨Nat.le_of_ble_eq_true rfl, Nat.le_of_ble_eq_true rfl⟩) hS (fun q _ h => hFc q h) hFc (fun r9 u t H1 locs ht hvm hw hB hz1 hk1 hS => ?_)
  obtain rfl : r9 = 117 := hw.trans (by decide)
  refine lv_bipush (v := 97) hx hb dX7_spell_27 (by decide) ?_
  refine k_isub (v := 20) hx hb (by decide) dX7_spell_29 ?_
  refine lv_iconst (v := 1) hx hb dX7_spell_30 (by decide) ?_
  refine k_iadd (v := 21) hx hb (by decide) dX7_spell_31 ?_
  refine lv_goto (tgt := 36) hx hb dX7_spell_32 (by decide) ?_
  refine k_iadd (v := 399) hx hb (by decide) dX7_spell_36 ?_
  refine lv_istore_n (lv' := [(1, .int 399), (2, .int 1), (0, .ref (adK 7))]) hx hb dX7_spell_37 rfl hl (by decide) rfl (fun ls hl => ?_)
  refine lv_iinc (v := 2) (lv' := [(2, .int 2), (1, .int 399), (0, .ref (adK 7))]) hx hb dX7_spell_38 hl (k := 1) rfl (by decide) (by decide) rfl (fun ls hl => ?_)
  refine lv_goto (tgt := 4) hx hb dX7_spell_41 (by decide) ?_
  refine lv_iload_n hx hb dX7_spell_4 rfl (lv_at hl 0 rfl) ?_
  refine lv_bipush (v := 6) hx hb dX7_spell_5 (by decide) ?_
  refine lv_icmp_ge (tgt := 44) hx hb dX7_spell_7 (by decide) (fun c => absurd c (by decide)) (fun _ => ?_)
  refine lv_iload_n hx hb dX7_spell_10 rfl (lv_at hl 1 rfl) ?_
  refine lv_bipush (v := 27) hx hb dX7_spell_11 (by decide) ?_
  refine k_imul (v := 10773) hx hb (by decide) dX7_spell_13 ?_
  refine lv_iload_n hx hb dX7_spell_14 rfl (lv_at hl 0 rfl) ?_
  refine lv_aload_n hx hb dX7_spell_15 rfl (lv_at hl 2 rfl) ?_
  have hFc : ∀ q : Nat, va_A [] H1.size q → A q := fun q h => by
    rcases h with ⟨k9, e9, h9⟩ | h9
    · simp at h9
    · exact hA q (Nat.le_trans hS.1 h9)
  refine va_calli (va_runV (As := []) (rest := [.int 2, .int 10773]) ⟨hx, hb, hml, hown, hts⟩ (c_J0_length_8abf5 l adK adV z 7 H1.size (by decide)) (cwV 0 hts (gV t_440 t_441 t_442 t_142 t_443) rfl rfl rfl (by decide +kernel) ⟨Nat.le_of_ble_eq_true rfl, Nat.le_of_ble_eq_true rfl⟩) ⟨jBlind, vk_recv (i := 7) hE (by decide) hS, jGo hE0 hAz hS hz⟩ rfl rfl hl.1 rfl (lv_room (Nat.le_of_ble_eq_true rfl)) dX7_spell_16 ⟨Nat.le_of_ble_eq_true rfl, Nat.le_of_ble_eq_true rfl⟩) hS (fun q _ h => hFc q h) hFc (fun r9 u t H1 locs ht hvm hw hB hz1 hk1 hS => ?_)
  obtain rfl : r9 = 3 := hw.trans (by decide)
  refine lv_icmp_ge (tgt := 35) hx hb dX7_spell_19 (by decide) (fun c => absurd c (by decide)) (fun _ => ?_)
  refine lv_aload_n hx hb dX7_spell_22 rfl (lv_at hl 2 rfl) ?_
  refine lv_iload_n hx hb dX7_spell_23 rfl (lv_at hl 0 rfl) ?_
  have hFc : ∀ q : Nat, va_A [] H1.size q → A q := fun q h => by
    rcases h with ⟨k9, e9, h9⟩ | h9
    · simp at h9
    · exact hA q (Nat.le_trans hS.1 h9)
  refine va_calli (va_runV (As := [.int (nI 2)]) (rest := [.int 10773]) ⟨hx, hb, hml, hown, hts⟩ (c_J0_charAt_5068e l adK adV z 7 2 H1.size (by decide) (by decide)) (cwV 1 hts (gV t_450 t_451 t_452 t_142 t_453) rfl rfl rfl (by decide +kernel) ⟨Nat.le_of_ble_eq_true rfl, Nat.le_of_ble_eq_true rfl⟩) ⟨jBlind, vk_recv (i := 7) hE (by decide) hS, jGo hE0 hAz hS hz⟩ rfl rfl hl.1 rfl (lv_room (Nat.le_of_ble_eq_true rfl)) dX7_spell_24 ⟨Nat.le_of_ble_eq_true rfl, Nat.le_of_ble_eq_true rfl⟩) hS (fun q _ h => hFc q h) hFc (fun r9 u t H1 locs ht hvm hw hB hz1 hk1 hS => ?_)
  obtain rfl : r9 = 109 := hw.trans (by decide)
  refine lv_bipush (v := 97) hx hb dX7_spell_27 (by decide) ?_
  refine k_isub (v := 12) hx hb (by decide) dX7_spell_29 ?_
  refine lv_iconst (v := 1) hx hb dX7_spell_30 (by decide) ?_
  refine k_iadd (v := 13) hx hb (by decide) dX7_spell_31 ?_
  refine lv_goto (tgt := 36) hx hb dX7_spell_32 (by decide) ?_
  refine k_iadd (v := 10786) hx hb (by decide) dX7_spell_36 ?_
  refine lv_istore_n (lv' := [(1, .int 10786), (2, .int 2), (0, .ref (adK 7))]) hx hb dX7_spell_37 rfl hl (by decide) rfl (fun ls hl => ?_)
  refine lv_iinc (v := 3) (lv' := [(2, .int 3), (1, .int 10786), (0, .ref (adK 7))]) hx hb dX7_spell_38 hl (k := 1) rfl (by decide) (by decide) rfl (fun ls hl => ?_)
  refine lv_goto (tgt := 4) hx hb dX7_spell_41 (by decide) ?_
  refine lv_iload_n hx hb dX7_spell_4 rfl (lv_at hl 0 rfl) ?_
  refine lv_bipush (v := 6) hx hb dX7_spell_5 (by decide) ?_
  refine lv_icmp_ge (tgt := 44) hx hb dX7_spell_7 (by decide) (fun c => absurd c (by decide)) (fun _ => ?_)
  refine lv_iload_n hx hb dX7_spell_10 rfl (lv_at hl 1 rfl) ?_
  refine lv_bipush (v := 27) hx hb dX7_spell_11 (by decide) ?_
  refine k_imul (v := 291222) hx hb (by decide) dX7_spell_13 ?_
  refine lv_iload_n hx hb dX7_spell_14 rfl (lv_at hl 0 rfl) ?_
  refine lv_aload_n hx hb dX7_spell_15 rfl (lv_at hl 2 rfl) ?_
  have hFc : ∀ q : Nat, va_A [] H1.size q → A q := fun q h => by
    rcases h with ⟨k9, e9, h9⟩ | h9
    · simp at h9
    · exact hA q (Nat.le_trans hS.1 h9)
  refine va_calli (va_runV (As := []) (rest := [.int 3, .int 291222]) ⟨hx, hb, hml, hown, hts⟩ (c_J0_length_8abf5 l adK adV z 7 H1.size (by decide)) (cwV 0 hts (gV t_440 t_441 t_442 t_142 t_443) rfl rfl rfl (by decide +kernel) ⟨Nat.le_of_ble_eq_true rfl, Nat.le_of_ble_eq_true rfl⟩) ⟨jBlind, vk_recv (i := 7) hE (by decide) hS, jGo hE0 hAz hS hz⟩ rfl rfl hl.1 rfl (lv_room (Nat.le_of_ble_eq_true rfl)) dX7_spell_16 ⟨Nat.le_of_ble_eq_true rfl, Nat.le_of_ble_eq_true rfl⟩) hS (fun q _ h => hFc q h) hFc (fun r9 u t H1 locs ht hvm hw hB hz1 hk1 hS => ?_)
  obtain rfl : r9 = 3 := hw.trans (by decide)
  refine lv_icmp_ge (tgt := 35) hx hb dX7_spell_19 (by decide) (fun _ => ?_) (fun c => absurd (by decide) c)
  refine lv_iconst (v := 0) hx hb dX7_spell_35 (by decide) ?_
  refine k_iadd (v := 291222) hx hb (by decide) dX7_spell_36 ?_
  refine lv_istore_n (lv' := [(1, .int 291222), (2, .int 3), (0, .ref (adK 7))]) hx hb dX7_spell_37 rfl hl (by decide) rfl (fun ls hl => ?_)
  refine lv_iinc (v := 4) (lv' := [(2, .int 4), (1, .int 291222), (0, .ref (adK 7))]) hx hb dX7_spell_38 hl (k := 1) rfl (by decide) (by decide) rfl (fun ls hl => ?_)
  refine lv_goto (tgt := 4) hx hb dX7_spell_41 (by decide) ?_
  refine lv_iload_n hx hb dX7_spell_4 rfl (lv_at hl 0 rfl) ?_
  refine lv_bipush (v := 6) hx hb dX7_spell_5 (by decide) ?_
  refine lv_icmp_ge (tgt := 44) hx hb dX7_spell_7 (by decide) (fun c => absurd c (by decide)) (fun _ => ?_)
  refine lv_iload_n hx hb dX7_spell_10 rfl (lv_at hl 1 rfl) ?_
  refine lv_bipush (v := 27) hx hb dX7_spell_11 (by decide) ?_
  refine k_imul (v := 7862994) hx hb (by decide) dX7_spell_13 ?_
  refine lv_iload_n hx hb dX7_spell_14 rfl (lv_at hl 0 rfl) ?_
  refine lv_aload_n hx hb dX7_spell_15 rfl (lv_at hl 2 rfl) ?_
  have hFc : ∀ q : Nat, va_A [] H1.size q → A q := fun q h => by
    rcases h with ⟨k9, e9, h9⟩ | h9
    · simp at h9
    · exact hA q (Nat.le_trans hS.1 h9)
  refine va_calli (va_runV (As := []) (rest := [.int 4, .int 7862994]) ⟨hx, hb, hml, hown, hts⟩ (c_J0_length_8abf5 l adK adV z 7 H1.size (by decide)) (cwV 0 hts (gV t_440 t_441 t_442 t_142 t_443) rfl rfl rfl (by decide +kernel) ⟨Nat.le_of_ble_eq_true rfl, Nat.le_of_ble_eq_true rfl⟩) ⟨jBlind, vk_recv (i := 7) hE (by decide) hS, jGo hE0 hAz hS hz⟩ rfl rfl hl.1 rfl (lv_room (Nat.le_of_ble_eq_true rfl)) dX7_spell_16 ⟨Nat.le_of_ble_eq_true rfl, Nat.le_of_ble_eq_true rfl⟩) hS (fun q _ h => hFc q h) hFc (fun r9 u t H1 locs ht hvm hw hB hz1 hk1 hS => ?_)
  obtain rfl : r9 = 3 := hw.trans (by decide)
  refine lv_icmp_ge (tgt := 35) hx hb dX7_spell_19 (by decide) (fun _ => ?_) (fun c => absurd (by decide) c)
  refine lv_iconst (v := 0) hx hb dX7_spell_35 (by decide) ?_
  refine k_iadd (v := 7862994) hx hb (by decide) dX7_spell_36 ?_
  refine lv_istore_n (lv' := [(1, .int 7862994), (2, .int 4), (0, .ref (adK 7))]) hx hb dX7_spell_37 rfl hl (by decide) rfl (fun ls hl => ?_)
  refine lv_iinc (v := 5) (lv' := [(2, .int 5), (1, .int 7862994), (0, .ref (adK 7))]) hx hb dX7_spell_38 hl (k := 1) rfl (by decide) (by decide) rfl (fun ls hl => ?_)
  refine lv_goto (tgt := 4) hx hb dX7_spell_41 (by decide) ?_
  refine lv_iload_n hx hb dX7_spell_4 rfl (lv_at hl 0 rfl) ?_
  refine lv_bipush (v := 6) hx hb dX7_spell_5 (by decide) ?_
  refine lv_icmp_ge (tgt := 44) hx hb dX7_spell_7 (by decide) (fun c => absurd c (by decide)) (fun _ => ?_)
  refine lv_iload_n hx hb dX7_spell_10 rfl (lv_at hl 1 rfl) ?_
  refine lv_bipush (v := 27) hx hb dX7_spell_11 (by decide) ?_
  refine k_imul (v := 212300838) hx hb (by decide) dX7_spell_13 ?_
  refine lv_iload_n hx hb dX7_spell_14 rfl (lv_at hl 0 rfl) ?_
  refine lv_aload_n hx hb dX7_spell_15 rfl (lv_at hl 2 rfl) ?_
  have hFc : ∀ q : Nat, va_A [] H1.size q → A q := fun q h => by
    rcases h with ⟨k9, e9, h9⟩ | h9
    · simp at h9
    · exact hA q (Nat.le_trans hS.1 h9)
  refine va_calli (va_runV (As := []) (rest := [.int 5, .int 212300838]) ⟨hx, hb, hml, hown, hts⟩ (c_J0_length_8abf5 l adK adV z 7 H1.size (by decide)) (cwV 0 hts (gV t_440 t_441 t_442 t_142 t_443) rfl rfl rfl (by decide +kernel) ⟨Nat.le_of_ble_eq_true rfl, Nat.le_of_ble_eq_true rfl⟩) ⟨jBlind, vk_recv (i := 7) hE (by decide) hS, jGo hE0 hAz hS hz⟩ rfl rfl hl.1 rfl (lv_room (Nat.le_of_ble_eq_true rfl)) dX7_spell_16 ⟨Nat.le_of_ble_eq_true rfl, Nat.le_of_ble_eq_true rfl⟩) hS (fun q _ h => hFc q h) hFc (fun r9 u t H1 locs ht hvm hw hB hz1 hk1 hS => ?_)
  obtain rfl : r9 = 3 := hw.trans (by decide)
  refine lv_icmp_ge (tgt := 35) hx hb dX7_spell_19 (by decide) (fun _ => ?_) (fun c => absurd (by decide) c)
  refine lv_iconst (v := 0) hx hb dX7_spell_35 (by decide) ?_
  refine k_iadd (v := 212300838) hx hb (by decide) dX7_spell_36 ?_
  refine lv_istore_n (lv' := [(1, .int 212300838), (2, .int 5), (0, .ref (adK 7))]) hx hb dX7_spell_37 rfl hl (by decide) rfl (fun ls hl => ?_)
  refine lv_iinc (v := 6) (lv' := [(2, .int 6), (1, .int 212300838), (0, .ref (adK 7))]) hx hb dX7_spell_38 hl (k := 1) rfl (by decide) (by decide) rfl (fun ls hl => ?_)
  refine lv_goto (tgt := 4) hx hb dX7_spell_41 (by decide) ?_
  refine lv_iload_n hx hb dX7_spell_4 rfl (lv_at hl 0 rfl) ?_
  refine lv_bipush (v := 6) hx hb dX7_spell_5 (by decide) ?_
  refine lv_icmp_ge (tgt := 44) hx hb dX7_spell_7 (by decide) (fun _ => ?_) (fun c => absurd (by decide) c)
  refine lv_iload_n hx hb dX7_spell_44 rfl (lv_at hl 1 rfl) ?_
  exact W.iret (v := 212300838) hx hb hr (fun t ht hW => ⟨⟨212300838, (), rfl, rfl, trivial⟩, hS.F ht⟩) hS.2.2 dX7_spell_45
set_option maxHeartbeats 4000000 in
set_option maxRecDepth 100000 in
theorem c_X7_spell_8 (l : Launch) (adK adV : Nat → Nat) (z : Nat) (sz : Nat) : Met l yX7_spell (.code yX7_spell cX7_spell 3 (some .int) :: WT) ({ frames := 8, cells := 0, slots := 0, locals := 700 }) (va_Pc [.ref (adK 8)] (jPre adK adV z sz)) (va_Qi (fun (r : Int32) (u : Unit) => r = 22281156) (fun _ _ => True) (va_A [] sz)) 0 0 (va_A [] sz) := by
  refine Met.ofW (cc := cX7_spell) (maxL := 3) (ret := (some .int)) (by decide) rfl ?_
  intro p e s m args below meth c s₁ B hml hv
  obtain ⟨rfl, hsz, hE0, hz⟩ := hv
  have hx := B.exec
  have hb := B.bytes
  have hr := B.returns
  have hts0 := atoms_spec (ws := .code yX7_spell cX7_spell 3 (some .int) :: WT) B.pre
  have hts : ∀ w ∈ WT, w.before _ s = true := fun w h => hts0 w (List.mem_cons_of_mem _ h)
  have hown : s.vm.findClass RX7 = some m.cls := findClass_of_methodNamed B.named
  have hlocks := B.notSynchronized
  subst hsz
  have hAz : ∀ q : Nat, va_A [] s.heap.size q → z ≤ q := fun q h => by
    rcases h with ⟨k9, e9, h9⟩ | h9
    · simp at h9
    · exact Nat.le_trans hz h9
  generalize hAe : va_A [] s.heap.size = A at hAz ⊢
  have hA : ∀ q : Nat, s.heap.size ≤ q → A q := fun q h => by rw [← hAe]; exact Or.inr h
  have hS : va_S A s.heap s.heap [] := va_S.rf
  have hE : vk_S 11 lenS bytS adK adV A s s.heap := hE0.1.narrow hAz
  have hZ : va_Z "java/lang/String" "COMPACT_STRINGS" "Z" (.int 1) A s s.heap := hE0.2.1.narrow hAz
  have hZq : va_Zq "jdk/internal/util/Preconditions" "SIOOBE_FORMATTER" "Ljava/util/function/BiFunction;" A s s.heap := hE0.2.2.1.narrow hAz
  have hl := lv_entry ([.ref (adK 8)]) (n := 3) (Nat.le_of_ble_eq_true rfl)
  rw [lg_entry_eq]
  generalize (lg_sl ([.ref (adK 8)]) ++ List.replicate (3 - (lg_sl ([.ref (adK 8)])).length) Slot.unset).toArray = ls at hl ⊢
  have hl : lv_has ls 3 [(0, .ref (adK 8))] := hl
  refine lv_iconst (v := 0) hx hb dX7_spell_0 (by decide) ?_
  refine lv_istore_n (lv' := [(1, .int 0), (0, .ref (adK 8))]) hx hb dX7_spell_1 rfl hl (by decide) rfl (fun ls hl => ?_)
  refine lv_iconst (v := 0) hx hb dX7_spell_2 (by decide) ?_
  refine lv_istore_n (lv' := [(2, .int 0), (1, .int 0), (0, .ref (adK 8))]) hx hb dX7_spell_3 rfl hl (by decide) rfl (fun ls hl => ?_)
  refine lv_iload_n hx hb dX7_spell_4 rfl (lv_at hl 0 rfl) ?_
  refine lv_bipush (v := 6) hx hb dX7_spell_5 (by decide) ?_
  refine lv_icmp_ge (tgt := 44) hx hb dX7_spell_7 (by decide) (fun c => absurd c (by decide)) (fun _ => ?_)
  refine lv_iload_n hx hb dX7_spell_10 rfl (lv_at hl 1 rfl) ?_
  refine lv_bipush (v := 27) hx hb dX7_spell_11 (by decide) ?_
  refine k_imul (v := 0) hx hb (by decide) dX7_spell_13 ?_
  refine lv_iload_n hx hb dX7_spell_14 rfl (lv_at hl 0 rfl) ?_
  refine lv_aload_n hx hb dX7_spell_15 rfl (lv_at hl 2 rfl) ?_
  have hFc : ∀ q : Nat, va_A [] s.heap.size q → A q := fun q h => by
    rcases h with ⟨k9, e9, h9⟩ | h9
    · simp at h9
    · exact hA q (Nat.le_trans hS.1 h9)
  refine va_calli (va_runV (As := []) (rest := [.int 0, .int 0]) ⟨hx, hb, hml, hown, hts⟩ (c_J0_length_8abf5 l adK adV z 8 s.heap.size (by decide)) (cwV 0 hts (gV t_440 t_441 t_442 t_142 t_443) rfl rfl rfl (by decide +kernel) ⟨Nat.le_of_ble_eq_true rfl, Nat.le_of_ble_eq_true rfl⟩) ⟨jBlind, vk_recv (i := 8) hE (by decide) hS, jGo hE0 hAz hS hz⟩ rfl rfl hl.1 rfl (lv_room (Nat.le_of_ble_eq_true rfl)) dX7_spell_16 ⟨Nat.le_of_ble_eq_true rfl, Nat.le_of_ble_eq_true rfl⟩) hS (fun q _ h => hFc q h) hFc (fun r9 u t H1 locs ht hvm hw hB hz1 hk1 hS => ?_)
  obtain rfl : r9 = 3 := hw.trans (by decide)
  refine lv_icmp_ge (tgt := 35) hx hb dX7_spell_19 (by decide) (fun c => absurd c (by decide)) (fun _ => ?_)
  refine lv_aload_n hx hb dX7_spell_22 rfl (lv_at hl 2 rfl) ?_
  refine lv_iload_n hx hb dX7_spell_23 rfl (lv_at hl 0 rfl) ?_
  have hFc : ∀ q : Nat, va_A [] H1.size q → A q := fun q h => by
    rcases h with ⟨k9, e9, h9⟩ | h9
    · simp at h9
    · exact hA q (Nat.le_trans hS.1 h9)
  refine va_calli (va_runV (As := [.int (nI 0)]) (rest := [.int 0]) ⟨hx, hb, hml, hown, hts⟩ (c_J0_charAt_5068e l adK adV z 8 0 H1.size (by decide) (by decide)) (cwV 1 hts (gV t_450 t_451 t_452 t_142 t_453) rfl rfl rfl (by decide +kernel) ⟨Nat.le_of_ble_eq_true rfl, Nat.le_of_ble_eq_true rfl⟩) ⟨jBlind, vk_recv (i := 8) hE (by decide) hS, jGo hE0 hAz hS hz⟩ rfl rfl hl.1 rfl (lv_room (Nat.le_of_ble_eq_true rfl)) dX7_spell_24 ⟨Nat.le_of_ble_eq_true rfl, Nat.le_of_ble_eq_true rfl⟩) hS (fun q _ h => hFc q h) hFc (fun r9 u t H1 locs ht hvm hw hB hz1 hk1 hS => ?_)
  obtain rfl : r9 = 97 := hw.trans (by decide)
  refine lv_bipush (v := 97) hx hb dX7_spell_27 (by decide) ?_
  refine k_isub (v := 0) hx hb (by decide) dX7_spell_29 ?_
  refine lv_iconst (v := 1) hx hb dX7_spell_30 (by decide) ?_
  refine k_iadd (v := 1) hx hb (by decide) dX7_spell_31 ?_
  refine lv_goto (tgt := 36) hx hb dX7_spell_32 (by decide) ?_
  refine k_iadd (v := 1) hx hb (by decide) dX7_spell_36 ?_
  refine lv_istore_n (lv' := [(1, .int 1), (2, .int 0), (0, .ref (adK 8))]) hx hb dX7_spell_37 rfl hl (by decide) rfl (fun ls hl => ?_)
  refine lv_iinc (v := 1) (lv' := [(2, .int 1), (1, .int 1), (0, .ref (adK 8))]) hx hb dX7_spell_38 hl (k := 1) rfl (by decide) (by decide) rfl (fun ls hl => ?_)
  refine lv_goto (tgt := 4) hx hb dX7_spell_41 (by decide) ?_
  refine lv_iload_n hx hb dX7_spell_4 rfl (lv_at hl 0 rfl) ?_
  refine lv_bipush (v := 6) hx hb dX7_spell_5 (by decide) ?_
  refine lv_icmp_ge (tgt := 44) hx hb dX7_spell_7 (by decide) (fun c => absurd c (by decide)) (fun _ => ?_)
  refine lv_iload_n hx hb dX7_spell_10 rfl (lv_at hl 1 rfl) ?_
  refine lv_bipush (v := 27) hx hb dX7_spell_11 (by decide) ?_
  refine k_imul (v := 27) hx hb (by decide) dX7_spell_13 ?_
  refine lv_iload_n hx hb dX7_spell_14 rfl (lv_at hl 0 rfl) ?_
  refine lv_aload_n hx hb dX7_spell_15 rfl (lv_at hl 2 rfl) ?_
  have hFc : ∀ q : Nat, va_A [] H1.size q → A q := fun q h => by
    rcases h with ⟨k9, e9, h9⟩ | h9
    · simp at h9
    · exact hA q (Nat.le_trans hS.1 h9)
  refine va_calli (va_runV (As := []) (rest := [.int 1, .int 27]) ⟨hx, hb, hml, hown, hts⟩ (c_J0_length_8abf5 l adK adV z 8 H1.size (by decide)) (cwV 0 hts (gV t_440 t_441 t_442 t_142 t_443) rfl rfl rfl (by decide +kernel) ⟨Nat.le_of_ble_eq_true rfl, Nat.le_of_ble_eq_true rfl⟩) ⟨jBlind, vk_recv (i := 8) hE (by decide) hS, jGo hE0 hAz hS hz⟩ rfl rfl hl.1 rfl (lv_room (Nat.le_of_ble_eq_true rfl)) dX7_spell_16 ⟨Nat.le_of_ble_eq_true rfl, Nat.le_of_ble_eq_true rfl⟩) hS (fun q _ h => hFc q h) hFc (fun r9 u t H1 locs ht hvm hw hB hz1 hk1 hS => ?_)
  obtain rfl : r9 = 3 := hw.trans (by decide)
  refine lv_icmp_ge (tgt := 35) hx hb dX7_spell_19 (by decide) (fun c => absurd c (by decide)) (fun _ => ?_)
  refine lv_aload_n hx hb dX7_spell_22 rfl (lv_at hl 2 rfl) ?_
  refine lv_iload_n hx hb dX7_spell_23 rfl (lv_at hl 0 rfl) ?_
  have hFc : ∀ q : Nat, va_A [] H1.size q → A q := fun q h => by
    rcases h with ⟨k9, e9, h9⟩ | h9
    · simp at h9
    · exact hA q (Nat.le_trans hS.1 h9)
  refine va_calli (va_runV (As := [.int (nI 1)]) (rest := [.int 27]) ⟨hx, hb, hml, hown, hts⟩ (c_J0_charAt_5068e l adK adV z 8 1 H1.size (by decide) (by decide)) (cwV 1 hts (gV t_450 t_451 t_452 t_142 t_453) rfl rfl rfl (by decide +kernel) ⟨Nat.le_of_ble_eq_true rfl, Nat.le_of_ble_eq_true rfl⟩) ⟨jBlind, vk_recv (i := 8) hE (by decide) hS, jGo hE0 hAz hS hz⟩ rfl rfl hl.1 rfl (lv_room (Nat.le_of_ble_eq_true rfl)) dX7_spell_24 ⟨Nat.le_of_ble_eq_true rfl, Nat.le_of_ble_eq_true rfl⟩) hS (fun q _ h => hFc q h) hFc (fun r9 u t H1 locs ht hvm hw hB hz1 hk1 hS => ?_)
  obtain rfl : r9 = 110 := hw.trans (by decide)
  refine lv_bipush (v := 97) hx hb dX7_spell_27 (by decide) ?_
  refine k_isub (v := 13) hx hb (by decide) dX7_spell_29 ?_
  refine lv_iconst (v := 1) hx hb dX7_spell_30 (by decide) ?_
  refine k_iadd (v := 14) hx hb (by decide) dX7_spell_31 ?_
  refine lv_goto (tgt := 36) hx hb dX7_spell_32 (by decide) ?_
  refine k_iadd (v := 41) hx hb (by decide) dX7_spell_36 ?_
  refine lv_istore_n (lv' := [(1, .int 41), (2, .int 1), (0, .ref (adK 8))]) hx hb dX7_spell_37 rfl hl (by decide) rfl (fun ls hl => ?_)
  refine lv_iinc (v := 2) (lv' := [(2, .int 2), (1, .int 41), (0, .ref (adK 8))]) hx hb dX7_spell_38 hl (k := 1) rfl (by decide) (by decide) rfl (fun ls hl => ?_)
  refine lv_goto (tgt := 4) hx hb dX7_spell_41 (by decide) ?_
  refine lv_iload_n hx hb dX7_spell_4 rfl (lv_at hl 0 rfl) ?_
  refine lv_bipush (v := 6) hx hb dX7_spell_5 (by decide) ?_
  refine lv_icmp_ge (tgt := 44) hx hb dX7_spell_7 (by decide) (fun c => absurd c (by decide)) (fun _ => ?_)
  refine lv_iload_n hx hb dX7_spell_10 rfl (lv_at hl 1 rfl) ?_
  refine lv_bipush (v := 27) hx hb dX7_spell_11 (by decide) ?_
  refine k_imul (v := 1107) hx hb (by decide) dX7_spell_13 ?_
  refine lv_iload_n hx hb dX7_spell_14 rfl (lv_at hl 0 rfl) ?_
  refine lv_aload_n hx hb dX7_spell_15 rfl (lv_at hl 2 rfl) ?_
  have hFc : ∀ q : Nat, va_A [] H1.size q → A q := fun q h => by
    rcases h with ⟨k9, e9, h9⟩ | h9
    · simp at h9
    · exact hA q (Nat.le_trans hS.1 h9)
  refine va_calli (va_runV (As := []) (rest := [.int 2, .int 1107]) ⟨hx, hb, hml, hown, hts⟩ (c_J0_length_8abf5 l adK adV z 8 H1.size (by decide)) (cwV 0 hts (gV t_440 t_441 t_442 t_142 t_443) rfl rfl rfl (by decide +kernel) ⟨Nat.le_of_ble_eq_true rfl, Nat.le_of_ble_eq_true rfl⟩) ⟨jBlind, vk_recv (i := 8) hE (by decide) hS, jGo hE0 hAz hS hz⟩ rfl rfl hl.1 rfl (lv_room (Nat.le_of_ble_eq_true rfl)) dX7_spell_16 ⟨Nat.le_of_ble_eq_true rfl, Nat.le_of_ble_eq_true rfl⟩) hS (fun q _ h => hFc q h) hFc (fun r9 u t H1 locs ht hvm hw hB hz1 hk1 hS => ?_)
  obtain rfl : r9 = 3 := hw.trans (by decide)
  refine lv_icmp_ge (tgt := 35) hx hb dX7_spell_19 (by decide) (fun c => absurd c (by decide)) (fun _ => ?_)
  refine lv_aload_n hx hb dX7_spell_22 rfl (lv_at hl 2 rfl) ?_
  refine lv_iload_n hx hb dX7_spell_23 rfl (lv_at hl 0 rfl) ?_
  have hFc : ∀ q : Nat, va_A [] H1.size q → A q := fun q h => by
    rcases h with ⟨k9, e9, h9⟩ | h9
    · simp at h9
    · exact hA q (Nat.le_trans hS.1 h9)
  refine va_calli (va_runV (As := [.int (nI 2)]) (rest := [.int 1107]) ⟨hx, hb, hml, hown, hts⟩ (c_J0_charAt_5068e l adK adV z 8 2 H1.size (by decide) (by decide)) (cwV 1 hts (gV t_450 t_451 t_452 t_142 t_453) rfl rfl rfl (by decide +kernel) ⟨Nat.le_of_ble_eq_true rfl, Nat.le_of_ble_eq_true rfl⟩) ⟨jBlind, vk_recv (i := 8) hE (by decide) hS, jGo hE0 hAz hS hz⟩ rfl rfl hl.1 rfl (lv_room (Nat.le_of_ble_eq_true rfl)) dX7_spell_24 ⟨Nat.le_of_ble_eq_true rfl, Nat.le_of_ble_eq_true rfl⟩) hS (fun q _ h => hFc q h) hFc (fun r9 u t H1 locs ht hvm hw hB hz1 hk1 hS => ?_)
  obtain rfl : r9 = 121 := hw.trans (by decide)
  refine lv_bipush (v := 97) hx hb dX7_spell_27 (by decide) ?_
  refine k_isub (v := 24) hx hb (by decide) dX7_spell_29 ?_
  refine lv_iconst (v := 1) hx hb dX7_spell_30 (by decide) ?_
  refine k_iadd (v := 25) hx hb (by decide) dX7_spell_31 ?_
  refine lv_goto (tgt := 36) hx hb dX7_spell_32 (by decide) ?_
  refine k_iadd (v := 1132) hx hb (by decide) dX7_spell_36 ?_
  refine lv_istore_n (lv' := [(1, .int 1132), (2, .int 2), (0, .ref (adK 8))]) hx hb dX7_spell_37 rfl hl (by decide) rfl (fun ls hl => ?_)
  refine lv_iinc (v := 3) (lv' := [(2, .int 3), (1, .int 1132), (0, .ref (adK 8))]) hx hb dX7_spell_38 hl (k := 1) rfl (by decide) (by decide) rfl (fun ls hl => ?_)
  refine lv_goto (tgt := 4) hx hb dX7_spell_41 (by decide) ?_
  refine lv_iload_n hx hb dX7_spell_4 rfl (lv_at hl 0 rfl) ?_
  refine lv_bipush (v := 6) hx hb dX7_spell_5 (by decide) ?_
  refine lv_icmp_ge (tgt := 44) hx hb dX7_spell_7 (by decide) (fun c => absurd c (by decide)) (fun _ => ?_)
  refine lv_iload_n hx hb dX7_spell_10 rfl (lv_at hl 1 rfl) ?_
  refine lv_bipush (v := 27) hx hb dX7_spell_11 (by decide) ?_
  refine k_imul (v := 30564) hx hb (by decide) dX7_spell_13 ?_
  refine lv_iload_n hx hb dX7_spell_14 rfl (lv_at hl 0 rfl) ?_
  refine lv_aload_n hx hb dX7_spell_15 rfl (lv_at hl 2 rfl) ?_
  have hFc : ∀ q : Nat, va_A [] H1.size q → A q := fun q h => by
    rcases h with ⟨k9, e9, h9⟩ | h9
    · simp at h9
    · exact hA q (Nat.le_trans hS.1 h9)
  refine va_calli (va_runV (As := []) (rest := [.int 3, .int 30564]) ⟨hx, hb, hml, hown, hts⟩ (c_J0_length_8abf5 l adK adV z 8 H1.size (by decide)) (cwV 0 hts (gV t_440 t_441 t_442 t_142 t_443) rfl rfl rfl (by decide +kernel) ⟨Nat.le_of_ble_eq_true rfl, Nat.le_of_ble_eq_true rfl⟩) ⟨jBlind, vk_recv (i := 8) hE (by decide) hS, jGo hE0 hAz hS hz⟩ rfl rfl hl.1 rfl (lv_room (Nat.le_of_ble_eq_true rfl)) dX7_spell_16 ⟨Nat.le_of_ble_eq_true rfl, Nat.le_of_ble_eq_true rfl⟩) hS (fun q _ h => hFc q h) hFc (fun r9 u t H1 locs ht hvm hw hB hz1 hk1 hS => ?_)
  obtain rfl : r9 = 3 := hw.trans (by decide)
  refine lv_icmp_ge (tgt := 35) hx hb dX7_spell_19 (by decide) (fun _ => ?_) (fun c => absurd (by decide) c)
  refine lv_iconst (v := 0) hx hb dX7_spell_35 (by decide) ?_
  refine k_iadd (v := 30564) hx hb (by decide) dX7_spell_36 ?_
  refine lv_istore_n (lv' := [(1, .int 30564), (2, .int 3), (0, .ref (adK 8))]) hx hb dX7_spell_37 rfl hl (by decide) rfl (fun ls hl => ?_)
  refine lv_iinc (v := 4) (lv' := [(2, .int 4), (1, .int 30564), (0, .ref (adK 8))]) hx hb dX7_spell_38 hl (k := 1) rfl (by decide) (by decide) rfl (fun ls hl => ?_)
  refine lv_goto (tgt := 4) hx hb dX7_spell_41 (by decide) ?_
  refine lv_iload_n hx hb dX7_spell_4 rfl (lv_at hl 0 rfl) ?_
  refine lv_bipush (v := 6) hx hb dX7_spell_5 (by decide) ?_
  refine lv_icmp_ge (tgt := 44) hx hb dX7_spell_7 (by decide) (fun c => absurd c (by decide)) (fun _ => ?_)
  refine lv_iload_n hx hb dX7_spell_10 rfl (lv_at hl 1 rfl) ?_
  refine lv_bipush (v := 27) hx hb dX7_spell_11 (by decide) ?_
  refine k_imul (v := 825228) hx hb (by decide) dX7_spell_13 ?_
  refine lv_iload_n hx hb dX7_spell_14 rfl (lv_at hl 0 rfl) ?_
  refine lv_aload_n hx hb dX7_spell_15 rfl (lv_at hl 2 rfl) ?_
  have hFc : ∀ q : Nat, va_A [] H1.size q → A q := fun q h => by
    rcases h with ⟨k9, e9, h9⟩ | h9
    · simp at h9
    · exact hA q (Nat.le_trans hS.1 h9)
  refine va_calli (va_runV (As := []) (rest := [.int 4, .int 825228]) ⟨hx, hb, hml, hown, hts⟩ (c_J0_length_8abf5 l adK adV z 8 H1.size (by decide)) (cwV 0 hts (gV t_440 t_441 t_442 t_142 t_443) rfl rfl rfl (by decide +kernel) ⟨Nat.le_of_ble_eq_true rfl, Nat.le_of_ble_eq_true rfl⟩) ⟨jBlind, vk_recv (i := 8) hE (by decide) hS, jGo hE0 hAz hS hz⟩ rfl rfl hl.1 rfl (lv_room (Nat.le_of_ble_eq_true rfl)) dX7_spell_16 ⟨Nat.le_of_ble_eq_true rfl, Nat.le_of_ble_eq_true rfl⟩) hS (fun q _ h => hFc q h) hFc (fun r9 u t H1 locs ht hvm hw hB hz1 hk1 hS => ?_)
  obtain rfl : r9 = 3 := hw.trans (by decide)
  refine lv_icmp_ge (tgt := 35) hx hb dX7_spell_19 (by decide) (fun _ => ?_) (fun c => absurd (by decide) c)
  refine lv_iconst (v := 0) hx hb dX7_spell_35 (by decide) ?_
  refine k_iadd (v := 825228) hx hb (by decide) dX7_spell_36 ?_
  refine lv_istore_n (lv' := [(1, .int 825228), (2, .int 4), (0, .ref (adK 8))]) hx hb dX7_spell_37 rfl hl (by decide) rfl (fun ls hl => ?_)
  refine lv_iinc (v := 5) (lv' := [(2, .int 5), (1, .int 825228), (0, .ref (adK 8))]) hx hb dX7_spell_38 hl (k := 1) rfl (by decide) (by decide) rfl (fun ls hl => ?_)
  refine lv_goto (tgt := 4) hx hb dX7_spell_41 (by decide) ?_
  refine lv_iload_n hx hb dX7_spell_4 rfl (lv_at hl 0 rfl) ?_
  refine lv_bipush (v := 6) hx hb dX7_spell_5 (by decide) ?_
  refine lv_icmp_ge (tgt := 44) hx hb dX7_spell_7 (by decide) (fun c => absurd c (by decide)) (fun _ => ?_)
  refine lv_iload_n hx hb dX7_spell_10 rfl (lv_at hl 1 rfl) ?_
  refine lv_bipush (v := 27) hx hb dX7_spell_11 (by decide) ?_
  refine k_imul (v := 22281156) hx hb (by decide) dX7_spell_13 ?_
  refine lv_iload_n hx hb dX7_spell_14 rfl (lv_at hl 0 rfl) ?_
  refine lv_aload_n hx hb dX7_spell_15 rfl (lv_at hl 2 rfl) ?_
  have hFc : ∀ q : Nat, va_A [] H1.size q → A q := fun q h => by
    rcases h with ⟨k9, e9, h9⟩ | h9
    · simp at h9
    · exact hA q (Nat.le_trans hS.1 h9)
  refine va_calli (va_runV (As := []) (rest := [.int 5, .int 22281156]) ⟨hx, hb, hml, hown, hts⟩ (c_J0_length_8abf5 l adK adV z 8 H1.size (by decide)) (cwV 0 hts (gV t_440 t_441 t_442 t_142 t_443) rfl rfl rfl (by decide +kernel) ⟨Nat.le_of_ble_eq_true rfl, Nat.le_of_ble_eq_true rfl⟩) ⟨jBlind, vk_recv (i := 8) hE (by decide) hS, jGo hE0 hAz hS hz⟩ rfl rfl hl.1 rfl (lv_room (Nat.le_of_ble_eq_true rfl)) dX7_spell_16 ⟨Nat.le_of_ble_eq_true rfl, Nat.le_of_ble_eq_true rfl⟩) hS (fun q _ h => hFc q h) hFc (fun r9 u t H1 locs ht hvm hw hB hz1 hk1 hS => ?_)
  obtain rfl : r9 = 3 := hw.trans (by decide)
  refine lv_icmp_ge (tgt := 35) hx hb dX7_spell_19 (by decide) (fun _ => ?_) (fun c => absurd (by decide) c)
  refine lv_iconst (v := 0) hx hb dX7_spell_35 (by decide) ?_
  refine k_iadd (v := 22281156) hx hb (by decide) dX7_spell_36 ?_
  refine lv_istore_n (lv' := [(1, .int 22281156), (2, .int 5), (0, .ref (adK 8))]) hx hb dX7_spell_37 rfl hl (by decide) rfl (fun ls hl => ?_)
  refine lv_iinc (v := 6) (lv' := [(2, .int 6), (1, .int 22281156), (0, .ref (adK 8))]) hx hb dX7_spell_38 hl (k := 1) rfl (by decide) (by decide) rfl (fun ls hl => ?_)
  refine lv_goto (tgt := 4) hx hb dX7_spell_41 (by decide) ?_
  refine lv_iload_n hx hb dX7_spell_4 rfl (lv_at hl 0 rfl) ?_
  refine lv_bipush (v := 6) hx hb dX7_spell_5 (by decide) ?_
  refine lv_icmp_ge (tgt := 44) hx hb dX7_spell_7 (by decide) (fun _ => ?_) (fun c => absurd (by decide) c)
  refine lv_iload_n hx hb dX7_spell_44 rfl (lv_at hl 1 rfl) ?_
  exact W.iret (v := 22281156) hx hb hr (fun t ht hW => ⟨⟨22281156, (), rfl, rfl, trivial⟩, hS.F ht⟩) hS.2.2 dX7_spell_45
set_option maxHeartbeats 4000000 in
set_option maxRecDepth 100000 in
theorem c_X7_spell_9 (l : Launch) (adK adV : Nat → Nat) (z : Nat) (sz : Nat) : Met l yX7_spell (.code yX7_spell cX7_spell 3 (some .int) :: WT) ({ frames := 8, cells := 0, slots := 0, locals := 700 }) (va_Pc [.ref (adK 9)] (jPre adK adV z sz)) (va_Qi (fun (r : Int32) (u : Unit) => r = 224799543) (fun _ _ => True) (va_A [] sz)) 0 0 (va_A [] sz) := by
  refine Met.ofW (cc := cX7_spell) (maxL := 3) (ret := (some .int)) (by decide) rfl ?_
  intro p e s m args below meth c s₁ B hml hv
  obtain ⟨rfl, hsz, hE0, hz⟩ := hv
  have hx := B.exec
  have hb := B.bytes
  have hr := B.returns
  have hts0 := atoms_spec (ws := .code yX7_spell cX7_spell 3 (some .int) :: WT) B.pre
  have hts : ∀ w ∈ WT, w.before _ s = true := fun w h => hts0 w (List.mem_cons_of_mem _ h)
  have hown : s.vm.findClass RX7 = some m.cls := findClass_of_methodNamed B.named
  have hlocks := B.notSynchronized
  subst hsz
  have hAz : ∀ q : Nat, va_A [] s.heap.size q → z ≤ q := fun q h => by
    rcases h with ⟨k9, e9, h9⟩ | h9
    · simp at h9
    · exact Nat.le_trans hz h9
  generalize hAe : va_A [] s.heap.size = A at hAz ⊢
  have hA : ∀ q : Nat, s.heap.size ≤ q → A q := fun q h => by rw [← hAe]; exact Or.inr h
  have hS : va_S A s.heap s.heap [] := va_S.rf
  have hE : vk_S 11 lenS bytS adK adV A s s.heap := hE0.1.narrow hAz
  have hZ : va_Z "java/lang/String" "COMPACT_STRINGS" "Z" (.int 1) A s s.heap := hE0.2.1.narrow hAz
  have hZq : va_Zq "jdk/internal/util/Preconditions" "SIOOBE_FORMATTER" "Ljava/util/function/BiFunction;" A s s.heap := hE0.2.2.1.narrow hAz
  have hl := lv_entry ([.ref (adK 9)]) (n := 3) (Nat.le_of_ble_eq_true rfl)
  rw [lg_entry_eq]
  generalize (lg_sl ([.ref (adK 9)]) ++ List.replicate (3 - (lg_sl ([.ref (adK 9)])).length) Slot.unset).toArray = ls at hl ⊢
  have hl : lv_has ls 3 [(0, .ref (adK 9))] := hl
  refine lv_iconst (v := 0) hx hb dX7_spell_0 (by decide) ?_
  refine lv_istore_n (lv' := [(1, .int 0), (0, .ref (adK 9))]) hx hb dX7_spell_1 rfl hl (by decide) rfl (fun ls hl => ?_)
  refine lv_iconst (v := 0) hx hb dX7_spell_2 (by decide) ?_
  refine lv_istore_n (lv' := [(2, .int 0), (1, .int 0), (0, .ref (adK 9))]) hx hb dX7_spell_3 rfl hl (by decide) rfl (fun ls hl => ?_)
  refine lv_iload_n hx hb dX7_spell_4 rfl (lv_at hl 0 rfl) ?_
  refine lv_bipush (v := 6) hx hb dX7_spell_5 (by decide) ?_
  refine lv_icmp_ge (tgt := 44) hx hb dX7_spell_7 (by decide) (fun c => absurd c (by decide)) (fun _ => ?_)
  refine lv_iload_n hx hb dX7_spell_10 rfl (lv_at hl 1 rfl) ?_
  refine lv_bipush (v := 27) hx hb dX7_spell_11 (by decide) ?_
  refine k_imul (v := 0) hx hb (by decide) dX7_spell_13 ?_
  refine lv_iload_n hx hb dX7_spell_14 rfl (lv_at hl 0 rfl) ?_
  refine lv_aload_n hx hb dX7_spell_15 rfl (lv_at hl 2 rfl) ?_
  have hFc : ∀ q : Nat, va_A [] s.heap.size q → A q := fun q h => by
    rcases h with ⟨k9, e9, h9⟩ | h9
    · simp at h9
    · exact hA q (Nat.le_trans hS.1 h9)
  refine va_calli (va_runV (As := []) (rest := [.int 0, .int 0]) ⟨hx, hb, hml, hown, hts⟩ (c_J0_length_8abf5 l adK adV z 9 s.heap.size (by decide)) (cwV 0 hts (gV t_440 t_441 t_442 t_142 t_443) rfl rfl rfl (by decide +kernel) ⟨Nat.le_of_ble_eq_true rfl, Nat.le_of_ble_eq_true rfl⟩) ⟨jBlind, vk_recv (i := 9) hE (by decide) hS, jGo hE0 hAz hS hz⟩ rfl rfl hl.1 rfl (lv_room (Nat.le_of_ble_eq_true rfl)) dX7_spell_16 ⟨Nat.le_of_ble_eq_true rfl, Nat.le_of_ble_eq_true rfl⟩) hS (fun q _ h => hFc q h) hFc (fun r9 u t H1 locs ht hvm hw hB hz1 hk1 hS => ?_)
  obtain rfl : r9 = 2 := hw.trans (by decide)
  refine lv_icmp_ge (tgt := 35) hx hb dX7_spell_19 (by decide) (fun c => absurd c (by decide)) (fun _ => ?_)
  refine lv_aload_n hx hb dX7_spell_22 rfl (lv_at hl 2 rfl) ?_
  refine lv_iload_n hx hb dX7_spell_23 rfl (lv_at hl 0 rfl) ?_
  have hFc : ∀ q : Nat, va_A [] H1.size q → A q := fun q h => by
    rcases h with ⟨k9, e9, h9⟩ | h9
    · simp at h9
    · exact hA q (Nat.le_trans hS.1 h9)
  refine va_calli (va_runV (As := [.int (nI 0)]) (rest := [.int 0]) ⟨hx, hb, hml, hown, hts⟩ (c_J0_charAt_5068e l adK adV z 9 0 H1.size (by decide) (by decide)) (cwV 1 hts (gV t_450 t_451 t_452 t_142 t_453) rfl rfl rfl (by decide +kernel) ⟨Nat.le_of_ble_eq_true rfl, Nat.le_of_ble_eq_true rfl⟩) ⟨jBlind, vk_recv (i := 9) hE (by decide) hS, jGo hE0 hAz hS hz⟩ rfl rfl hl.1 rfl (lv_room (Nat.le_of_ble_eq_true rfl)) dX7_spell_24 ⟨Nat.le_of_ble_eq_true rfl, Nat.le_of_ble_eq_true rfl⟩) hS (fun q _ h => hFc q h) hFc (fun r9 u t H1 locs ht hvm hw hB hz1 hk1 hS => ?_)
  obtain rfl : r9 = 111 := hw.trans (by decide)
  refine lv_bipush (v := 97) hx hb dX7_spell_27 (by decide) ?_
  refine k_isub (v := 14) hx hb (by decide) dX7_spell_29 ?_
  refine lv_iconst (v := 1) hx hb dX7_spell_30 (by decide) ?_
  refine k_iadd (v := 15) hx hb (by decide) dX7_spell_31 ?_
  refine lv_goto (tgt := 36) hx hb dX7_spell_32 (by decide) ?_
  refine k_iadd (v := 15) hx hb (by decide) dX7_spell_36 ?_
  refine lv_istore_n (lv' := [(1, .int 15), (2, .int 0), (0, .ref (adK 9))]) hx hb dX7_spell_37 rfl hl (by decide) rfl (fun ls hl => ?_)
  refine lv_iinc (v := 1) (lv' := [(2, .int 1), (1, .int 15), (0, .ref (adK 9))]) hx hb dX7_spell_38 hl (k := 1) rfl (by decide) (by decide) rfl (fun ls hl => ?_)
  refine lv_goto (tgt := 4) hx hb dX7_spell_41 (by decide) ?_
  refine lv_iload_n hx hb dX7_spell_4 rfl (lv_at hl 0 rfl) ?_
  refine lv_bipush (v := 6) hx hb dX7_spell_5 (by decide) ?_
  refine lv_icmp_ge (tgt := 44) hx hb dX7_spell_7 (by decide) (fun c => absurd c (by decide)) (fun _ => ?_)
  refine lv_iload_n hx hb dX7_spell_10 rfl (lv_at hl 1 rfl) ?_
  refine lv_bipush (v := 27) hx hb dX7_spell_11 (by decide) ?_
  refine k_imul (v := 405) hx hb (by decide) dX7_spell_13 ?_
  refine lv_iload_n hx hb dX7_spell_14 rfl (lv_at hl 0 rfl) ?_
  refine lv_aload_n hx hb dX7_spell_15 rfl (lv_at hl 2 rfl) ?_
  have hFc : ∀ q : Nat, va_A [] H1.size q → A q := fun q h => by
    rcases h with ⟨k9, e9, h9⟩ | h9
    · simp at h9
    · exact hA q (Nat.le_trans hS.1 h9)
  refine va_calli (va_runV (As := []) (rest := [.int 1, .int 405]) ⟨hx, hb, hml, hown, hts⟩ (c_J0_length_8abf5 l adK adV z 9 H1.size (by decide)) (cwV 0 hts (gV t_440 t_441 t_442 t_142 t_443) rfl rfl rfl (by decide +kernel) ⟨Nat.le_of_ble_eq_true rfl, Nat.le_of_ble_eq_true rfl⟩) ⟨jBlind, vk_recv (i := 9) hE (by decide) hS, jGo hE0 hAz hS hz⟩ rfl rfl hl.1 rfl (lv_room (Nat.le_of_ble_eq_true rfl)) dX7_spell_16 ⟨Nat.le_of_ble_eq_true rfl, Nat.le_of_ble_eq_true rfl⟩) hS (fun q _ h => hFc q h) hFc (fun r9 u t H1 locs ht hvm hw hB hz1 hk1 hS => ?_)
  obtain rfl : r9 = 2 := hw.trans (by decide)
  refine lv_icmp_ge (tgt := 35) hx hb dX7_spell_19 (by decide) (fun c => absurd c (by decide)) (fun _ => ?_)
  refine lv_aload_n hx hb dX7_spell_22 rfl (lv_at hl 2 rfl) ?_
  refine lv_iload_n hx hb dX7_spell_23 rfl (lv_at hl 0 rfl) ?_
  have hFc : ∀ q : Nat, va_A [] H1.size q → A q := fun q h => by
    rcases h with ⟨k9, e9, h9⟩ | h9
    · simp at h9
    · exact hA q (Nat.le_trans hS.1 h9)
  refine va_calli (va_runV (As := [.int (nI 1)]) (rest := [.int 405]) ⟨hx, hb, hml, hown, hts⟩ (c_J0_charAt_5068e l adK adV z 9 1 H1.size (by decide) (by decide)) (cwV 1 hts (gV t_450 t_451 t_452 t_142 t_453) rfl rfl rfl (by decide +kernel) ⟨Nat.le_of_ble_eq_true rfl, Nat.le_of_ble_eq_true rfl⟩) ⟨jBlind, vk_recv (i := 9) hE (by decide) hS, jGo hE0 hAz hS hz⟩ rfl rfl hl.1 rfl (lv_room (Nat.le_of_ble_eq_true rfl)) dX7_spell_24 ⟨Nat.le_of_ble_eq_true rfl, Nat.le_of_ble_eq_true rfl⟩) hS (fun q _ h => hFc q h) hFc (fun r9 u t H1 locs ht hvm hw hB hz1 hk1 hS => ?_)
  obtain rfl : r9 = 114 := hw.trans (by decide)
  refine lv_bipush (v := 97) hx hb dX7_spell_27 (by decide) ?_
  refine k_isub (v := 17) hx hb (by decide) dX7_spell_29 ?_
  refine lv_iconst (v := 1) hx hb dX7_spell_30 (by decide) ?_
  refine k_iadd (v := 18) hx hb (by decide) dX7_spell_31 ?_
  refine lv_goto (tgt := 36) hx hb dX7_spell_32 (by decide) ?_
  refine k_iadd (v := 423) hx hb (by decide) dX7_spell_36 ?_
  refine lv_istore_n (lv' := [(1, .int 423), (2, .int 1), (0, .ref (adK 9))]) hx hb dX7_spell_37 rfl hl (by decide) rfl (fun ls hl => ?_)
  refine lv_iinc (v := 2) (lv' := [(2, .int 2), (1, .int 423), (0, .ref (adK 9))]) hx hb dX7_spell_38 hl (k := 1) rfl (by decide) (by decide) rfl (fun ls hl => ?_)
  refine lv_goto (tgt := 4) hx hb dX7_spell_41 (by decide) ?_
  refine lv_iload_n hx hb dX7_spell_4 rfl (lv_at hl 0 rfl) ?_
  refine lv_bipush (v := 6) hx hb dX7_spell_5 (by decide) ?_
  refine lv_icmp_ge (tgt := 44) hx hb dX7_spell_7 (by decide) (fun c => absurd c (by decide)) (fun _ => ?_)
  refine lv_iload_n hx hb dX7_spell_10 rfl (lv_at hl 1 rfl) ?_
  refine lv_bipush (v := 27) hx hb dX7_spell_11 (by decide) ?_
  refine k_imul (v := 11421) hx hb (by decide) dX7_spell_13 ?_
  refine lv_iload_n hx hb dX7_spell_14 rfl (lv_at hl 0 rfl) ?_
  refine lv_aload_n hx hb dX7_spell_15 rfl (lv_at hl 2 rfl) ?_
  have hFc : ∀ q : Nat, va_A [] H1.size q → A q := fun q h => by
    rcases h with ⟨k9, e9, h9⟩ | h9
    · simp at h9
    · exact hA q (Nat.le_trans hS.1 h9)
  refine va_calli (va_runV (As := []) (rest := [.int 2, .int 11421]) ⟨hx, hb, hml, hown, hts⟩ (c_J0_length_8abf5 l adK adV z 9 H1.size (by decide)) (cwV 0 hts (gV t_440 t_441 t_442 t_142 t_443) rfl rfl rfl (by decide +kernel) ⟨Nat.le_of_ble_eq_true rfl, Nat.le_of_ble_eq_true rfl⟩) ⟨jBlind, vk_recv (i := 9) hE (by decide) hS, jGo hE0 hAz hS hz⟩ rfl rfl hl.1 rfl (lv_room (Nat.le_of_ble_eq_true rfl)) dX7_spell_16 ⟨Nat.le_of_ble_eq_true rfl, Nat.le_of_ble_eq_true rfl⟩) hS (fun q _ h => hFc q h) hFc (fun r9 u t H1 locs ht hvm hw hB hz1 hk1 hS => ?_)
  obtain rfl : r9 = 2 := hw.trans (by decide)
  refine lv_icmp_ge (tgt := 35) hx hb dX7_spell_19 (by decide) (fun _ => ?_) (fun c => absurd (by decide) c)
  refine lv_iconst (v := 0) hx hb dX7_spell_35 (by decide) ?_
  refine k_iadd (v := 11421) hx hb (by decide) dX7_spell_36 ?_
  refine lv_istore_n (lv' := [(1, .int 11421), (2, .int 2), (0, .ref (adK 9))]) hx hb dX7_spell_37 rfl hl (by decide) rfl (fun ls hl => ?_)
  refine lv_iinc (v := 3) (lv' := [(2, .int 3), (1, .int 11421), (0, .ref (adK 9))]) hx hb dX7_spell_38 hl (k := 1) rfl (by decide) (by decide) rfl (fun ls hl => ?_)
  refine lv_goto (tgt := 4) hx hb dX7_spell_41 (by decide) ?_
  refine lv_iload_n hx hb dX7_spell_4 rfl (lv_at hl 0 rfl) ?_
  refine lv_bipush (v := 6) hx hb dX7_spell_5 (by decide) ?_
  refine lv_icmp_ge (tgt := 44) hx hb dX7_spell_7 (by decide) (fun c => absurd c (by decide)) (fun _ => ?_)
  refine lv_iload_n hx hb dX7_spell_10 rfl (lv_at hl 1 rfl) ?_
  refine lv_bipush (v := 27) hx hb dX7_spell_11 (by decide) ?_
  refine k_imul (v := 308367) hx hb (by decide) dX7_spell_13 ?_
  refine lv_iload_n hx hb dX7_spell_14 rfl (lv_at hl 0 rfl) ?_
  refine lv_aload_n hx hb dX7_spell_15 rfl (lv_at hl 2 rfl) ?_
  have hFc : ∀ q : Nat, va_A [] H1.size q → A q := fun q h => by
    rcases h with ⟨k9, e9, h9⟩ | h9
    · simp at h9
    · exact hA q (Nat.le_trans hS.1 h9)
  refine va_calli (va_runV (As := []) (rest := [.int 3, .int 308367]) ⟨hx, hb, hml, hown, hts⟩ (c_J0_length_8abf5 l adK adV z 9 H1.size (by decide)) (cwV 0 hts (gV t_440 t_441 t_442 t_142 t_443) rfl rfl rfl (by decide +kernel) ⟨Nat.le_of_ble_eq_true rfl, Nat.le_of_ble_eq_true rfl⟩) ⟨jBlind, vk_recv (i := 9) hE (by decide) hS, jGo hE0 hAz hS hz⟩ rfl rfl hl.1 rfl (lv_room (Nat.le_of_ble_eq_true rfl)) dX7_spell_16 ⟨Nat.le_of_ble_eq_true rfl, Nat.le_of_ble_eq_true rfl⟩) hS (fun q _ h => hFc q h) hFc (fun r9 u t H1 locs ht hvm hw hB hz1 hk1 hS => ?_)
  obtain rfl : r9 = 2 := hw.trans (by decide)
  refine lv_icmp_ge (tgt := 35) hx hb dX7_spell_19 (by decide) (fun _ => ?_) (fun c => absurd (by decide) c)
  refine lv_iconst (v := 0) hx hb dX7_spell_35 (by decide) ?_
  refine k_iadd (v := 308367) hx hb (by decide) dX7_spell_36 ?_
  refine lv_istore_n (lv' := [(1, .int 308367), (2, .int 3), (0, .ref (adK 9))]) hx hb dX7_spell_37 rfl hl (by decide) rfl (fun ls hl => ?_)
  refine lv_iinc (v := 4) (lv' := [(2, .int 4), (1, .int 308367), (0, .ref (adK 9))]) hx hb dX7_spell_38 hl (k := 1) rfl (by decide) (by decide) rfl (fun ls hl => ?_)
  refine lv_goto (tgt := 4) hx hb dX7_spell_41 (by decide) ?_
  refine lv_iload_n hx hb dX7_spell_4 rfl (lv_at hl 0 rfl) ?_
  refine lv_bipush (v := 6) hx hb dX7_spell_5 (by decide) ?_
  refine lv_icmp_ge (tgt := 44) hx hb dX7_spell_7 (by decide) (fun c => absurd c (by decide)) (fun _ => ?_)
  refine lv_iload_n hx hb dX7_spell_10 rfl (lv_at hl 1 rfl) ?_
  refine lv_bipush (v := 27) hx hb dX7_spell_11 (by decide) ?_
  refine k_imul (v := 8325909) hx hb (by decide) dX7_spell_13 ?_
  refine lv_iload_n hx hb dX7_spell_14 rfl (lv_at hl 0 rfl) ?_
  refine lv_aload_n hx hb dX7_spell_15 rfl (lv_at hl 2 rfl) ?_
  have hFc : ∀ q : Nat, va_A [] H1.size q → A q := fun q h => by
    rcases h with ⟨k9, e9, h9⟩ | h9
    · simp at h9
    · exact hA q (Nat.le_trans hS.1 h9)
  refine va_calli (va_runV (As := []) (rest := [.int 4, .int 8325909]) ⟨hx, hb, hml, hown, hts⟩ (c_J0_length_8abf5 l adK adV z 9 H1.size (by decide)) (cwV 0 hts (gV t_440 t_441 t_442 t_142 t_443) rfl rfl rfl (by decide +kernel) ⟨Nat.le_of_ble_eq_true rfl, Nat.le_of_ble_eq_true rfl⟩) ⟨jBlind, vk_recv (i := 9) hE (by decide) hS, jGo hE0 hAz hS hz⟩ rfl rfl hl.1 rfl (lv_room (Nat.le_of_ble_eq_true rfl)) dX7_spell_16 ⟨Nat.le_of_ble_eq_true rfl, Nat.le_of_ble_eq_true rfl⟩) hS (fun q _ h => hFc q h) hFc (fun r9 u t H1 locs ht hvm hw hB hz1 hk1 hS => ?_)
  obtain rfl : r9 = 2 := hw.trans (by decide)
  refine lv_icmp_ge (tgt := 35) hx hb dX7_spell_19 (by decide) (fun _ => ?_) (fun c => absurd (by decide) c)
  refine lv_iconst (v := 0) hx hb dX7_spell_35 (by decide) ?_
  refine k_iadd (v := 8325909) hx hb (by decide) dX7_spell_36 ?_
  refine lv_istore_n (lv' := [(1, .int 8325909), (2, .int 4), (0, .ref (adK 9))]) hx hb dX7_spell_37 rfl hl (by decide) rfl (fun ls hl => ?_)
  refine lv_iinc (v := 5) (lv' := [(2, .int 5), (1, .int 8325909), (0, .ref (adK 9))]) hx hb dX7_spell_38 hl (k := 1) rfl (by decide) (by decide) rfl (fun ls hl => ?_)
  refine lv_goto (tgt := 4) hx hb dX7_spell_41 (by decide) ?_
  refine lv_iload_n hx hb dX7_spell_4 rfl (lv_at hl 0 rfl) ?_
  refine lv_bipush (v := 6) hx hb dX7_spell_5 (by decide) ?_
  refine lv_icmp_ge (tgt := 44) hx hb dX7_spell_7 (by decide) (fun c => absurd c (by decide)) (fun _ => ?_)
  refine lv_iload_n hx hb dX7_spell_10 rfl (lv_at hl 1 rfl) ?_
  refine lv_bipush (v := 27) hx hb dX7_spell_11 (by decide) ?_
  refine k_imul (v := 224799543) hx hb (by decide) dX7_spell_13 ?_
  refine lv_iload_n hx hb dX7_spell_14 rfl (lv_at hl 0 rfl) ?_
  refine lv_aload_n hx hb dX7_spell_15 rfl (lv_at hl 2 rfl) ?_
  have hFc : ∀ q : Nat, va_A [] H1.size q → A q := fun q h => by
    rcases h with ⟨k9, e9, h9⟩ | h9
    · simp at h9
    · exact hA q (Nat.le_trans hS.1 h9)
  refine va_calli (va_runV (As := []) (rest := [.int 5, .int 224799543]) ⟨hx, hb, hml, hown, hts⟩ (c_J0_length_8abf5 l adK adV z 9 H1.size (by decide)) (cwV 0 hts (gV t_440 t_441 t_442 t_142 t_443) rfl rfl rfl (by decide +kernel) ⟨Nat.le_of_ble_eq_true rfl, Nat.le_of_ble_eq_true rfl⟩) ⟨jBlind, vk_recv (i := 9) hE (by decide) hS, jGo hE0 hAz hS hz⟩ rfl rfl hl.1 rfl (lv_room (Nat.le_of_ble_eq_true rfl)) dX7_spell_16 ⟨Nat.le_of_ble_eq_true rfl, Nat.le_of_ble_eq_true rfl⟩) hS (fun q _ h => hFc q h) hFc (fun r9 u t H1 locs ht hvm hw hB hz1 hk1 hS => ?_)
  obtain rfl : r9 = 2 := hw.trans (by decide)
  refine lv_icmp_ge (tgt := 35) hx hb dX7_spell_19 (by decide) (fun _ => ?_) (fun c => absurd (by decide) c)
  refine lv_iconst (v := 0) hx hb dX7_spell_35 (by decide) ?_
  refine k_iadd (v := 224799543) hx hb (by decide) dX7_spell_36 ?_
  refine lv_istore_n (lv' := [(1, .int 224799543), (2, .int 5), (0, .ref (adK 9))]) hx hb dX7_spell_37 rfl hl (by decide) rfl (fun ls hl => ?_)
  refine lv_iinc (v := 6) (lv' := [(2, .int 6), (1, .int 224799543), (0, .ref (adK 9))]) hx hb dX7_spell_38 hl (k := 1) rfl (by decide) (by decide) rfl (fun ls hl => ?_)
  refine lv_goto (tgt := 4) hx hb dX7_spell_41 (by decide) ?_
  refine lv_iload_n hx hb dX7_spell_4 rfl (lv_at hl 0 rfl) ?_
  refine lv_bipush (v := 6) hx hb dX7_spell_5 (by decide) ?_
  refine lv_icmp_ge (tgt := 44) hx hb dX7_spell_7 (by decide) (fun _ => ?_) (fun c => absurd (by decide) c)
  refine lv_iload_n hx hb dX7_spell_44 rfl (lv_at hl 1 rfl) ?_
  exact W.iret (v := 224799543) hx hb hr (fun t ht hW => ⟨⟨224799543, (), rfl, rfl, trivial⟩, hS.F ht⟩) hS.2.2 dX7_spell_45
set_option maxHeartbeats 4000000 in
set_option maxRecDepth 100000 in
theorem c_X7_spell_10 (l : Launch) (adK adV : Nat → Nat) (z : Nat) (sz : Nat) : Met l yX7_spell (.code yX7_spell cX7_spell 3 (some .int) :: WT) ({ frames := 8, cells := 0, slots := 0, locals := 700 }) (va_Pc [.ref (adK 10)] (jPre adK adV z sz)) (va_Qi (fun (r : Int32) (u : Unit) => r = 294949755) (fun _ _ => True) (va_A [] sz)) 0 0 (va_A [] sz) := by
  refine Met.ofW (cc := cX7_spell) (maxL := 3) (ret := (some .int)) (by decide) rfl ?_
  intro p e s m args below meth c s₁ B hml hv
  obtain ⟨rfl, hsz, hE0, hz⟩ := hv
  have hx := B.exec
  have hb := B.bytes
  have hr := B.returns
  have hts0 := atoms_spec (ws := .code yX7_spell cX7_spell 3 (some .int) :: WT) B.pre
  have hts : ∀ w ∈ WT, w.before _ s = true := fun w h => hts0 w (List.mem_cons_of_mem _ h)
  have hown : s.vm.findClass RX7 = some m.cls := findClass_of_methodNamed B.named
  have hlocks := B.notSynchronized
  subst hsz
  have hAz : ∀ q : Nat, va_A [] s.heap.size q → z ≤ q := fun q h => by
    rcases h with ⟨k9, e9, h9⟩ | h9
    · simp at h9
    · exact Nat.le_trans hz h9
  generalize hAe : va_A [] s.heap.size = A at hAz ⊢
  have hA : ∀ q : Nat, s.heap.size ≤ q → A q := fun q h => by rw [← hAe]; exact Or.inr h
  have hS : va_S A s.heap s.heap [] := va_S.rf
  have hE : vk_S 11 lenS bytS adK adV A s s.heap := hE0.1.narrow hAz
  have hZ : va_Z "java/lang/String" "COMPACT_STRINGS" "Z" (.int 1) A s s.heap := hE0.2.1.narrow hAz
  have hZq : va_Zq "jdk/internal/util/Preconditions" "SIOOBE_FORMATTER" "Ljava/util/function/BiFunction;" A s s.heap := hE0.2.2.1.narrow hAz
  have hl := lv_entry ([.ref (adK 10)]) (n := 3) (Nat.le_of_ble_eq_true rfl)
  rw [lg_entry_eq]
  generalize (lg_sl ([.ref (adK 10)]) ++ List.replicate (3 - (lg_sl ([.ref (adK 10)])).length) Slot.unset).toArray = ls at hl ⊢
  have hl : lv_has ls 3 [(0, .ref (adK 10))] := hl
  refine lv_iconst (v := 0) hx hb dX7_spell_0 (by decide) ?_
  refine lv_istore_n (lv' := [(1, .int 0), (0, .ref (adK 10))]) hx hb dX7_spell_1 rfl hl (by decide) rfl (fun ls hl => ?_)
  refine lv_iconst (v := 0) hx hb dX7_spell_2 (by decide) ?_
  refine lv_istore_n (lv' := [(2, .int 0), (1, .int 0), (0, .ref (adK 10))]) hx hb dX7_spell_3 rfl hl (by decide) rfl (fun ls hl => ?_)
  refine lv_iload_n hx hb dX7_spell_4 rfl (lv_at hl 0 rfl) ?_
  refine lv_bipush (v := 6) hx hb dX7_spell_5 (by decide) ?_
  refine lv_icmp_ge (tgt := 44) hx hb dX7_spell_7 (by decide) (fun c => absurd c (by decide)) (fun _ => ?_)
  refine lv_iload_n hx hb dX7_spell_10 rfl (lv_at hl 1 rfl) ?_
  refine lv_bipush (v := 27) hx hb dX7_spell_11 (by decide) ?_
  refine k_imul (v := 0) hx hb (by decide) dX7_spell_13 ?_
  refine lv_iload_n hx hb dX7_spell_14 rfl (lv_at hl 0 rfl) ?_
  refine lv_aload_n hx hb dX7_spell_15 rfl (lv_at hl 2 rfl) ?_
  have hFc : ∀ q : Nat, va_A [] s.heap.size q → A q := fun q h => by
    rcases h with ⟨k9, e9, h9⟩ | h9
    · simp at h9
    · exact hA q (Nat.le_trans hS.1 h9)
  refine va_calli (va_runV (As := []) (rest := [.int 0, .int 0]) ⟨hx, hb, hml, hown, hts⟩ (c_J0_length_8abf5 l adK adV z 10 s.heap.size (by decide)) (cwV 0 hts (gV t_440 t_441 t_442 t_142 t_443) rfl rfl rfl (by decide +kernel) ⟨Nat.le_of_ble_eq_true rfl, Nat.le_of_ble_eq_true rfl⟩) ⟨jBlind, vk_recv (i := 10) hE (by decide) hS, jGo hE0 hAz hS hz⟩ rfl rfl hl.1 rfl (lv_room (Nat.le_of_ble_eq_true rfl)) dX7_spell_16 ⟨Nat.le_of_ble_eq_true rfl, Nat.le_of_ble_eq_true rfl⟩) hS (fun q _ h => hFc q h) hFc (fun r9 u t H1 locs ht hvm hw hB hz1 hk1 hS => ?_)
  obtain rfl : r9 = 2 := hw.trans (by decide)
  refine lv_icmp_ge (tgt := 35) hx hb dX7_spell_19 (by decide) (fun c => absurd c (by decide)) (fun _ => ?_)
  refine lv_aload_n hx hb dX7_spell_22 rfl (lv_at hl 2 rfl) ?_
  refine lv_iload_n hx hb dX7_spell_23 rfl (lv_at hl 0 rfl) ?_
  have hFc : ∀ q : Nat, va_A [] H1.size q → A q := fun q h => by
    rcases h with ⟨k9, e9, h9⟩ | h9
    · simp at h9
    · exact hA q (Nat.le_trans hS.1 h9)
  refine va_calli (va_runV (As := [.int (nI 0)]) (rest := [.int 0]) ⟨hx, hb, hml, hown, hts⟩ (c_J0_charAt_5068e l adK adV z 10 0 H1.size (by decide) (by decide)) (cwV 1 hts (gV t_450 t_451 t_452 t_142 t_453) rfl rfl rfl (by decide +kernel) ⟨Nat.le_of_ble_eq_true rfl, Nat.le_of_ble_eq_true rfl⟩) ⟨jBlind, vk_recv (i := 10) hE (by decide) hS, jGo hE0 hAz hS hz⟩ rfl rfl hl.1 rfl (lv_room (Nat.le_of_ble_eq_true rfl)) dX7_spell_24 ⟨Nat.le_of_ble_eq_true rfl, Nat.le_of_ble_eq_true rfl⟩) hS (fun q _ h => hFc q h) hFc (fun r9 u t H1 locs ht hvm hw hB hz1 hk1 hS => ?_)
  obtain rfl : r9 = 116 := hw.trans (by decide)
  refine lv_bipush (v := 97) hx hb dX7_spell_27 (by decide) ?_
  refine k_isub (v := 19) hx hb (by decide) dX7_spell_29 ?_
  refine lv_iconst (v := 1) hx hb dX7_spell_30 (by decide) ?_
  refine k_iadd (v := 20) hx hb (by decide) dX7_spell_31 ?_
  refine lv_goto (tgt := 36) hx hb dX7_spell_32 (by decide) ?_
  refine k_iadd (v := 20) hx hb (by decide) dX7_spell_36 ?_
  refine lv_istore_n (lv' := [(1, .int 20), (2, .int 0), (0, .ref (adK 10))]) hx hb dX7_spell_37 rfl hl (by decide) rfl (fun ls hl => ?_)
  refine lv_iinc (v := 1) (lv' := [(2, .int 1), (1, .int 20), (0, .ref (adK 10))]) hx hb dX7_spell_38 hl (k := 1) rfl (by decide) (by decide) rfl (fun ls hl => ?_)
  refine lv_goto (tgt := 4) hx hb dX7_spell_41 (by decide) ?_
  refine lv_iload_n hx hb dX7_spell_4 rfl (lv_at hl 0 rfl) ?_
  refine lv_bipush (v := 6) hx hb dX7_spell_5 (by decide) ?_
  refine lv_icmp_ge (tgt := 44) hx hb dX7_spell_7 (by decide) (fun c => absurd c (by decide)) (fun _ => ?_)
  refine lv_iload_n hx hb dX7_spell_10 rfl (lv_at hl 1 rfl) ?_
  refine lv_bipush (v := 27) hx hb dX7_spell_11 (by decide) ?_
  refine k_imul (v := 540) hx hb (by decide) dX7_spell_13 ?_
  refine lv_iload_n hx hb dX7_spell_14 rfl (lv_at hl 0 rfl) ?_
  refine lv_aload_n hx hb dX7_spell_15 rfl (lv_at hl 2 rfl) ?_
  have hFc : ∀ q : Nat, va_A [] H1.size q → A q := fun q h => by
    rcases h with ⟨k9, e9, h9⟩ | h9
    · simp at h9
    · exact hA q (Nat.le_trans hS.1 h9)
  refine va_calli (va_runV (As := []) (rest := [.int 1, .int 540]) ⟨hx, hb, hml, hown, hts⟩ (c_J0_length_8abf5 l adK adV z 10 H1.size (by decide)) (cwV 0 hts (gV t_440 t_441 t_442 t_142 t_443) rfl rfl rfl (by decide +kernel) ⟨Nat.le_of_ble_eq_true rfl, Nat.le_of_ble_eq_true rfl⟩) ⟨jBlind, vk_recv (i := 10) hE (by decide) hS, jGo hE0 hAz hS hz⟩ rfl rfl hl.1 rfl (lv_room (Nat.le_of_ble_eq_true rfl)) dX7_spell_16 ⟨Nat.le_of_ble_eq_true rfl, Nat.le_of_ble_eq_true rfl⟩) hS (fun q _ h => hFc q h) hFc (fun r9 u t H1 locs ht hvm hw hB hz1 hk1 hS => ?_)
  obtain rfl : r9 = 2 := hw.trans (by decide)
  refine lv_icmp_ge (tgt := 35) hx hb dX7_spell_19 (by decide) (fun c => absurd c (by decide)) (fun _ => ?_)
  refine lv_aload_n hx hb dX7_spell_22 rfl (lv_at hl 2 rfl) ?_
  refine lv_iload_n hx hb dX7_spell_23 rfl (lv_at hl 0 rfl) ?_
  have hFc : ∀ q : Nat, va_A [] H1.size q → A q := fun q h => by
    rcases h with ⟨k9, e9, h9⟩ | h9
    · simp at h9
    · exact hA q (Nat.le_trans hS.1 h9)
  refine va_calli (va_runV (As := [.int (nI 1)]) (rest := [.int 540]) ⟨hx, hb, hml, hown, hts⟩ (c_J0_charAt_5068e l adK adV z 10 1 H1.size (by decide) (by decide)) (cwV 1 hts (gV t_450 t_451 t_452 t_142 t_453) rfl rfl rfl (by decide +kernel) ⟨Nat.le_of_ble_eq_true rfl, Nat.le_of_ble_eq_true rfl⟩) ⟨jBlind, vk_recv (i := 10) hE (by decide) hS, jGo hE0 hAz hS hz⟩ rfl rfl hl.1 rfl (lv_room (Nat.le_of_ble_eq_true rfl)) dX7_spell_24 ⟨Nat.le_of_ble_eq_true rfl, Nat.le_of_ble_eq_true rfl⟩) hS (fun q _ h => hFc q h) hFc (fun r9 u t H1 locs ht hvm hw hB hz1 hk1 hS => ?_)
  obtain rfl : r9 = 111 := hw.trans (by decide)
  refine lv_bipush (v := 97) hx hb dX7_spell_27 (by decide) ?_
  refine k_isub (v := 14) hx hb (by decide) dX7_spell_29 ?_
  refine lv_iconst (v := 1) hx hb dX7_spell_30 (by decide) ?_
  refine k_iadd (v := 15) hx hb (by decide) dX7_spell_31 ?_
  refine lv_goto (tgt := 36) hx hb dX7_spell_32 (by decide) ?_
  refine k_iadd (v := 555) hx hb (by decide) dX7_spell_36 ?_
  refine lv_istore_n (lv' := [(1, .int 555), (2, .int 1), (0, .ref (adK 10))]) hx hb dX7_spell_37 rfl hl (by decide) rfl (fun ls hl => ?_)
  refine lv_iinc (v := 2) (lv' := [(2, .int 2), (1, .int 555), (0, .ref (adK 10))]) hx hb dX7_spell_38 hl (k := 1) rfl (by decide) (by decide) rfl (fun ls hl => ?_)
  refine lv_goto (tgt := 4) hx hb dX7_spell_41 (by decide) ?_
  refine lv_iload_n hx hb dX7_spell_4 rfl (lv_at hl 0 rfl) ?_
  refine lv_bipush (v := 6) hx hb dX7_spell_5 (by decide) ?_
  refine lv_icmp_ge (tgt := 44) hx hb dX7_spell_7 (by decide) (fun c => absurd c (by decide)) (fun _ => ?_)
  refine lv_iload_n hx hb dX7_spell_10 rfl (lv_at hl 1 rfl) ?_
  refine lv_bipush (v := 27) hx hb dX7_spell_11 (by decide) ?_
  refine k_imul (v := 14985) hx hb (by decide) dX7_spell_13 ?_
  refine lv_iload_n hx hb dX7_spell_14 rfl (lv_at hl 0 rfl) ?_
  refine lv_aload_n hx hb dX7_spell_15 rfl (lv_at hl 2 rfl) ?_
  have hFc : ∀ q : Nat, va_A [] H1.size q → A q := fun q h => by
    rcases h with ⟨k9, e9, h9⟩ | h9
    · simp at h9
    · exact hA q (Nat.le_trans hS.1 h9)
  refine va_calli (va_runV (As := []) (rest := [.int 2, .int 14985]) ⟨hx, hb, hml, hown, hts⟩ (c_J0_length_8abf5 l adK adV z 10 H1.size (by decide)) (cwV 0 hts (gV t_440 t_441 t_442 t_142 t_443) rfl rfl rfl (by decide +kernel) ⟨Nat.le_of_ble_eq_true rfl, Nat.le_of_ble_eq_true rfl⟩) ⟨jBlind, vk_recv (i := 10) hE (by decide) hS, jGo hE0 hAz hS hz⟩ rfl rfl hl.1 rfl (lv_room (Nat.le_of_ble_eq_true rfl)) dX7_spell_16 ⟨Nat.le_of_ble_eq_true rfl, Nat.le_of_ble_eq_true rfl⟩) hS (fun q _ h => hFc q h) hFc (fun r9 u t H1 locs ht hvm hw hB hz1 hk1 hS => ?_)
  obtain rfl : r9 = 2 := hw.trans (by decide)
  refine lv_icmp_ge (tgt := 35) hx hb dX7_spell_19 (by decide) (fun _ => ?_) (fun c => absurd (by decide) c)
  refine lv_iconst (v := 0) hx hb dX7_spell_35 (by decide) ?_
  refine k_iadd (v := 14985) hx hb (by decide) dX7_spell_36 ?_
  refine lv_istore_n (lv' := [(1, .int 14985), (2, .int 2), (0, .ref (adK 10))]) hx hb dX7_spell_37 rfl hl (by decide) rfl (fun ls hl => ?_)
  refine lv_iinc (v := 3) (lv' := [(2, .int 3), (1, .int 14985), (0, .ref (adK 10))]) hx hb dX7_spell_38 hl (k := 1) rfl (by decide) (by decide) rfl (fun ls hl => ?_)
  refine lv_goto (tgt := 4) hx hb dX7_spell_41 (by decide) ?_
  refine lv_iload_n hx hb dX7_spell_4 rfl (lv_at hl 0 rfl) ?_
  refine lv_bipush (v := 6) hx hb dX7_spell_5 (by decide) ?_
  refine lv_icmp_ge (tgt := 44) hx hb dX7_spell_7 (by decide) (fun c => absurd c (by decide)) (fun _ => ?_)
  refine lv_iload_n hx hb dX7_spell_10 rfl (lv_at hl 1 rfl) ?_
  refine lv_bipush (v := 27) hx hb dX7_spell_11 (by decide) ?_
  refine k_imul (v := 404595) hx hb (by decide) dX7_spell_13 ?_
  refine lv_iload_n hx hb dX7_spell_14 rfl (lv_at hl 0 rfl) ?_
  refine lv_aload_n hx hb dX7_spell_15 rfl (lv_at hl 2 rfl) ?_
  have hFc : ∀ q : Nat, va_A [] H1.size q → A q := fun q h => by
    rcases h with ⟨k9, e9, h9⟩ | h9
    · simp at h9
    · exact hA q (Nat.le_trans hS.1 h9)
  refine va_calli (va_runV (As := []) (rest := [.int 3, .int 404595]) ⟨hx, hb, hml, hown, hts⟩ (c_J0_length_8abf5 l adK adV z 10 H1.size (by decide)) (cwV 0 hts (gV t_440 t_441 t_442 t_142 t_443) rfl rfl rfl (by decide +kernel) ⟨Nat.le_of_ble_eq_true rfl, Nat.le_of_ble_eq_true rfl⟩) ⟨jBlind, vk_recv (i := 10) hE (by decide) hS, jGo hE0 hAz hS hz⟩ rfl rfl hl.1 rfl (lv_room (Nat.le_of_ble_eq_true rfl)) dX7_spell_16 ⟨Nat.le_of_ble_eq_true rfl, Nat.le_of_ble_eq_true rfl⟩) hS (fun q _ h => hFc q h) hFc (fun r9 u t H1 locs ht hvm hw hB hz1 hk1 hS => ?_)
  obtain rfl : r9 = 2 := hw.trans (by decide)
  refine lv_icmp_ge (tgt := 35) hx hb dX7_spell_19 (by decide) (fun _ => ?_) (fun c => absurd (by decide) c)
  refine lv_iconst (v := 0) hx hb dX7_spell_35 (by decide) ?_
  refine k_iadd (v := 404595) hx hb (by decide) dX7_spell_36 ?_
  refine lv_istore_n (lv' := [(1, .int 404595), (2, .int 3), (0, .ref (adK 10))]) hx hb dX7_spell_37 rfl hl (by decide) rfl (fun ls hl => ?_)
  refine lv_iinc (v := 4) (lv' := [(2, .int 4), (1, .int 404595), (0, .ref (adK 10))]) hx hb dX7_spell_38 hl (k := 1) rfl (by decide) (by decide) rfl (fun ls hl => ?_)
  refine lv_goto (tgt := 4) hx hb dX7_spell_41 (by decide) ?_
  refine lv_iload_n hx hb dX7_spell_4 rfl (lv_at hl 0 rfl) ?_
  refine lv_bipush (v := 6) hx hb dX7_spell_5 (by decide) ?_
  refine lv_icmp_ge (tgt := 44) hx hb dX7_spell_7 (by decide) (fun c => absurd c (by decide)) (fun _ => ?_)
  refine lv_iload_n hx hb dX7_spell_10 rfl (lv_at hl 1 rfl) ?_
  refine lv_bipush (v := 27) hx hb dX7_spell_11 (by decide) ?_
  refine k_imul (v := 10924065) hx hb (by decide) dX7_spell_13 ?_
  refine lv_iload_n hx hb dX7_spell_14 rfl (lv_at hl 0 rfl) ?_
  refine lv_aload_n hx hb dX7_spell_15 rfl (lv_at hl 2 rfl) ?_
  have hFc : ∀ q : Nat, va_A [] H1.size q → A q := fun q h => by
    rcases h with ⟨k9, e9, h9⟩ | h9
    · simp at h9
    · exact hA q (Nat.le_trans hS.1 h9)
  refine va_calli (va_runV (As := []) (rest := [.int 4, .int 10924065]) ⟨hx, hb, hml, hown, hts⟩ (c_J0_length_8abf5 l adK adV z 10 H1.size (by decide)) (cwV 0 hts (gV t_440 t_441 t_442 t_142 t_443) rfl rfl rfl (by decide +kernel) ⟨Nat.le_of_ble_eq_true rfl, Nat.le_of_ble_eq_true rfl⟩) ⟨jBlind, vk_recv (i := 10) hE (by decide) hS, jGo hE0 hAz hS hz⟩ rfl rfl hl.1 rfl (lv_room (Nat.le_of_ble_eq_true rfl)) dX7_spell_16 ⟨Nat.le_of_ble_eq_true rfl, Nat.le_of_ble_eq_true rfl⟩) hS (fun q _ h => hFc q h) hFc (fun r9 u t H1 locs ht hvm hw hB hz1 hk1 hS => ?_)
  obtain rfl : r9 = 2 := hw.trans (by decide)
  refine lv_icmp_ge (tgt := 35) hx hb dX7_spell_19 (by decide) (fun _ => ?_) (fun c => absurd (by decide) c)
  refine lv_iconst (v := 0) hx hb dX7_spell_35 (by decide) ?_
  refine k_iadd (v := 10924065) hx hb (by decide) dX7_spell_36 ?_
  refine lv_istore_n (lv' := [(1, .int 10924065), (2, .int 4), (0, .ref (adK 10))]) hx hb dX7_spell_37 rfl hl (by decide) rfl (fun ls hl => ?_)
  refine lv_iinc (v := 5) (lv' := [(2, .int 5), (1, .int 10924065), (0, .ref (adK 10))]) hx hb dX7_spell_38 hl (k := 1) rfl (by decide) (by decide) rfl (fun ls hl => ?_)
  refine lv_goto (tgt := 4) hx hb dX7_spell_41 (by decide) ?_
  refine lv_iload_n hx hb dX7_spell_4 rfl (lv_at hl 0 rfl) ?_
  refine lv_bipush (v := 6) hx hb dX7_spell_5 (by decide) ?_
  refine lv_icmp_ge (tgt := 44) hx hb dX7_spell_7 (by decide) (fun c => absurd c (by decide)) (fun _ => ?_)
  refine lv_iload_n hx hb dX7_spell_10 rfl (lv_at hl 1 rfl) ?_
  refine lv_bipush (v := 27) hx hb dX7_spell_11 (by decide) ?_
  refine k_imul (v := 294949755) hx hb (by decide) dX7_spell_13 ?_
  refine lv_iload_n hx hb dX7_spell_14 rfl (lv_at hl 0 rfl) ?_
  refine lv_aload_n hx hb dX7_spell_15 rfl (lv_at hl 2 rfl) ?_
  have hFc : ∀ q : Nat, va_A [] H1.size q → A q := fun q h => by
    rcases h with ⟨k9, e9, h9⟩ | h9
    · simp at h9
    · exact hA q (Nat.le_trans hS.1 h9)
  refine va_calli (va_runV (As := []) (rest := [.int 5, .int 294949755]) ⟨hx, hb, hml, hown, hts⟩ (c_J0_length_8abf5 l adK adV z 10 H1.size (by decide)) (cwV 0 hts (gV t_440 t_441 t_442 t_142 t_443) rfl rfl rfl (by decide +kernel) ⟨Nat.le_of_ble_eq_true rfl, Nat.le_of_ble_eq_true rfl⟩) ⟨jBlind, vk_recv (i := 10) hE (by decide) hS, jGo hE0 hAz hS hz⟩ rfl rfl hl.1 rfl (lv_room (Nat.le_of_ble_eq_true rfl)) dX7_spell_16 ⟨Nat.le_of_ble_eq_true rfl, Nat.le_of_ble_eq_true rfl⟩) hS (fun q _ h => hFc q h) hFc (fun r9 u t H1 locs ht hvm hw hB hz1 hk1 hS => ?_)
  obtain rfl : r9 = 2 := hw.trans (by decide)
  refine lv_icmp_ge (tgt := 35) hx hb dX7_spell_19 (by decide) (fun _ => ?_) (fun c => absurd (by decide) c)
  refine lv_iconst (v := 0) hx hb dX7_spell_35 (by decide) ?_
  refine k_iadd (v := 294949755) hx hb (by decide) dX7_spell_36 ?_
  refine lv_istore_n (lv' := [(1, .int 294949755), (2, .int 5), (0, .ref (adK 10))]) hx hb dX7_spell_37 rfl hl (by decide) rfl (fun ls hl => ?_)
  refine lv_iinc (v := 6) (lv' := [(2, .int 6), (1, .int 294949755), (0, .ref (adK 10))]) hx hb dX7_spell_38 hl (k := 1) rfl (by decide) (by decide) rfl (fun ls hl => ?_)
  refine lv_goto (tgt := 4) hx hb dX7_spell_41 (by decide) ?_
  refine lv_iload_n hx hb dX7_spell_4 rfl (lv_at hl 0 rfl) ?_
  refine lv_bipush (v := 6) hx hb dX7_spell_5 (by decide) ?_
  refine lv_icmp_ge (tgt := 44) hx hb dX7_spell_7 (by decide) (fun _ => ?_) (fun c => absurd (by decide) c)
  refine lv_iload_n hx hb dX7_spell_44 rfl (lv_at hl 1 rfl) ?_
  exact W.iret (v := 294949755) hx hb hr (fun t ht hW => ⟨⟨294949755, (), rfl, rfl, trivial⟩, hS.F ht⟩) hS.2.2 dX7_spell_45
end
section
/-! Constructors of the class: Scanner, Reader, and the class itself. -/
def okF (f : Nat → Int32) : Prop := ∀ k : Nat, k < 11 → f k = ([162899424, 51293898, 187463295, 24170724, 334385010, 269680428, 39942065, 212300838, 22281156, 224799543, 294949755] : List Int32).getD k 0
abbrev nPreS (dC : Nat → ClassId) (dI : Nat → Nat → Nat) (K : Nat → ClassId) (adK adV : Nat → Nat) (z sz : Nat) (W : va_W) : State → Prop := fun U => nPre dC dI K sz W U ∧ vS adK adV z U
theorem nBlindS {dC : Nat → ClassId} {dI : Nat → Nat → Nat} {K : Nat → ClassId} {adK adV : Nat → Nat} {z sz : Nat} {W : va_W} {av : List Value} : FrameBlind (va_Pc av (nPreS dC dI K adK adV z sz W)) := fun a U g mk q => by
  obtain ⟨q0, q1, q2⟩ := q
  exact ⟨q0, (nBlind (av := av) a U g mk ⟨q0, q1⟩).2, vS.same rfl rfl q2⟩
theorem nGoS {dC : Nat → ClassId} {dI : Nat → Nat → Nat} {K : Nat → ClassId} {adK adV : Nat → Nat} {z : Nat} {W : va_W} {av : List Value} {s : State} {H : Heap} {locs : List Loc} {A A1 : Nat → Prop} (hP : va_P (dC, dI) vwCl W H) (hK : va_K (dC, dI) vwCl (ty5 K) s) (hD : va_D A1 W) (hN : gN s) (hX : nX s) (hE : vS adK adV z s) (hAz : ∀ q, A q → z ≤ q) (hS : va_S A s.heap H locs) : ∀ U : State, U.heap = H → s.WarmedH U.vm → va_Pc av (nPreS dC dI K adK adV z H.size W) av.toArray U := fun U hU hW => ⟨rfl, (nGo (av := av) hP hK hD hN hX U hU hW).2, hE.go hAz hS U hU hW⟩
set_option maxHeartbeats 8000000 in
set_option maxRecDepth 100000 in
theorem n_X7_init (l : Launch) (dC : Nat → ClassId) (dI : Nat → Nat → Nat) (K : Nat → ClassId) (h0 : Nat) (adK adV : Nat → Nat) (z : Nat) (sz : Nat) (hAz : ∀ q : Nat, va_A [(h0, .inr (7, [.null, .null, .int 0, .int 0, .int 0, .int 0, .int 0, .int 0, .int 0]))] sz q → z ≤ q) : Met l yX7_init (.code yX7_init cX7_init 1 none :: WT) ({ frames := 9, cells := 2, slots := 11, locals := 722 }) (va_Pc [.ref h0] (nPreS dC dI K adK adV z sz [(h0, .inr (7, [.null, .null, .int 0, .int 0, .int 0, .int 0, .int 0, .int 0, .int 0]))])) (va_Qv (fun _ : Unit => True) (fun (_ : Unit) (t : State) => ∃ (r : Nat → Nat), ∃ (ff : Nat → Int32), okF ff ∧ va_P (dC, dI) vwCl [(h0, .inr (7, [.ref (r 0), .ref (r 1), .int 0, .int 0, .int 0, .int 0, .int 0, .int 0, .int 0])), ((r 0), .inl ((K 0), 11, .inl ff)), ((r 1), .inl ((K 0), 0, .inl (fun _ => 0)))] t.heap ∧ va_D (va_A [(h0, .inr (7, [.null, .null, .int 0, .int 0, .int 0, .int 0, .int 0, .int 0, .int 0]))] sz) [(h0, .inr (7, [.ref (r 0), .ref (r 1), .int 0, .int 0, .int 0, .int 0, .int 0, .int 0, .int 0])), ((r 0), .inl ((K 0), 11, .inl ff)), ((r 1), .inl ((K 0), 0, .inl (fun _ => 0)))]) (va_A [(h0, .inr (7, [.null, .null, .int 0, .int 0, .int 0, .int 0, .int 0, .int 0, .int 0]))] sz)) 2 11 (va_A [(h0, .inr (7, [.null, .null, .int 0, .int 0, .int 0, .int 0, .int 0, .int 0, .int 0]))] sz) := by
  refine Met.ofW (cc := cX7_init) (maxL := 1) (ret := none) (by decide) rfl ?_
  intro p e s m args below meth c s₁ B hml hv
  obtain ⟨rfl, ⟨hsz, hP, hK, hD0, hN, hX⟩, hE0⟩ := hv
  have hx := B.exec
  have hb := B.bytes
  have hr := B.returns
  have hts0 := atoms_spec (ws := .code yX7_init cX7_init 1 none :: WT) B.pre
  have hts : ∀ w ∈ WT, w.before _ s = true := fun w h => hts0 w (List.mem_cons_of_mem _ h)
  have hown : s.vm.findClass RX7 = some m.cls := findClass_of_methodNamed B.named
  have hlocks := B.notSynchronized
  have hin : meth.name = "<init>" := (name_of_methodNamed B.named B.method).1
  subst hsz
  have hD := hD0.self (sz := s.heap.size)
  have hz : z ≤ s.heap.size := hAz _ (Or.inr (Nat.le_refl _))
  generalize hAe : va_A [(h0, .inr (7, [.null, .null, .int 0, .int 0, .int 0, .int 0, .int 0, .int 0, .int 0]))] s.heap.size = A at hD hAz ⊢
  have hA : ∀ q : Nat, s.heap.size ≤ q → A q := fun q h => by rw [← hAe]; exact Or.inr h
  have hS : va_S A s.heap s.heap [] := va_S.rf
  have hP : va_P (dC, dI) vwCl [(h0, .inr (7, [.null, .null, .int 0, .int 0, .int 0, .int 0, .int 0, .int 0, .int 0]))] s.heap := hP
  have hD : va_D A [(h0, .inr (7, [.null, .null, .int 0, .int 0, .int 0, .int 0, .int 0, .int 0, .int 0]))] := hD
  have hl := lv_entry ([.ref h0]) (n := 1) (Nat.le_of_ble_eq_true rfl)
  rw [lg_entry_eq]
  generalize (lg_sl ([.ref h0]) ++ List.replicate (1 - (lg_sl ([.ref h0])).length) Slot.unset).toArray = ls at hl ⊢
  have hl : lv_has ls 1 [(0, .ref h0)] := hl
  refine lv_aload_n hx hb dX7_init_0 rfl (lv_at hl 0 rfl) ?_
  refine W.objInit hx hb hown (hts _ t_435) (hts _ t_155) (hts _ t_156) rfl (by rw [hml]; exact hl.1) rfl dX7_init_1 (Nat.le_of_ble_eq_true rfl) (Nat.le_of_ble_eq_true rfl) ?_
  refine W.eq (g2 := F0 m 4 ls []) rfl ?_
  refine lv_aload_n hx hb dX7_init_4 rfl (lv_at hl 0 rfl) ?_
  refine lv_bipush (v := 11) hx hb dX7_init_5 (by decide) ?_
  refine n_newI (N' := 11) (k2 := 1) (n2 := 11) hx hb (hts _ t_177) hK hP hD hS hA (by decide) (by decide) (Nat.le_of_ble_eq_true rfl) (Nat.le_of_ble_eq_true rfl) (Nat.le_of_ble_eq_true rfl) rfl rfl dX7_init_7 (fun q_1 H hP hD hS => ?_)
  have hP : va_P (dC, dI) vwCl [(h0, .inr (7, [.null, .null, .int 0, .int 0, .int 0, .int 0, .int 0, .int 0, .int 0])), (q_1, .inl ((K 0), 11, .inl (fun _ => 0)))] H := hP
  have hD : va_D A [(h0, .inr (7, [.null, .null, .int 0, .int 0, .int 0, .int 0, .int 0, .int 0, .int 0])), (q_1, .inl ((K 0), 11, .inl (fun _ => 0)))] := hD
  refine lv_dup hx hb dX7_init_9 rfl ?_
  refine lv_iconst (v := 0) hx hb dX7_init_10 (by decide) ?_
  refine va_ldcS hx hb hown (show vk_R RX7 9 "kind" (adK 0) s from hE0.2.2.2 0 (by decide)) dX7_init_11 ?_
  have hFc : ∀ q : Nat, va_A [] H.size q → A q := fun q h => by
    rcases h with ⟨k9, e9, h9⟩ | h9
    · simp at h9
    · exact hA q (Nat.le_trans hS.1 h9)
  refine va_calli (va_runS (As := [.ref (adK 0)]) (rest := [.int 0, .ref q_1, .ref q_1, .ref h0]) ⟨hx, hb, hml, hown, hts⟩ (c_X7_spell_0 l adK adV z H.size) (cwS 1 hts (gS t_437 t_438 t_141 t_439) rfl rfl rfl (by decide +kernel) ⟨Nat.le_of_ble_eq_true rfl, Nat.le_of_ble_eq_true rfl⟩) ⟨jBlind, jGo hE0 hAz hS hz⟩ rfl rfl hl.1 rfl (lv_room (Nat.le_of_ble_eq_true rfl)) dX7_init_13 ⟨Nat.le_of_ble_eq_true rfl, Nat.le_of_ble_eq_true rfl⟩) hS (fun q _ h => hFc q h) hFc (fun r9 u t H1 locs ht hvm hw hB hz1 hk1 hS => ?_)
  obtain rfl : r9 = 162899424 := hw
  obtain ⟨hP, hD⟩ := va_join (wr := [(h0, .inr (7, [.null, .null, .int 0, .int 0, .int 0, .int 0, .int 0, .int 0, .int 0])), (q_1, .inl ((K 0), 11, .inl (fun _ => 0)))]) (w1 := []) hP hD [] [0, 1] rfl rfl (by decide) (by decide) hk1 hFc va_P0 va_D0
  generalize H1 = H at hP hS ⊢
  have hP : va_P (dC, dI) vwCl [(h0, .inr (7, [.null, .null, .int 0, .int 0, .int 0, .int 0, .int 0, .int 0, .int 0])), (q_1, .inl ((K 0), 11, .inl (fun _ => 0)))] H := hP
  have hD : va_D A [(h0, .inr (7, [.null, .null, .int 0, .int 0, .int 0, .int 0, .int 0, .int 0, .int 0])), (q_1, .inl ((K 0), 11, .inl (fun _ => 0)))] := hD
  refine va_iast hx hb hK hP hD hS 1 0 rfl rfl (vpd (by decide)) dX7_init_16 (fun H locs hP hD hS => ?_)
  obtain ⟨g_2, e_g_2⟩ : ∃ y : Nat → Int32, y = upd (fun _ => 0) (0 : Int32).toNatClampNeg 162899424 := ⟨_, rfl⟩
  have hP : va_P (dC, dI) vwCl [(h0, .inr (7, [.null, .null, .int 0, .int 0, .int 0, .int 0, .int 0, .int 0, .int 0])), (q_1, .inl ((K 0), 11, .inl g_2))] H := by rw [e_g_2]; exact hP
  have hD : va_D A [(h0, .inr (7, [.null, .null, .int 0, .int 0, .int 0, .int 0, .int 0, .int 0, .int 0])), (q_1, .inl ((K 0), 11, .inl g_2))] := by rw [e_g_2]; exact hD
  refine lv_dup hx hb dX7_init_17 rfl ?_
  refine lv_iconst (v := 1) hx hb dX7_init_18 (by decide) ?_
  refine va_ldcS hx hb hown (show vk_R RX7 17 "con" (adK 1) s from hE0.2.2.2 1 (by decide)) dX7_init_19 ?_
  have hFc : ∀ q : Nat, va_A [] H.size q → A q := fun q h => by
    rcases h with ⟨k9, e9, h9⟩ | h9
    · simp at h9
    · exact hA q (Nat.le_trans hS.1 h9)
  refine va_calli (va_runS (As := [.ref (adK 1)]) (rest := [.int 1, .ref q_1, .ref q_1, .ref h0]) ⟨hx, hb, hml, hown, hts⟩ (c_X7_spell_1 l adK adV z H.size) (cwS 1 hts (gS t_437 t_438 t_141 t_439) rfl rfl rfl (by decide +kernel) ⟨Nat.le_of_ble_eq_true rfl, Nat.le_of_ble_eq_true rfl⟩) ⟨jBlind, jGo hE0 hAz hS hz⟩ rfl rfl hl.1 rfl (lv_room (Nat.le_of_ble_eq_true rfl)) dX7_init_21 ⟨Nat.le_of_ble_eq_true rfl, Nat.le_of_ble_eq_true rfl⟩) hS (fun q _ h => hFc q h) hFc (fun r9 u t H1 locs ht hvm hw hB hz1 hk1 hS => ?_)
  obtain rfl : r9 = 51293898 := hw
  obtain ⟨hP, hD⟩ := va_join (wr := [(h0, .inr (7, [.null, .null, .int 0, .int 0, .int 0, .int 0, .int 0, .int 0, .int 0])), (q_1, .inl ((K 0), 11, .inl g_2))]) (w1 := []) hP hD [] [0, 1] rfl rfl (by decide) (by decide) hk1 hFc va_P0 va_D0
  generalize H1 = H at hP hS ⊢
  have hP : va_P (dC, dI) vwCl [(h0, .inr (7, [.null, .null, .int 0, .int 0, .int 0, .int 0, .int 0, .int 0, .int 0])), (q_1, .inl ((K 0), 11, .inl g_2))] H := hP
  have hD : va_D A [(h0, .inr (7, [.null, .null, .int 0, .int 0, .int 0, .int 0, .int 0, .int 0, .int 0])), (q_1, .inl ((K 0), 11, .inl g_2))] := hD
  refine va_iast hx hb hK hP hD hS 1 0 rfl rfl (vpd (by decide)) dX7_init_24 (fun H locs hP hD hS => ?_)
  obtain ⟨g_3, e_g_3⟩ : ∃ y : Nat → Int32, y = upd g_2 (1 : Int32).toNatClampNeg 51293898 := ⟨_, rfl⟩
  have hP : va_P (dC, dI) vwCl [(h0, .inr (7, [.null, .null, .int 0, .int 0, .int 0, .int 0, .int 0, .int 0, .int 0])), (q_1, .inl ((K 0), 11, .inl g_3))] H := by rw [e_g_3]; exact hP
  have hD : va_D A [(h0, .inr (7, [.null, .null, .int 0, .int 0, .int 0, .int 0, .int 0, .int 0, .int 0])), (q_1, .inl ((K 0), 11, .inl g_3))] := by rw [e_g_3]; exact hD
  refine lv_dup hx hb dX7_init_25 rfl ?_
  refine lv_iconst (v := 2) hx hb dX7_init_26 (by decide) ?_
  refine va_ldcS hx hb hown (show vk_R RX7 19 "match" (adK 2) s from hE0.2.2.2 2 (by decide)) dX7_init_27 ?_
  have hFc : ∀ q : Nat, va_A [] H.size q → A q := fun q h => by
    rcases h with ⟨k9, e9, h9⟩ | h9
    · simp at h9
    · exact hA q (Nat.le_trans hS.1 h9)
  refine va_calli (va_runS (As := [.ref (adK 2)]) (rest := [.int 2, .ref q_1, .ref q_1, .ref h0]) ⟨hx, hb, hml, hown, hts⟩ (c_X7_spell_2 l adK adV z H.size) (cwS 1 hts (gS t_437 t_438 t_141 t_439) rfl rfl rfl (by decide +kernel) ⟨Nat.le_of_ble_eq_true rfl, Nat.le_of_ble_eq_true rfl⟩) ⟨jBlind, jGo hE0 hAz hS hz⟩ rfl rfl hl.1 rfl (lv_room (Nat.le_of_ble_eq_true rfl)) dX7_init_29 ⟨Nat.le_of_ble_eq_true rfl, Nat.le_of_ble_eq_true rfl⟩) hS (fun q _ h => hFc q h) hFc (fun r9 u t H1 locs ht hvm hw hB hz1 hk1 hS => ?_)
  obtain rfl : r9 = 187463295 := hw
  obtain ⟨hP, hD⟩ := va_join (wr := [(h0, .inr (7, [.null, .null, .int 0, .int 0, .int 0, .int 0, .int 0, .int 0, .int 0])), (q_1, .inl ((K 0), 11, .inl g_3))]) (w1 := []) hP hD [] [0, 1] rfl rfl (by decide) (by decide) hk1 hFc va_P0 va_D0
  generalize H1 = H at hP hS ⊢
  have hP : va_P (dC, dI) vwCl [(h0, .inr (7, [.null, .null, .int 0, .int 0, .int 0, .int 0, .int 0, .int 0, .int 0])), (q_1, .inl ((K 0), 11, .inl g_3))] H := hP
  have hD : va_D A [(h0, .inr (7, [.null, .null, .int 0, .int 0, .int 0, .int 0, .int 0, .int 0, .int 0])), (q_1, .inl ((K 0), 11, .inl g_3))] := hD
  refine va_iast hx hb hK hP hD hS 1 0 rfl rfl (vpd (by decide)) dX7_init_32 (fun H locs hP hD hS => ?_)
  obtain ⟨g_4, e_g_4⟩ : ∃ y : Nat → Int32, y = upd g_3 (2 : Int32).toNatClampNeg 187463295 := ⟨_, rfl⟩
  have hP : va_P (dC, dI) vwCl [(h0, .inr (7, [.null, .null, .int 0, .int 0, .int 0, .int 0, .int 0, .int 0, .int 0])), (q_1, .inl ((K 0), 11, .inl g_4))] H := by rw [e_g_4]; exact hP
  have hD : va_D A [(h0, .inr (7, [.null, .null, .int 0, .int 0, .int 0, .int 0, .int 0, .int 0, .int 0])), (q_1, .inl ((K 0), 11, .inl g_4))] := by rw [e_g_4]; exact hD
  refine lv_dup hx hb dX7_init_33 rfl ?_
  refine lv_iconst (v := 3) hx hb dX7_init_34 (by decide) ?_
  refine va_ldcS hx hb hown (show vk_R RX7 21 "arm" (adK 3) s from hE0.2.2.2 3 (by decide)) dX7_init_35 ?_
  have hFc : ∀ q : Nat, va_A [] H.size q → A q := fun q h => by
    rcases h with ⟨k9, e9, h9⟩ | h9
    · simp at h9
    · exact hA q (Nat.le_trans hS.1 h9)
  refine va_calli (va_runS (As := [.ref (adK 3)]) (rest := [.int 3, .ref q_1, .ref q_1, .ref h0]) ⟨hx, hb, hml, hown, hts⟩ (c_X7_spell_3 l adK adV z H.size) (cwS 1 hts (gS t_437 t_438 t_141 t_439) rfl rfl rfl (by decide +kernel) ⟨Nat.le_of_ble_eq_true rfl, Nat.le_of_ble_eq_true rfl⟩) ⟨jBlind, jGo hE0 hAz hS hz⟩ rfl rfl hl.1 rfl (lv_room (Nat.le_of_ble_eq_true rfl)) dX7_init_37 ⟨Nat.le_of_ble_eq_true rfl, Nat.le_of_ble_eq_true rfl⟩) hS (fun q _ h => hFc q h) hFc (fun r9 u t H1 locs ht hvm hw hB hz1 hk1 hS => ?_)
  obtain rfl : r9 = 24170724 := hw
  obtain ⟨hP, hD⟩ := va_join (wr := [(h0, .inr (7, [.null, .null, .int 0, .int 0, .int 0, .int 0, .int 0, .int 0, .int 0])), (q_1, .inl ((K 0), 11, .inl g_4))]) (w1 := []) hP hD [] [0, 1] rfl rfl (by decide) (by decide) hk1 hFc va_P0 va_D0
  generalize H1 = H at hP hS ⊢
  have hP : va_P (dC, dI) vwCl [(h0, .inr (7, [.null, .null, .int 0, .int 0, .int 0, .int 0, .int 0, .int 0, .int 0])), (q_1, .inl ((K 0), 11, .inl g_4))] H := hP
  have hD : va_D A [(h0, .inr (7, [.null, .null, .int 0, .int 0, .int 0, .int 0, .int 0, .int 0, .int 0])), (q_1, .inl ((K 0), 11, .inl g_4))] := hD
  refine va_iast hx hb hK hP hD hS 1 0 rfl rfl (vpd (by decide)) dX7_init_40 (fun H locs hP hD hS => ?_)
  obtain ⟨g_5, e_g_5⟩ : ∃ y : Nat → Int32, y = upd g_4 (3 : Int32).toNatClampNeg 24170724 := ⟨_, rfl⟩
  have hP : va_P (dC, dI) vwCl [(h0, .inr (7, [.null, .null, .int 0, .int 0, .int 0, .int 0, .int 0, .int 0, .int 0])), (q_1, .inl ((K 0), 11, .inl g_5))] H := by rw [e_g_5]; exact hP
  have hD : va_D A [(h0, .inr (7, [.null, .null, .int 0, .int 0, .int 0, .int 0, .int 0, .int 0, .int 0])), (q_1, .inl ((K 0), 11, .inl g_5))] := by rw [e_g_5]; exact hD
  refine lv_dup hx hb dX7_init_41 rfl ?_
  refine lv_iconst (v := 4) hx hb dX7_init_42 (by decide) ?_
  refine va_ldcS hx hb hown (show vk_R RX7 23 "when" (adK 4) s from hE0.2.2.2 4 (by decide)) dX7_init_43 ?_
  have hFc : ∀ q : Nat, va_A [] H.size q → A q := fun q h => by
    rcases h with ⟨k9, e9, h9⟩ | h9
    · simp at h9
    · exact hA q (Nat.le_trans hS.1 h9)
  refine va_calli (va_runS (As := [.ref (adK 4)]) (rest := [.int 4, .ref q_1, .ref q_1, .ref h0]) ⟨hx, hb, hml, hown, hts⟩ (c_X7_spell_4 l adK adV z H.size) (cwS 1 hts (gS t_437 t_438 t_141 t_439) rfl rfl rfl (by decide +kernel) ⟨Nat.le_of_ble_eq_true rfl, Nat.le_of_ble_eq_true rfl⟩) ⟨jBlind, jGo hE0 hAz hS hz⟩ rfl rfl hl.1 rfl (lv_room (Nat.le_of_ble_eq_true rfl)) dX7_init_45 ⟨Nat.le_of_ble_eq_true rfl, Nat.le_of_ble_eq_true rfl⟩) hS (fun q _ h => hFc q h) hFc (fun r9 u t H1 locs ht hvm hw hB hz1 hk1 hS => ?_)
  obtain rfl : r9 = 334385010 := hw
  obtain ⟨hP, hD⟩ := va_join (wr := [(h0, .inr (7, [.null, .null, .int 0, .int 0, .int 0, .int 0, .int 0, .int 0, .int 0])), (q_1, .inl ((K 0), 11, .inl g_5))]) (w1 := []) hP hD [] [0, 1] rfl rfl (by decide) (by decide) hk1 hFc va_P0 va_D0
  generalize H1 = H at hP hS ⊢
  have hP : va_P (dC, dI) vwCl [(h0, .inr (7, [.null, .null, .int 0, .int 0, .int 0, .int 0, .int 0, .int 0, .int 0])), (q_1, .inl ((K 0), 11, .inl g_5))] H := hP
  have hD : va_D A [(h0, .inr (7, [.null, .null, .int 0, .int 0, .int 0, .int 0, .int 0, .int 0, .int 0])), (q_1, .inl ((K 0), 11, .inl g_5))] := hD
  refine va_iast hx hb hK hP hD hS 1 0 rfl rfl (vpd (by decide)) dX7_init_48 (fun H locs hP hD hS => ?_)
  obtain ⟨g_6, e_g_6⟩ : ∃ y : Nat → Int32, y = upd g_5 (4 : Int32).toNatClampNeg 334385010 := ⟨_, rfl⟩
  have hP : va_P (dC, dI) vwCl [(h0, .inr (7, [.null, .null, .int 0, .int 0, .int 0, .int 0, .int 0, .int 0, .int 0])), (q_1, .inl ((K 0), 11, .inl g_6))] H := by rw [e_g_6]; exact hP
  have hD : va_D A [(h0, .inr (7, [.null, .null, .int 0, .int 0, .int 0, .int 0, .int 0, .int 0, .int 0])), (q_1, .inl ((K 0), 11, .inl g_6))] := by rw [e_g_6]; exact hD
  refine lv_dup hx hb dX7_init_49 rfl ?_
  refine lv_iconst (v := 5) hx hb dX7_init_50 (by decide) ?_
  refine va_ldcS hx hb hown (show vk_R RX7 25 "rule" (adK 5) s from hE0.2.2.2 5 (by decide)) dX7_init_51 ?_
  have hFc : ∀ q : Nat, va_A [] H.size q → A q := fun q h => by
    rcases h with ⟨k9, e9, h9⟩ | h9
    · simp at h9
    · exact hA q (Nat.le_trans hS.1 h9)
  refine va_calli (va_runS (As := [.ref (adK 5)]) (rest := [.int 5, .ref q_1, .ref q_1, .ref h0]) ⟨hx, hb, hml, hown, hts⟩ (c_X7_spell_5 l adK adV z H.size) (cwS 1 hts (gS t_437 t_438 t_141 t_439) rfl rfl rfl (by decide +kernel) ⟨Nat.le_of_ble_eq_true rfl, Nat.le_of_ble_eq_true rfl⟩) ⟨jBlind, jGo hE0 hAz hS hz⟩ rfl rfl hl.1 rfl (lv_room (Nat.le_of_ble_eq_true rfl)) dX7_init_53 ⟨Nat.le_of_ble_eq_true rfl, Nat.le_of_ble_eq_true rfl⟩) hS (fun q _ h => hFc q h) hFc (fun r9 u t H1 locs ht hvm hw hB hz1 hk1 hS => ?_)
  obtain rfl : r9 = 269680428 := hw
  obtain ⟨hP, hD⟩ := va_join (wr := [(h0, .inr (7, [.null, .null, .int 0, .int 0, .int 0, .int 0, .int 0, .int 0, .int 0])), (q_1, .inl ((K 0), 11, .inl g_6))]) (w1 := []) hP hD [] [0, 1] rfl rfl (by decide) (by decide) hk1 hFc va_P0 va_D0
  generalize H1 = H at hP hS ⊢
  have hP : va_P (dC, dI) vwCl [(h0, .inr (7, [.null, .null, .int 0, .int 0, .int 0, .int 0, .int 0, .int 0, .int 0])), (q_1, .inl ((K 0), 11, .inl g_6))] H := hP
  have hD : va_D A [(h0, .inr (7, [.null, .null, .int 0, .int 0, .int 0, .int 0, .int 0, .int 0, .int 0])), (q_1, .inl ((K 0), 11, .inl g_6))] := hD
  refine va_iast hx hb hK hP hD hS 1 0 rfl rfl (vpd (by decide)) dX7_init_56 (fun H locs hP hD hS => ?_)
  obtain ⟨g_7, e_g_7⟩ : ∃ y : Nat → Int32, y = upd g_6 (5 : Int32).toNatClampNeg 269680428 := ⟨_, rfl⟩
  have hP : va_P (dC, dI) vwCl [(h0, .inr (7, [.null, .null, .int 0, .int 0, .int 0, .int 0, .int 0, .int 0, .int 0])), (q_1, .inl ((K 0), 11, .inl g_7))] H := by rw [e_g_7]; exact hP
  have hD : va_D A [(h0, .inr (7, [.null, .null, .int 0, .int 0, .int 0, .int 0, .int 0, .int 0, .int 0])), (q_1, .inl ((K 0), 11, .inl g_7))] := by rw [e_g_7]; exact hD
  refine lv_dup hx hb dX7_init_57 rfl ?_
  refine lv_bipush (v := 6) hx hb dX7_init_58 (by decide) ?_
  refine va_ldcS hx hb hown (show vk_R RX7 27 "budget" (adK 6) s from hE0.2.2.2 6 (by decide)) dX7_init_60 ?_
  have hFc : ∀ q : Nat, va_A [] H.size q → A q := fun q h => by
    rcases h with ⟨k9, e9, h9⟩ | h9
    · simp at h9
    · exact hA q (Nat.le_trans hS.1 h9)
  refine va_calli (va_runS (As := [.ref (adK 6)]) (rest := [.int 6, .ref q_1, .ref q_1, .ref h0]) ⟨hx, hb, hml, hown, hts⟩ (c_X7_spell_6 l adK adV z H.size) (cwS 1 hts (gS t_437 t_438 t_141 t_439) rfl rfl rfl (by decide +kernel) ⟨Nat.le_of_ble_eq_true rfl, Nat.le_of_ble_eq_true rfl⟩) ⟨jBlind, jGo hE0 hAz hS hz⟩ rfl rfl hl.1 rfl (lv_room (Nat.le_of_ble_eq_true rfl)) dX7_init_62 ⟨Nat.le_of_ble_eq_true rfl, Nat.le_of_ble_eq_true rfl⟩) hS (fun q _ h => hFc q h) hFc (fun r9 u t H1 locs ht hvm hw hB hz1 hk1 hS => ?_)
  obtain rfl : r9 = 39942065 := hw
  obtain ⟨hP, hD⟩ := va_join (wr := [(h0, .inr (7, [.null, .null, .int 0, .int 0, .int 0, .int 0, .int 0, .int 0, .int 0])), (q_1, .inl ((K 0), 11, .inl g_7))]) (w1 := []) hP hD [] [0, 1] rfl rfl (by decide) (by decide) hk1 hFc va_P0 va_D0
  generalize H1 = H at hP hS ⊢
  have hP : va_P (dC, dI) vwCl [(h0, .inr (7, [.null, .null, .int 0, .int 0, .int 0, .int 0, .int 0, .int 0, .int 0])), (q_1, .inl ((K 0), 11, .inl g_7))] H := hP
  have hD : va_D A [(h0, .inr (7, [.null, .null, .int 0, .int 0, .int 0, .int 0, .int 0, .int 0, .int 0])), (q_1, .inl ((K 0), 11, .inl g_7))] := hD
  refine va_iast hx hb hK hP hD hS 1 0 rfl rfl (vpd (by decide)) dX7_init_65 (fun H locs hP hD hS => ?_)
  obtain ⟨g_8, e_g_8⟩ : ∃ y : Nat → Int32, y = upd g_7 (6 : Int32).toNatClampNeg 39942065 := ⟨_, rfl⟩
  have hP : va_P (dC, dI) vwCl [(h0, .inr (7, [.null, .null, .int 0, .int 0, .int 0, .int 0, .int 0, .int 0, .int 0])), (q_1, .inl ((K 0), 11, .inl g_8))] H := by rw [e_g_8]; exact hP
  have hD : va_D A [(h0, .inr (7, [.null, .null, .int 0, .int 0, .int 0, .int 0, .int 0, .int 0, .int 0])), (q_1, .inl ((K 0), 11, .inl g_8))] := by rw [e_g_8]; exact hD
  refine lv_dup hx hb dX7_init_66 rfl ?_
  refine lv_bipush (v := 7) hx hb dX7_init_67 (by decide) ?_
  refine va_ldcS hx hb hown (show vk_R RX7 29 "num" (adK 7) s from hE0.2.2.2 7 (by decide)) dX7_init_69 ?_
  have hFc : ∀ q : Nat, va_A [] H.size q → A q := fun q h => by
    rcases h with ⟨k9, e9, h9⟩ | h9
    · simp at h9
    · exact hA q (Nat.le_trans hS.1 h9)
  refine va_calli (va_runS (As := [.ref (adK 7)]) (rest := [.int 7, .ref q_1, .ref q_1, .ref h0]) ⟨hx, hb, hml, hown, hts⟩ (c_X7_spell_7 l adK adV z H.size) (cwS 1 hts (gS t_437 t_438 t_141 t_439) rfl rfl rfl (by decide +kernel) ⟨Nat.le_of_ble_eq_true rfl, Nat.le_of_ble_eq_true rfl⟩) ⟨jBlind, jGo hE0 hAz hS hz⟩ rfl rfl hl.1 rfl (lv_room (Nat.le_of_ble_eq_true rfl)) dX7_init_71 ⟨Nat.le_of_ble_eq_true rfl, Nat.le_of_ble_eq_true rfl⟩) hS (fun q _ h => hFc q h) hFc (fun r9 u t H1 locs ht hvm hw hB hz1 hk1 hS => ?_)
  obtain rfl : r9 = 212300838 := hw
  obtain ⟨hP, hD⟩ := va_join (wr := [(h0, .inr (7, [.null, .null, .int 0, .int 0, .int 0, .int 0, .int 0, .int 0, .int 0])), (q_1, .inl ((K 0), 11, .inl g_8))]) (w1 := []) hP hD [] [0, 1] rfl rfl (by decide) (by decide) hk1 hFc va_P0 va_D0
  generalize H1 = H at hP hS ⊢
  have hP : va_P (dC, dI) vwCl [(h0, .inr (7, [.null, .null, .int 0, .int 0, .int 0, .int 0, .int 0, .int 0, .int 0])), (q_1, .inl ((K 0), 11, .inl g_8))] H := hP
  have hD : va_D A [(h0, .inr (7, [.null, .null, .int 0, .int 0, .int 0, .int 0, .int 0, .int 0, .int 0])), (q_1, .inl ((K 0), 11, .inl g_8))] := hD
  refine va_iast hx hb hK hP hD hS 1 0 rfl rfl (vpd (by decide)) dX7_init_74 (fun H locs hP hD hS => ?_)
  obtain ⟨g_9, e_g_9⟩ : ∃ y : Nat → Int32, y = upd g_8 (7 : Int32).toNatClampNeg 212300838 := ⟨_, rfl⟩
  have hP : va_P (dC, dI) vwCl [(h0, .inr (7, [.null, .null, .int 0, .int 0, .int 0, .int 0, .int 0, .int 0, .int 0])), (q_1, .inl ((K 0), 11, .inl g_9))] H := by rw [e_g_9]; exact hP
  have hD : va_D A [(h0, .inr (7, [.null, .null, .int 0, .int 0, .int 0, .int 0, .int 0, .int 0, .int 0])), (q_1, .inl ((K 0), 11, .inl g_9))] := by rw [e_g_9]; exact hD
  refine lv_dup hx hb dX7_init_75 rfl ?_
  refine lv_bipush (v := 8) hx hb dX7_init_76 (by decide) ?_
  refine va_ldcS hx hb hown (show vk_R RX7 31 "any" (adK 8) s from hE0.2.2.2 8 (by decide)) dX7_init_78 ?_
  have hFc : ∀ q : Nat, va_A [] H.size q → A q := fun q h => by
    rcases h with ⟨k9, e9, h9⟩ | h9
    · simp at h9
    · exact hA q (Nat.le_trans hS.1 h9)
  refine va_calli (va_runS (As := [.ref (adK 8)]) (rest := [.int 8, .ref q_1, .ref q_1, .ref h0]) ⟨hx, hb, hml, hown, hts⟩ (c_X7_spell_8 l adK adV z H.size) (cwS 1 hts (gS t_437 t_438 t_141 t_439) rfl rfl rfl (by decide +kernel) ⟨Nat.le_of_ble_eq_true rfl, Nat.le_of_ble_eq_true rfl⟩) ⟨jBlind, jGo hE0 hAz hS hz⟩ rfl rfl hl.1 rfl (lv_room (Nat.le_of_ble_eq_true rfl)) dX7_init_80 ⟨Nat.le_of_ble_eq_true rfl, Nat.le_of_ble_eq_true rfl⟩) hS (fun q _ h => hFc q h) hFc (fun r9 u t H1 locs ht hvm hw hB hz1 hk1 hS => ?_)
  obtain rfl : r9 = 22281156 := hw
  obtain ⟨hP, hD⟩ := va_join (wr := [(h0, .inr (7, [.null, .null, .int 0, .int 0, .int 0, .int 0, .int 0, .int 0, .int 0])), (q_1, .inl ((K 0), 11, .inl g_9))]) (w1 := []) hP hD [] [0, 1] rfl rfl (by decide) (by decide) hk1 hFc va_P0 va_D0
  generalize H1 = H at hP hS ⊢
  have hP : va_P (dC, dI) vwCl [(h0, .inr (7, [.null, .null, .int 0, .int 0, .int 0, .int 0, .int 0, .int 0, .int 0])), (q_1, .inl ((K 0), 11, .inl g_9))] H := hP
  have hD : va_D A [(h0, .inr (7, [.null, .null, .int 0, .int 0, .int 0, .int 0, .int 0, .int 0, .int 0])), (q_1, .inl ((K 0), 11, .inl g_9))] := hD
  refine va_iast hx hb hK hP hD hS 1 0 rfl rfl (vpd (by decide)) dX7_init_83 (fun H locs hP hD hS => ?_)
  obtain ⟨g_10, e_g_10⟩ : ∃ y : Nat → Int32, y = upd g_9 (8 : Int32).toNatClampNeg 22281156 := ⟨_, rfl⟩
  have hP : va_P (dC, dI) vwCl [(h0, .inr (7, [.null, .null, .int 0, .int 0, .int 0, .int 0, .int 0, .int 0, .int 0])), (q_1, .inl ((K 0), 11, .inl g_10))] H := by rw [e_g_10]; exact hP
  have hD : va_D A [(h0, .inr (7, [.null, .null, .int 0, .int 0, .int 0, .int 0, .int 0, .int 0, .int 0])), (q_1, .inl ((K 0), 11, .inl g_10))] := by rw [e_g_10]; exact hD
  refine lv_dup hx hb dX7_init_84 rfl ?_
  refine lv_bipush (v := 9) hx hb dX7_init_85 (by decide) ?_
  refine va_ldcS hx hb hown (show vk_R RX7 33 "or" (adK 9) s from hE0.2.2.2 9 (by decide)) dX7_init_87 ?_
  have hFc : ∀ q : Nat, va_A [] H.size q → A q := fun q h => by
    rcases h with ⟨k9, e9, h9⟩ | h9
    · simp at h9
    · exact hA q (Nat.le_trans hS.1 h9)
  refine va_calli (va_runS (As := [.ref (adK 9)]) (rest := [.int 9, .ref q_1, .ref q_1, .ref h0]) ⟨hx, hb, hml, hown, hts⟩ (c_X7_spell_9 l adK adV z H.size) (cwS 1 hts (gS t_437 t_438 t_141 t_439) rfl rfl rfl (by decide +kernel) ⟨Nat.le_of_ble_eq_true rfl, Nat.le_of_ble_eq_true rfl⟩) ⟨jBlind, jGo hE0 hAz hS hz⟩ rfl rfl hl.1 rfl (lv_room (Nat.le_of_ble_eq_true rfl)) dX7_init_89 ⟨Nat.le_of_ble_eq_true rfl, Nat.le_of_ble_eq_true rfl⟩) hS (fun q _ h => hFc q h) hFc (fun r9 u t H1 locs ht hvm hw hB hz1 hk1 hS => ?_)
  obtain rfl : r9 = 224799543 := hw
  obtain ⟨hP, hD⟩ := va_join (wr := [(h0, .inr (7, [.null, .null, .int 0, .int 0, .int 0, .int 0, .int 0, .int 0, .int 0])), (q_1, .inl ((K 0), 11, .inl g_10))]) (w1 := []) hP hD [] [0, 1] rfl rfl (by decide) (by decide) hk1 hFc va_P0 va_D0
  generalize H1 = H at hP hS ⊢
  have hP : va_P (dC, dI) vwCl [(h0, .inr (7, [.null, .null, .int 0, .int 0, .int 0, .int 0, .int 0, .int 0, .int 0])), (q_1, .inl ((K 0), 11, .inl g_10))] H := hP
  have hD : va_D A [(h0, .inr (7, [.null, .null, .int 0, .int 0, .int 0, .int 0, .int 0, .int 0, .int 0])), (q_1, .inl ((K 0), 11, .inl g_10))] := hD
  refine va_iast hx hb hK hP hD hS 1 0 rfl rfl (vpd (by decide)) dX7_init_92 (fun H locs hP hD hS => ?_)
  obtain ⟨g_11, e_g_11⟩ : ∃ y : Nat → Int32, y = upd g_10 (9 : Int32).toNatClampNeg 224799543 := ⟨_, rfl⟩
  have hP : va_P (dC, dI) vwCl [(h0, .inr (7, [.null, .null, .int 0, .int 0, .int 0, .int 0, .int 0, .int 0, .int 0])), (q_1, .inl ((K 0), 11, .inl g_11))] H := by rw [e_g_11]; exact hP
  have hD : va_D A [(h0, .inr (7, [.null, .null, .int 0, .int 0, .int 0, .int 0, .int 0, .int 0, .int 0])), (q_1, .inl ((K 0), 11, .inl g_11))] := by rw [e_g_11]; exact hD
  refine lv_dup hx hb dX7_init_93 rfl ?_
  refine lv_bipush (v := 10) hx hb dX7_init_94 (by decide) ?_
  refine va_ldcS hx hb hown (show vk_R RX7 35 "to" (adK 10) s from hE0.2.2.2 10 (by decide)) dX7_init_96 ?_
  have hFc : ∀ q : Nat, va_A [] H.size q → A q := fun q h => by
    rcases h with ⟨k9, e9, h9⟩ | h9
    · simp at h9
    · exact hA q (Nat.le_trans hS.1 h9)
  refine va_calli (va_runS (As := [.ref (adK 10)]) (rest := [.int 10, .ref q_1, .ref q_1, .ref h0]) ⟨hx, hb, hml, hown, hts⟩ (c_X7_spell_10 l adK adV z H.size) (cwS 1 hts (gS t_437 t_438 t_141 t_439) rfl rfl rfl (by decide +kernel) ⟨Nat.le_of_ble_eq_true rfl, Nat.le_of_ble_eq_true rfl⟩) ⟨jBlind, jGo hE0 hAz hS hz⟩ rfl rfl hl.1 rfl (lv_room (Nat.le_of_ble_eq_true rfl)) dX7_init_98 ⟨Nat.le_of_ble_eq_true rfl, Nat.le_of_ble_eq_true rfl⟩) hS (fun q _ h => hFc q h) hFc (fun r9 u t H1 locs ht hvm hw hB hz1 hk1 hS => ?_)
  obtain rfl : r9 = 294949755 := hw
  obtain ⟨hP, hD⟩ := va_join (wr := [(h0, .inr (7, [.null, .null, .int 0, .int 0, .int 0, .int 0, .int 0, .int 0, .int 0])), (q_1, .inl ((K 0), 11, .inl g_11))]) (w1 := []) hP hD [] [0, 1] rfl rfl (by decide) (by decide) hk1 hFc va_P0 va_D0
  generalize H1 = H at hP hS ⊢
  have hP : va_P (dC, dI) vwCl [(h0, .inr (7, [.null, .null, .int 0, .int 0, .int 0, .int 0, .int 0, .int 0, .int 0])), (q_1, .inl ((K 0), 11, .inl g_11))] H := hP
  have hD : va_D A [(h0, .inr (7, [.null, .null, .int 0, .int 0, .int 0, .int 0, .int 0, .int 0, .int 0])), (q_1, .inl ((K 0), 11, .inl g_11))] := hD
  refine va_iast hx hb hK hP hD hS 1 0 rfl rfl (vpd (by decide)) dX7_init_101 (fun H locs hP hD hS => ?_)
  obtain ⟨g_12, e_g_12⟩ : ∃ y : Nat → Int32, y = upd g_11 (10 : Int32).toNatClampNeg 294949755 := ⟨_, rfl⟩
  have hP : va_P (dC, dI) vwCl [(h0, .inr (7, [.null, .null, .int 0, .int 0, .int 0, .int 0, .int 0, .int 0, .int 0])), (q_1, .inl ((K 0), 11, .inl g_12))] H := by rw [e_g_12]; exact hP
  have hD : va_D A [(h0, .inr (7, [.null, .null, .int 0, .int 0, .int 0, .int 0, .int 0, .int 0, .int 0])), (q_1, .inl ((K 0), 11, .inl g_12))] := by rw [e_g_12]; exact hD
  refine va_putF (D := (dC, dI)) (ci := 7) (v := .ref q_1) (ty := (.array .int)) (C := RX7) (T := TX7) (N := 9) hx hb hts hiX7 tyX7 tyX7_ok nmX7 hown hK hP hD hS 0 rfl rfl 0 (by decide) (hts _ t_498) (fun _ h9 => h9) rfl hin rfl (by decide +kernel) rfl rfl (Nat.le_of_ble_eq_true rfl) dX7_init_102 (fun H locs hP hD hS => ?_)
  have hP : va_P (dC, dI) vwCl [(h0, .inr (7, [.ref q_1, .null, .int 0, .int 0, .int 0, .int 0, .int 0, .int 0, .int 0])), (q_1, .inl ((K 0), 11, .inl g_12))] H := hP
  have hD : va_D A [(h0, .inr (7, [.ref q_1, .null, .int 0, .int 0, .int 0, .int 0, .int 0, .int 0, .int 0])), (q_1, .inl ((K 0), 11, .inl g_12))] := hD
  refine lv_aload_n hx hb dX7_init_105 rfl (lv_at hl 0 rfl) ?_
  refine lv_iconst (v := 0) hx hb dX7_init_106 (by decide) ?_
  refine n_newI (N' := 0) (k2 := 2) (n2 := 11) hx hb (hts _ t_177) hK hP hD hS hA (by decide) (by decide) (Nat.le_of_ble_eq_true rfl) (Nat.le_of_ble_eq_true rfl) (Nat.le_of_ble_eq_true rfl) rfl rfl dX7_init_107 (fun q_13 H hP hD hS => ?_)
  have hP : va_P (dC, dI) vwCl [(h0, .inr (7, [.ref q_1, .null, .int 0, .int 0, .int 0, .int 0, .int 0, .int 0, .int 0])), (q_1, .inl ((K 0), 11, .inl g_12)), (q_13, .inl ((K 0), 0, .inl (fun _ => 0)))] H := hP
  have hD : va_D A [(h0, .inr (7, [.ref q_1, .null, .int 0, .int 0, .int 0, .int 0, .int 0, .int 0, .int 0])), (q_1, .inl ((K 0), 11, .inl g_12)), (q_13, .inl ((K 0), 0, .inl (fun _ => 0)))] := hD
  refine va_put (D := (dC, dI)) (ci := 7) (v := .ref q_13) (ty := (.array .int)) (C := RX7) (T := TX7) (N := 9) hx hb hts hiX7 tyX7 tyX7_ok nmX7 hown hK hP hD hS 0 rfl rfl 1 (by decide) (hts _ t_499) (fun _ h9 => h9) rfl (by decide +kernel) rfl rfl (Nat.le_of_ble_eq_true rfl) dX7_init_109 (fun H locs hP hD hS => ?_)
  have hP : va_P (dC, dI) vwCl [(h0, .inr (7, [.ref q_1, .ref q_13, .int 0, .int 0, .int 0, .int 0, .int 0, .int 0, .int 0])), (q_1, .inl ((K 0), 11, .inl g_12)), (q_13, .inl ((K 0), 0, .inl (fun _ => 0)))] H := hP
  have hD : va_D A [(h0, .inr (7, [.ref q_1, .ref q_13, .int 0, .int 0, .int 0, .int 0, .int 0, .int 0, .int 0])), (q_1, .inl ((K 0), 11, .inl g_12)), (q_13, .inl ((K 0), 0, .inl (fun _ => 0)))] := hD
  have hokF : okF g_12 := by
    intro k hk
    rcases (show k = 0 ∨ k = 1 ∨ k = 2 ∨ k = 3 ∨ k = 4 ∨ k = 5 ∨ k = 6 ∨ k = 7 ∨ k = 8 ∨ k = 9 ∨ k = 10 by omega) with rfl | rfl | rfl | rfl | rfl | rfl | rfl | rfl | rfl | rfl | rfl <;> (subst e_g_12 e_g_11 e_g_10 e_g_9 e_g_8 e_g_7 e_g_6 e_g_5 e_g_4 e_g_3 e_g_2; rfl)
  exact W.vret hx hb hr (fun t ht hW => ⟨⟨(), rfl, trivial, (fun i => [q_1, q_13].getD i 0), g_12, hokF, by rw [ht]; exact hP, hD⟩, hS.F ht⟩) hS.2.2 dX7_init_112
set_option maxHeartbeats 8000000 in
set_option maxRecDepth 100000 in
theorem n_X6_init (l : Launch) (dC : Nat → ClassId) (dI : Nat → Nat → Nat) (K : Nat → ClassId) (h0 tb : Nat) (adK adV : Nat → Nat) (z : Nat) (sz : Nat) (hAz : ∀ q : Nat, va_A [(h0, .inr (6, [.null, .null, .null, .int 0, .int 0]))] sz q → z ≤ q) : Met l yX6_init (.code yX6_init cX6_init 2 none :: WT) ({ frames := 10, cells := 14, slots := 20510, locals := 742 }) (va_Pc [.ref h0, .ref tb] (nPreS dC dI K adK adV z sz [(h0, .inr (6, [.null, .null, .null, .int 0, .int 0]))])) (va_Qv (fun _ : Unit => True) (fun (_ : Unit) (t : State) => ∃ (r : Nat → Nat), ∃ (ff : Nat → Int32), okF ff ∧ va_P (dC, dI) vwCl [(h0, .inr (6, [.ref (r 0), .ref (r 3), .ref tb, .int 0, .int (-1)])), ((r 0), .inr (7, [.ref (r 1), .ref (r 2), .int 0, .int 0, .int 0, .int 0, .int 0, .int 0, .int 0])), ((r 1), .inl ((K 0), 11, .inl ff)), ((r 2), .inl ((K 0), 0, .inl (fun _ => 0))), ((r 3), .inl ((K 4), 10, .inr (.inr (.inr (.inr (va_rl [(r 4), (r 5), (r 6), (r 7), (r 8), (r 9), (r 10), (r 11), (r 12), (r 13)])))))), ((r 4), .inl ((K 0), 2048, .inl (fun _ => 0))), ((r 5), .inl ((K 0), 2048, .inl (fun _ => 0))), ((r 6), .inl ((K 0), 2048, .inl (fun _ => 0))), ((r 7), .inl ((K 0), 2048, .inl (fun _ => 0))), ((r 8), .inl ((K 0), 2048, .inl (fun _ => 0))), ((r 9), .inl ((K 0), 2048, .inl (fun _ => 0))), ((r 10), .inl ((K 0), 2048, .inl (fun _ => 0))), ((r 11), .inl ((K 0), 2048, .inl (fun _ => 0))), ((r 12), .inl ((K 0), 2048, .inl (fun _ => 0))), ((r 13), .inl ((K 0), 2048, .inl (fun _ => 0)))] t.heap ∧ va_D (va_A [(h0, .inr (6, [.null, .null, .null, .int 0, .int 0]))] sz) [(h0, .inr (6, [.ref (r 0), .ref (r 3), .ref tb, .int 0, .int (-1)])), ((r 0), .inr (7, [.ref (r 1), .ref (r 2), .int 0, .int 0, .int 0, .int 0, .int 0, .int 0, .int 0])), ((r 1), .inl ((K 0), 11, .inl ff)), ((r 2), .inl ((K 0), 0, .inl (fun _ => 0))), ((r 3), .inl ((K 4), 10, .inr (.inr (.inr (.inr (va_rl [(r 4), (r 5), (r 6), (r 7), (r 8), (r 9), (r 10), (r 11), (r 12), (r 13)])))))), ((r 4), .inl ((K 0), 2048, .inl (fun _ => 0))), ((r 5), .inl ((K 0), 2048, .inl (fun _ => 0))), ((r 6), .inl ((K 0), 2048, .inl (fun _ => 0))), ((r 7), .inl ((K 0), 2048, .inl (fun _ => 0))), ((r 8), .inl ((K 0), 2048, .inl (fun _ => 0))), ((r 9), .inl ((K 0), 2048, .inl (fun _ => 0))), ((r 10), .inl ((K 0), 2048, .inl (fun _ => 0))), ((r 11), .inl ((K 0), 2048, .inl (fun _ => 0))), ((r 12), .inl ((K 0), 2048, .inl (fun _ => 0))), ((r 13), .inl ((K 0), 2048, .inl (fun _ => 0)))]) (va_A [(h0, .inr (6, [.null, .null, .null, .int 0, .int 0]))] sz)) 14 20510 (va_A [(h0, .inr (6, [.null, .null, .null, .int 0, .int 0]))] sz) := by
  refine Met.ofW (cc := cX6_init) (maxL := 2) (ret := none) (by decide) rfl ?_
  intro p e s m args below meth c s₁ B hml hv
  obtain ⟨rfl, ⟨hsz, hP, hK, hD0, hN, hX⟩, hE0⟩ := hv
  have hx := B.exec
  have hb := B.bytes
  have hr := B.returns
  have hts0 := atoms_spec (ws := .code yX6_init cX6_init 2 none :: WT) B.pre
  have hts : ∀ w ∈ WT, w.before _ s = true := fun w h => hts0 w (List.mem_cons_of_mem _ h)
  have hown : s.vm.findClass RX6 = some m.cls := findClass_of_methodNamed B.named
  have hlocks := B.notSynchronized
  have hin : meth.name = "<init>" := (name_of_methodNamed B.named B.method).1
  subst hsz
  have hD := hD0.self (sz := s.heap.size)
  have hz : z ≤ s.heap.size := hAz _ (Or.inr (Nat.le_refl _))
  generalize hAe : va_A [(h0, .inr (6, [.null, .null, .null, .int 0, .int 0]))] s.heap.size = A at hD hAz ⊢
  have hA : ∀ q : Nat, s.heap.size ≤ q → A q := fun q h => by rw [← hAe]; exact Or.inr h
  have hS : va_S A s.heap s.heap [] := va_S.rf
  have hP : va_P (dC, dI) vwCl [(h0, .inr (6, [.null, .null, .null, .int 0, .int 0]))] s.heap := hP
  have hD : va_D A [(h0, .inr (6, [.null, .null, .null, .int 0, .int 0]))] := hD
  have hl := lv_entry ([.ref h0, .ref tb]) (n := 2) (Nat.le_of_ble_eq_true rfl)
  rw [lg_entry_eq]
  generalize (lg_sl ([.ref h0, .ref tb]) ++ List.replicate (2 - (lg_sl ([.ref h0, .ref tb])).length) Slot.unset).toArray = ls at hl ⊢
  have hl : lv_has ls 2 [(0, .ref h0), (1, .ref tb)] := hl
  refine lv_aload_n hx hb dX6_init_0 rfl (lv_at hl 0 rfl) ?_
  refine W.objInit hx hb hown (hts _ t_429) (hts _ t_155) (hts _ t_156) rfl (by rw [hml]; exact hl.1) rfl dX6_init_1 (Nat.le_of_ble_eq_true rfl) (Nat.le_of_ble_eq_true rfl) ?_
  refine W.eq (g2 := F0 m 4 ls []) rfl ?_
  refine lv_aload_n hx hb dX6_init_4 rfl (lv_at hl 0 rfl) ?_
  refine va_new (ci := 7) (fs := [.null, .null, .int 0, .int 0, .int 0, .int 0, .int 0, .int 0, .int 0]) (C := RX7) (T := TX7) (N := 9) hx hb hts hiX7 tyX7 tyX7_ok hown (hts _ t_430) (hts _ t_431) (hts _ t_141) hK hP hD hS hA rfl (fun j hj => by rcases (show j = 0 ∨ j = 1 ∨ j = 2 ∨ j = 3 ∨ j = 4 ∨ j = 5 ∨ j = 6 ∨ j = 7 ∨ j = 8 by omega) with rfl | rfl | rfl | rfl | rfl | rfl | rfl | rfl | rfl <;> rfl) (Nat.le_of_ble_eq_true rfl) (Nat.le_of_ble_eq_true rfl) dX6_init_5 (fun q_1 H hP hD hS => ?_)
  refine W.widen (k := 1) (n := 9) (Nat.le_of_ble_eq_true rfl) (Nat.le_of_ble_eq_true rfl) ?_
  have hP : va_P (dC, dI) vwCl [(h0, .inr (6, [.null, .null, .null, .int 0, .int 0])), (q_1, .inr (7, [.null, .null, .int 0, .int 0, .int 0, .int 0, .int 0, .int 0, .int 0]))] H := hP
  have hD : va_D A [(h0, .inr (6, [.null, .null, .null, .int 0, .int 0])), (q_1, .inr (7, [.null, .null, .int 0, .int 0, .int 0, .int 0, .int 0, .int 0, .int 0]))] := hD
  refine lv_dup hx hb dX6_init_8 rfl ?_
  have hPc := hP.sub (ws' := [(q_1, .inr (7, [.null, .null, .int 0, .int 0, .int 0, .int 0, .int 0, .int 0, .int 0]))]) [1] rfl
  have hDc := hD.sub (ws' := [(q_1, .inr (7, [.null, .null, .int 0, .int 0, .int 0, .int 0, .int 0, .int 0, .int 0]))]) [1] (by decide) rfl
  have hFc := va_free (wc := [(q_1, .inr (7, [.null, .null, .int 0, .int 0, .int 0, .int 0, .int 0, .int 0, .int 0]))]) hD hS hA [1] rfl
  refine va_callv (va_runIN (As := []) (rest := [.ref q_1, .ref h0]) ⟨hx, hb, hml, hown, hts⟩ (n_X7_init l dC dI K q_1 adK adV z H.size (fun q h => hAz q (hFc q h))) ⟨(va_cnB 0 hts (gI t_434) rfl rfl rfl hN.2.2.2.2.2.1 (hts _ t_141) (by decide +kernel) ⟨Nat.le_of_ble_eq_true rfl, Nat.le_of_ble_eq_true rfl⟩), rfl, hts (.instanceMethod yX7_init) (by decide +kernel)⟩ ⟨nBlindS, nGoS hPc hK hDc hN hX hE0 hAz hS⟩ rfl rfl hl.1 rfl (lv_room (Nat.le_of_ble_eq_true rfl)) dX6_init_9 ⟨Nat.le_of_ble_eq_true rfl, Nat.le_of_ble_eq_true rfl⟩) hS (fun q _ h => hFc q h) hFc (fun u t H1 locs ht hvm hw hB hz1 hk1 hS => ?_)
  obtain ⟨rk_3, fk_4, ho_fk_4, hP1, hD1⟩ := hB
  rw [ht] at hP1
  obtain ⟨hP, hD⟩ := va_join (wr := [(h0, .inr (6, [.null, .null, .null, .int 0, .int 0]))]) (w1 := [(q_1, .inr (7, [.ref (rk_3 0), .ref (rk_3 1), .int 0, .int 0, .int 0, .int 0, .int 0, .int 0, .int 0])), ((rk_3 0), .inl ((K 0), 11, .inl fk_4)), ((rk_3 1), .inl ((K 0), 0, .inl (fun _ => 0)))]) hP hD [1] [0] rfl rfl (by decide) (by decide) hk1 hFc hP1 hD1
  generalize H1 = H at hP hS ⊢
  have hP : va_P (dC, dI) vwCl [(h0, .inr (6, [.null, .null, .null, .int 0, .int 0])), (q_1, .inr (7, [.ref (rk_3 0), .ref (rk_3 1), .int 0, .int 0, .int 0, .int 0, .int 0, .int 0, .int 0])), ((rk_3 0), .inl ((K 0), 11, .inl fk_4)), ((rk_3 1), .inl ((K 0), 0, .inl (fun _ => 0)))] H := hP
  have hD : va_D A [(h0, .inr (6, [.null, .null, .null, .int 0, .int 0])), (q_1, .inr (7, [.ref (rk_3 0), .ref (rk_3 1), .int 0, .int 0, .int 0, .int 0, .int 0, .int 0, .int 0])), ((rk_3 0), .inl ((K 0), 11, .inl fk_4)), ((rk_3 1), .inl ((K 0), 0, .inl (fun _ => 0)))] := hD
  refine W.widen (k := 3) (n := 20) (Nat.le_of_ble_eq_true rfl) (Nat.le_of_ble_eq_true rfl) ?_
  refine va_putF (D := (dC, dI)) (ci := 6) (v := .ref q_1) (ty := (.object "MatchTrees$Scanner")) (C := RX6) (T := TX6) (N := 5) hx hb hts hiX6 tyX6 tyX6_ok nmX6 hown hK hP hD hS 0 rfl rfl 0 (by decide) (hts _ t_533) (fun _ h9 => h9) rfl hin rfl (by decide +kernel) rfl rfl (Nat.le_of_ble_eq_true rfl) dX6_init_12 (fun H locs hP hD hS => ?_)
  have hP : va_P (dC, dI) vwCl [(h0, .inr (6, [.ref q_1, .null, .null, .int 0, .int 0])), (q_1, .inr (7, [.ref (rk_3 0), .ref (rk_3 1), .int 0, .int 0, .int 0, .int 0, .int 0, .int 0, .int 0])), ((rk_3 0), .inl ((K 0), 11, .inl fk_4)), ((rk_3 1), .inl ((K 0), 0, .inl (fun _ => 0)))] H := hP
  have hD : va_D A [(h0, .inr (6, [.ref q_1, .null, .null, .int 0, .int 0])), (q_1, .inr (7, [.ref (rk_3 0), .ref (rk_3 1), .int 0, .int 0, .int 0, .int 0, .int 0, .int 0, .int 0])), ((rk_3 0), .inl ((K 0), 11, .inl fk_4)), ((rk_3 1), .inl ((K 0), 0, .inl (fun _ => 0)))] := hD
  refine lv_aload_n hx hb dX6_init_15 rfl (lv_at hl 0 rfl) ?_
  refine lv_bipush (v := 10) hx hb dX6_init_16 (by decide) ?_
  refine lv_sipush (v := 2048) hx hb dX6_init_18 (by decide) ?_
  refine n_mna (N' := 10) (K' := 2048) (k2 := 14) (n2 := 20510) hx hb hown (hts _ t_532) hN.2.2.2.2.2.2.2.2.2 (hts _ t_177) hK hP hD hS hA (by decide) (by decide) (by decide) (by decide) (Nat.le_of_ble_eq_true rfl) (Nat.le_of_ble_eq_true rfl) (Nat.le_of_ble_eq_true rfl) (Nat.le_of_ble_eq_true rfl) (Nat.le_of_ble_eq_true rfl) rfl rfl dX6_init_21 (fun q_5 qi_6 H hP hD hS => ?_)
  have hP : va_P (dC, dI) vwCl [(h0, .inr (6, [.ref q_1, .null, .null, .int 0, .int 0])), (q_1, .inr (7, [.ref (rk_3 0), .ref (rk_3 1), .int 0, .int 0, .int 0, .int 0, .int 0, .int 0, .int 0])), ((rk_3 0), .inl ((K 0), 11, .inl fk_4)), ((rk_3 1), .inl ((K 0), 0, .inl (fun _ => 0))), (q_5, .inl ((K 4), 10, .inr (.inr (.inr (.inr (va_rl [(qi_6 0), (qi_6 1), (qi_6 2), (qi_6 3), (qi_6 4), (qi_6 5), (qi_6 6), (qi_6 7), (qi_6 8), (qi_6 9)])))))), ((qi_6 0), .inl ((K 0), 2048, .inl (fun _ => 0))), ((qi_6 1), .inl ((K 0), 2048, .inl (fun _ => 0))), ((qi_6 2), .inl ((K 0), 2048, .inl (fun _ => 0))), ((qi_6 3), .inl ((K 0), 2048, .inl (fun _ => 0))), ((qi_6 4), .inl ((K 0), 2048, .inl (fun _ => 0))), ((qi_6 5), .inl ((K 0), 2048, .inl (fun _ => 0))), ((qi_6 6), .inl ((K 0), 2048, .inl (fun _ => 0))), ((qi_6 7), .inl ((K 0), 2048, .inl (fun _ => 0))), ((qi_6 8), .inl ((K 0), 2048, .inl (fun _ => 0))), ((qi_6 9), .inl ((K 0), 2048, .inl (fun _ => 0)))] H := va_P.q (g := va_rl [(qi_6 0), (qi_6 1), (qi_6 2), (qi_6 3), (qi_6 4), (qi_6 5), (qi_6 6), (qi_6 7), (qi_6 8), (qi_6 9)]) hP (k := 4) rfl (fun i hi => by rcases (show i = 0 ∨ i = 1 ∨ i = 2 ∨ i = 3 ∨ i = 4 ∨ i = 5 ∨ i = 6 ∨ i = 7 ∨ i = 8 ∨ i = 9 by omega) with rfl | rfl | rfl | rfl | rfl | rfl | rfl | rfl | rfl | rfl <;> rfl)
  have hD : va_D A [(h0, .inr (6, [.ref q_1, .null, .null, .int 0, .int 0])), (q_1, .inr (7, [.ref (rk_3 0), .ref (rk_3 1), .int 0, .int 0, .int 0, .int 0, .int 0, .int 0, .int 0])), ((rk_3 0), .inl ((K 0), 11, .inl fk_4)), ((rk_3 1), .inl ((K 0), 0, .inl (fun _ => 0))), (q_5, .inl ((K 4), 10, .inr (.inr (.inr (.inr (va_rl [(qi_6 0), (qi_6 1), (qi_6 2), (qi_6 3), (qi_6 4), (qi_6 5), (qi_6 6), (qi_6 7), (qi_6 8), (qi_6 9)])))))), ((qi_6 0), .inl ((K 0), 2048, .inl (fun _ => 0))), ((qi_6 1), .inl ((K 0), 2048, .inl (fun _ => 0))), ((qi_6 2), .inl ((K 0), 2048, .inl (fun _ => 0))), ((qi_6 3), .inl ((K 0), 2048, .inl (fun _ => 0))), ((qi_6 4), .inl ((K 0), 2048, .inl (fun _ => 0))), ((qi_6 5), .inl ((K 0), 2048, .inl (fun _ => 0))), ((qi_6 6), .inl ((K 0), 2048, .inl (fun _ => 0))), ((qi_6 7), .inl ((K 0), 2048, .inl (fun _ => 0))), ((qi_6 8), .inl ((K 0), 2048, .inl (fun _ => 0))), ((qi_6 9), .inl ((K 0), 2048, .inl (fun _ => 0)))] := hD.addr rfl
  refine va_putF (D := (dC, dI)) (ci := 6) (v := .ref q_5) (ty := (.array (.array .int))) (C := RX6) (T := TX6) (N := 5) hx hb hts hiX6 tyX6 tyX6_ok nmX6 hown hK hP hD hS 0 rfl rfl 1 (by decide) (hts _ t_534) (fun _ h9 => h9) rfl hin rfl (by decide +kernel) rfl rfl (Nat.le_of_ble_eq_true rfl) dX6_init_25 (fun H locs hP hD hS => ?_)
  have hP : va_P (dC, dI) vwCl [(h0, .inr (6, [.ref q_1, .ref q_5, .null, .int 0, .int 0])), (q_1, .inr (7, [.ref (rk_3 0), .ref (rk_3 1), .int 0, .int 0, .int 0, .int 0, .int 0, .int 0, .int 0])), ((rk_3 0), .inl ((K 0), 11, .inl fk_4)), ((rk_3 1), .inl ((K 0), 0, .inl (fun _ => 0))), (q_5, .inl ((K 4), 10, .inr (.inr (.inr (.inr (va_rl [(qi_6 0), (qi_6 1), (qi_6 2), (qi_6 3), (qi_6 4), (qi_6 5), (qi_6 6), (qi_6 7), (qi_6 8), (qi_6 9)])))))), ((qi_6 0), .inl ((K 0), 2048, .inl (fun _ => 0))), ((qi_6 1), .inl ((K 0), 2048, .inl (fun _ => 0))), ((qi_6 2), .inl ((K 0), 2048, .inl (fun _ => 0))), ((qi_6 3), .inl ((K 0), 2048, .inl (fun _ => 0))), ((qi_6 4), .inl ((K 0), 2048, .inl (fun _ => 0))), ((qi_6 5), .inl ((K 0), 2048, .inl (fun _ => 0))), ((qi_6 6), .inl ((K 0), 2048, .inl (fun _ => 0))), ((qi_6 7), .inl ((K 0), 2048, .inl (fun _ => 0))), ((qi_6 8), .inl ((K 0), 2048, .inl (fun _ => 0))), ((qi_6 9), .inl ((K 0), 2048, .inl (fun _ => 0)))] H := hP
  have hD : va_D A [(h0, .inr (6, [.ref q_1, .ref q_5, .null, .int 0, .int 0])), (q_1, .inr (7, [.ref (rk_3 0), .ref (rk_3 1), .int 0, .int 0, .int 0, .int 0, .int 0, .int 0, .int 0])), ((rk_3 0), .inl ((K 0), 11, .inl fk_4)), ((rk_3 1), .inl ((K 0), 0, .inl (fun _ => 0))), (q_5, .inl ((K 4), 10, .inr (.inr (.inr (.inr (va_rl [(qi_6 0), (qi_6 1), (qi_6 2), (qi_6 3), (qi_6 4), (qi_6 5), (qi_6 6), (qi_6 7), (qi_6 8), (qi_6 9)])))))), ((qi_6 0), .inl ((K 0), 2048, .inl (fun _ => 0))), ((qi_6 1), .inl ((K 0), 2048, .inl (fun _ => 0))), ((qi_6 2), .inl ((K 0), 2048, .inl (fun _ => 0))), ((qi_6 3), .inl ((K 0), 2048, .inl (fun _ => 0))), ((qi_6 4), .inl ((K 0), 2048, .inl (fun _ => 0))), ((qi_6 5), .inl ((K 0), 2048, .inl (fun _ => 0))), ((qi_6 6), .inl ((K 0), 2048, .inl (fun _ => 0))), ((qi_6 7), .inl ((K 0), 2048, .inl (fun _ => 0))), ((qi_6 8), .inl ((K 0), 2048, .inl (fun _ => 0))), ((qi_6 9), .inl ((K 0), 2048, .inl (fun _ => 0)))] := hD
  refine lv_aload_n hx hb dX6_init_28 rfl (lv_at hl 0 rfl) ?_
  refine lv_iconst (v := (-1)) hx hb dX6_init_29 (by decide) ?_
  refine va_put (D := (dC, dI)) (ci := 6) (v := .int (-1)) (ty := .int) (C := RX6) (T := TX6) (N := 5) hx hb hts hiX6 tyX6 tyX6_ok nmX6 hown hK hP hD hS 0 rfl rfl 4 (by decide) (hts _ t_538) (fun _ h9 => h9) rfl (by decide +kernel) rfl rfl (Nat.le_of_ble_eq_true rfl) dX6_init_30 (fun H locs hP hD hS => ?_)
  have hP : va_P (dC, dI) vwCl [(h0, .inr (6, [.ref q_1, .ref q_5, .null, .int 0, .int (-1)])), (q_1, .inr (7, [.ref (rk_3 0), .ref (rk_3 1), .int 0, .int 0, .int 0, .int 0, .int 0, .int 0, .int 0])), ((rk_3 0), .inl ((K 0), 11, .inl fk_4)), ((rk_3 1), .inl ((K 0), 0, .inl (fun _ => 0))), (q_5, .inl ((K 4), 10, .inr (.inr (.inr (.inr (va_rl [(qi_6 0), (qi_6 1), (qi_6 2), (qi_6 3), (qi_6 4), (qi_6 5), (qi_6 6), (qi_6 7), (qi_6 8), (qi_6 9)])))))), ((qi_6 0), .inl ((K 0), 2048, .inl (fun _ => 0))), ((qi_6 1), .inl ((K 0), 2048, .inl (fun _ => 0))), ((qi_6 2), .inl ((K 0), 2048, .inl (fun _ => 0))), ((qi_6 3), .inl ((K 0), 2048, .inl (fun _ => 0))), ((qi_6 4), .inl ((K 0), 2048, .inl (fun _ => 0))), ((qi_6 5), .inl ((K 0), 2048, .inl (fun _ => 0))), ((qi_6 6), .inl ((K 0), 2048, .inl (fun _ => 0))), ((qi_6 7), .inl ((K 0), 2048, .inl (fun _ => 0))), ((qi_6 8), .inl ((K 0), 2048, .inl (fun _ => 0))), ((qi_6 9), .inl ((K 0), 2048, .inl (fun _ => 0)))] H := hP
  have hD : va_D A [(h0, .inr (6, [.ref q_1, .ref q_5, .null, .int 0, .int (-1)])), (q_1, .inr (7, [.ref (rk_3 0), .ref (rk_3 1), .int 0, .int 0, .int 0, .int 0, .int 0, .int 0, .int 0])), ((rk_3 0), .inl ((K 0), 11, .inl fk_4)), ((rk_3 1), .inl ((K 0), 0, .inl (fun _ => 0))), (q_5, .inl ((K 4), 10, .inr (.inr (.inr (.inr (va_rl [(qi_6 0), (qi_6 1), (qi_6 2), (qi_6 3), (qi_6 4), (qi_6 5), (qi_6 6), (qi_6 7), (qi_6 8), (qi_6 9)])))))), ((qi_6 0), .inl ((K 0), 2048, .inl (fun _ => 0))), ((qi_6 1), .inl ((K 0), 2048, .inl (fun _ => 0))), ((qi_6 2), .inl ((K 0), 2048, .inl (fun _ => 0))), ((qi_6 3), .inl ((K 0), 2048, .inl (fun _ => 0))), ((qi_6 4), .inl ((K 0), 2048, .inl (fun _ => 0))), ((qi_6 5), .inl ((K 0), 2048, .inl (fun _ => 0))), ((qi_6 6), .inl ((K 0), 2048, .inl (fun _ => 0))), ((qi_6 7), .inl ((K 0), 2048, .inl (fun _ => 0))), ((qi_6 8), .inl ((K 0), 2048, .inl (fun _ => 0))), ((qi_6 9), .inl ((K 0), 2048, .inl (fun _ => 0)))] := hD
  refine lv_aload_n hx hb dX6_init_33 rfl (lv_at hl 0 rfl) ?_
  refine lv_aload_n hx hb dX6_init_34 rfl (lv_at hl 1 rfl) ?_
  refine va_put (D := (dC, dI)) (ci := 6) (v := .ref tb) (ty := (.object "MatchTrees$Table")) (C := RX6) (T := TX6) (N := 5) hx hb hts hiX6 tyX6 tyX6_ok nmX6 hown hK hP hD hS 0 rfl rfl 2 (by decide) (hts _ t_535) (fun _ h9 => h9) rfl (by decide +kernel) rfl rfl (Nat.le_of_ble_eq_true rfl) dX6_init_35 (fun H locs hP hD hS => ?_)
  have hP : va_P (dC, dI) vwCl [(h0, .inr (6, [.ref q_1, .ref q_5, .ref tb, .int 0, .int (-1)])), (q_1, .inr (7, [.ref (rk_3 0), .ref (rk_3 1), .int 0, .int 0, .int 0, .int 0, .int 0, .int 0, .int 0])), ((rk_3 0), .inl ((K 0), 11, .inl fk_4)), ((rk_3 1), .inl ((K 0), 0, .inl (fun _ => 0))), (q_5, .inl ((K 4), 10, .inr (.inr (.inr (.inr (va_rl [(qi_6 0), (qi_6 1), (qi_6 2), (qi_6 3), (qi_6 4), (qi_6 5), (qi_6 6), (qi_6 7), (qi_6 8), (qi_6 9)])))))), ((qi_6 0), .inl ((K 0), 2048, .inl (fun _ => 0))), ((qi_6 1), .inl ((K 0), 2048, .inl (fun _ => 0))), ((qi_6 2), .inl ((K 0), 2048, .inl (fun _ => 0))), ((qi_6 3), .inl ((K 0), 2048, .inl (fun _ => 0))), ((qi_6 4), .inl ((K 0), 2048, .inl (fun _ => 0))), ((qi_6 5), .inl ((K 0), 2048, .inl (fun _ => 0))), ((qi_6 6), .inl ((K 0), 2048, .inl (fun _ => 0))), ((qi_6 7), .inl ((K 0), 2048, .inl (fun _ => 0))), ((qi_6 8), .inl ((K 0), 2048, .inl (fun _ => 0))), ((qi_6 9), .inl ((K 0), 2048, .inl (fun _ => 0)))] H := hP
  have hD : va_D A [(h0, .inr (6, [.ref q_1, .ref q_5, .ref tb, .int 0, .int (-1)])), (q_1, .inr (7, [.ref (rk_3 0), .ref (rk_3 1), .int 0, .int 0, .int 0, .int 0, .int 0, .int 0, .int 0])), ((rk_3 0), .inl ((K 0), 11, .inl fk_4)), ((rk_3 1), .inl ((K 0), 0, .inl (fun _ => 0))), (q_5, .inl ((K 4), 10, .inr (.inr (.inr (.inr (va_rl [(qi_6 0), (qi_6 1), (qi_6 2), (qi_6 3), (qi_6 4), (qi_6 5), (qi_6 6), (qi_6 7), (qi_6 8), (qi_6 9)])))))), ((qi_6 0), .inl ((K 0), 2048, .inl (fun _ => 0))), ((qi_6 1), .inl ((K 0), 2048, .inl (fun _ => 0))), ((qi_6 2), .inl ((K 0), 2048, .inl (fun _ => 0))), ((qi_6 3), .inl ((K 0), 2048, .inl (fun _ => 0))), ((qi_6 4), .inl ((K 0), 2048, .inl (fun _ => 0))), ((qi_6 5), .inl ((K 0), 2048, .inl (fun _ => 0))), ((qi_6 6), .inl ((K 0), 2048, .inl (fun _ => 0))), ((qi_6 7), .inl ((K 0), 2048, .inl (fun _ => 0))), ((qi_6 8), .inl ((K 0), 2048, .inl (fun _ => 0))), ((qi_6 9), .inl ((K 0), 2048, .inl (fun _ => 0)))] := hD
  have hokF : okF fk_4 := ho_fk_4
  exact W.vret hx hb hr (fun t ht hW => ⟨⟨(), rfl, trivial, (fun i => [q_1, (rk_3 0), (rk_3 1), q_5, (qi_6 0), (qi_6 1), (qi_6 2), (qi_6 3), (qi_6 4), (qi_6 5), (qi_6 6), (qi_6 7), (qi_6 8), (qi_6 9)].getD i 0), fk_4, hokF, by rw [ht]; exact hP, hD⟩, hS.F ht⟩) hS.2.2 dX6_init_38
end
