/-! The class's String constants; String.length, charAt; spell. -/
abbrev lenS : List Nat := [4, 3, 5, 3, 4, 4, 6, 3, 3, 2, 2]
abbrev bytS : List (List Int32) := [[107, 105, 110, 100], [99, 111, 110], [109, 97, 116, 99, 104], [97, 114, 109], [119, 104, 101, 110], [114, 117, 108, 101], [98, 117, 100, 103, 101, 116], [110, 117, 109], [97, 110, 121], [111, 114], [116, 111]]
abbrev idxS : List Nat := [9, 17, 19, 21, 23, 25, 27, 29, 31, 33, 35]
abbrev txtS : List String := ["kind", "con", "match", "arm", "when", "rule", "budget", "num", "any", "or", "to"]
/-- the constants, and the statics of the JDK that their members read; nothing of them lies at or behind z -/
def vS (adK adV : Nat → Nat) (z : Nat) (U : State) : Prop := vk_S 11 lenS bytS adK adV (fun q => z ≤ q) U U.heap ∧ va_Z "java/lang/String" "COMPACT_STRINGS" "Z" (.int 1) (fun q => z ≤ q) U U.heap ∧ va_Zq "jdk/internal/util/Preconditions" "SIOOBE_FORMATTER" "Ljava/util/function/BiFunction;" (fun q => z ≤ q) U U.heap ∧ ∀ i : Nat, i < 11 → vk_R RX7 (idxS.getD i 0) (txtS.getD i "") (adK i) U
theorem vS.same {adK adV : Nat → Nat} {z : Nat} {u U : State} (hv : u.vm = U.vm) (hh : u.heap = U.heap) (h : vS adK adV z u) : vS adK adV z U := by
  obtain ⟨h1, h2, h3, h4⟩ := h
  have hal : u.vm.Alike U.vm := hv ▸ Vm.Alike.refl u.vm
  refine ⟨?_, ?_, ?_, fun i hi => vk_R.same hv.symm (h4 i hi)⟩
  · rw [← hh]; exact vk_S.moved hal h1
  · rw [← hh]; exact va_Z.moved hal h2
  · rw [← hh]; exact va_Zq.moved hal h3
theorem vS.go {adK adV : Nat → Nat} {z : Nat} {s : State} {A : Nat → Prop} {H : Heap} {locs : List Loc} (h : vS adK adV z s) (hAz : ∀ q, A q → z ≤ q) (hS : va_S A s.heap H locs) : ∀ U : State, U.heap = H → s.WarmedH U.vm → vS adK adV z U := by
  intro U hU hW
  obtain ⟨h1, h2, h3, h4⟩ := h
  have hk : ∀ a : Nat, a < s.heap.size → ¬ z ≤ a → H[a]? = s.heap[a]? := fun a ha hz => hS.2.1 a ha (fun q => hz (hAz a q))
  subst hU
  exact ⟨vk_S.moved hW.alike (h1.kept hk), va_Z.moved hW.alike (h2.kept hk), va_Zq.moved hW.alike (h3.kept hk), fun i hi => (h4 i hi).warm hW⟩
abbrev jPre (adK adV : Nat → Nat) (z sz : Nat) : State → Prop := fun U => U.heap.size = sz ∧ vS adK adV z U ∧ z ≤ sz
theorem jBlind {adK adV : Nat → Nat} {z sz : Nat} {av : List Value} : FrameBlind (va_Pc av (jPre adK adV z sz)) := fun a U g mk q => by
  obtain ⟨q0, q1, q2, q3⟩ := q
  exact ⟨q0, q1, vS.same rfl rfl q2, q3⟩
theorem jGo {adK adV : Nat → Nat} {z : Nat} {s : State} {A : Nat → Prop} {H : Heap} {locs : List Loc} {av : List Value} (h : vS adK adV z s) (hAz : ∀ q, A q → z ≤ q) (hS : va_S A s.heap H locs) (hz : z ≤ s.heap.size) : ∀ U : State, U.heap = H → s.WarmedH U.vm → va_Pc av (jPre adK adV z H.size) av.toArray U := fun U hU hW => ⟨rfl, by rw [hU], h.go hAz hS U hU hW, Nat.le_trans hz hS.1⟩
/-- a static call's start that says nothing -/
abbrev oPre (sz : Nat) : State → Prop := fun U => U.heap.size = sz
theorem oBlind {sz : Nat} {av : List Value} : FrameBlind (va_Pc av (oPre sz)) := fun a U g mk q => q
theorem oGo {s : State} {H : Heap} {av : List Value} : ∀ U : State, U.heap = H → s.WarmedH U.vm → va_Pc av (oPre H.size) av.toArray U := fun U hU _ => ⟨rfl, (by show U.heap.size = H.size; rw [hU])⟩
def chS (i k : Nat) : Int32 := (((bytS.getD i []).getD k 0 &&& 255).toUInt32 % 65536).toInt32
theorem lenS_ok : ∀ i : Nat, i < 11 → lenS.getD i 0 < 100 := by decide
set_option maxHeartbeats 4000000 in
set_option maxRecDepth 100000 in
theorem c_J0_coder_7d493 (l : Launch) (adK adV : Nat → Nat) (z i : Nat) (sz : Nat) (hi : i < 11) : Met l yJ0_coder_7d493 (.code yJ0_coder_7d493 cJ0_coder_7d493 1 (some .byte) :: WT) ({ frames := 1, cells := 0, slots := 0, locals := 100 }) (va_Pc [.ref (adK i)] (jPre adK adV z sz)) (va_Qi (fun (r : Int32) (u : Unit) => r = 0) (fun _ _ => True) (va_A [] sz)) 0 0 (va_A [] sz) := by
  refine Met.ofW (cc := cJ0_coder_7d493) (maxL := 1) (ret := (some .byte)) (by decide) rfl ?_
  intro p e s m args below meth c s₁ B hml hv
  obtain ⟨rfl, hsz, hE0, hz⟩ := hv
  have hx := B.exec
  have hb := B.bytes
  have hr := B.returns
  have hts0 := atoms_spec (ws := .code yJ0_coder_7d493 cJ0_coder_7d493 1 (some .byte) :: WT) B.pre
  have hts : ∀ w ∈ WT, w.before _ s = true := fun w h => hts0 w (List.mem_cons_of_mem _ h)
  have hown : s.vm.findClass RJ0 = some m.cls := findClass_of_methodNamed B.named
  have hlocks := B.notSynchronized
  subst hsz
  have hAz : ∀ q : Nat, va_A [] s.heap.size q → z ≤ q := fun q h => by
    rcases h with ⟨k9, e9, h9⟩ | h9
    · simp at h9
    · exact Nat.le_trans hz h9
  generalize hAe : va_A [] s.heap.size = A at hAz ⊢
  have hA : ∀ q : Nat, s.heap.size ≤ q → A q := fun q h => by rw [← hAe]; exact Or.inr h
  have hS : va_S A s.heap s.heap [] := va_S.rf
  have hE : vk_S 11 lenS bytS adK adV A s s.heap := hE0.1.narrow hAz
  have hZ : va_Z "java/lang/String" "COMPACT_STRINGS" "Z" (.int 1) A s s.heap := hE0.2.1.narrow hAz
  have hZq : va_Zq "jdk/internal/util/Preconditions" "SIOOBE_FORMATTER" "Ljava/util/function/BiFunction;" A s s.heap := hE0.2.2.1.narrow hAz
  have hl := lv_entry ([.ref (adK i)]) (n := 1) (Nat.le_of_ble_eq_true rfl)
  rw [lg_entry_eq]
  generalize (lg_sl ([.ref (adK i)]) ++ List.replicate (1 - (lg_sl ([.ref (adK i)])).length) Slot.unset).toArray = ls at hl ⊢
  have hl : lv_has ls 1 [(0, .ref (adK i))] := hl
  refine va_gets hx hb hZ hS hown (hts _ t_448) (fun _ h9 => h9) dJ0_coder_7d493_0 ?_
  refine lv_if_eq (tgt := 13) hx hb dJ0_coder_7d493_3 (by decide) (fun c => absurd c (by decide)) (fun _ => ?_)
  refine lv_aload_n hx hb dJ0_coder_7d493_6 rfl (lv_at hl 0 rfl) ?_
  refine vk_getf hx hb (hE.1 i hi).2.1 hS hown (hts _ t_2189) (fun _ h9 => h9) dJ0_coder_7d493_7 ?_
  refine lv_goto (tgt := 14) hx hb dJ0_coder_7d493_10 (by decide) ?_
  exact W.zret (v := 0) hx hb hr rfl (fun t ht hW => ⟨⟨0, (), rfl, rfl, trivial⟩, hS.F ht⟩) hS.2.2 dJ0_coder_7d493_14
set_option maxHeartbeats 4000000 in
set_option maxRecDepth 100000 in
theorem c_J0_isLatin1_aae02 (l : Launch) (adK adV : Nat → Nat) (z i : Nat) (sz : Nat) (hi : i < 11) : Met l yJ0_isLatin1_aae02 (.code yJ0_isLatin1_aae02 cJ0_isLatin1_aae02 1 (some .boolean) :: WT) ({ frames := 1, cells := 0, slots := 0, locals := 100 }) (va_Pc [.ref (adK i)] (jPre adK adV z sz)) (va_Qi (fun (r : Int32) (u : Unit) => r = 1) (fun _ _ => True) (va_A [] sz)) 0 0 (va_A [] sz) := by
  refine Met.ofW (cc := cJ0_isLatin1_aae02) (maxL := 1) (ret := (some .boolean)) (by decide) rfl ?_
  intro p e s m args below meth c s₁ B hml hv
  obtain ⟨rfl, hsz, hE0, hz⟩ := hv
  have hx := B.exec
  have hb := B.bytes
  have hr := B.returns
  have hts0 := atoms_spec (ws := .code yJ0_isLatin1_aae02 cJ0_isLatin1_aae02 1 (some .boolean) :: WT) B.pre
  have hts : ∀ w ∈ WT, w.before _ s = true := fun w h => hts0 w (List.mem_cons_of_mem _ h)
  have hown : s.vm.findClass RJ0 = some m.cls := findClass_of_methodNamed B.named
  have hlocks := B.notSynchronized
  subst hsz
  have hAz : ∀ q : Nat, va_A [] s.heap.size q → z ≤ q := fun q h => by
    rcases h with ⟨k9, e9, h9⟩ | h9
    · simp at h9
    · exact Nat.le_trans hz h9
  generalize hAe : va_A [] s.heap.size = A at hAz ⊢
  have hA : ∀ q : Nat, s.heap.size ≤ q → A q := fun q h => by rw [← hAe]; exact Or.inr h
  have hS : va_S A s.heap s.heap [] := va_S.rf
  have hE : vk_S 11 lenS bytS adK adV A s s.heap := hE0.1.narrow hAz
  have hZ : va_Z "java/lang/String" "COMPACT_STRINGS" "Z" (.int 1) A s s.heap := hE0.2.1.narrow hAz
  have hZq : va_Zq "jdk/internal/util/Preconditions" "SIOOBE_FORMATTER" "Ljava/util/function/BiFunction;" A s s.heap := hE0.2.2.1.narrow hAz
  have hl := lv_entry ([.ref (adK i)]) (n := 1) (Nat.le_of_ble_eq_true rfl)
  rw [lg_entry_eq]
  generalize (lg_sl ([.ref (adK i)]) ++ List.replicate (1 - (lg_sl ([.ref (adK i)])).length) Slot.unset).toArray = ls at hl ⊢
  have hl : lv_has ls 1 [(0, .ref (adK i))] := hl
  refine va_gets hx hb hZ hS hown (hts _ t_448) (fun _ h9 => h9) dJ0_isLatin1_aae02_0 ?_
  refine lv_if_eq (tgt := 17) hx hb dJ0_isLatin1_aae02_3 (by decide) (fun c => absurd c (by decide)) (fun _ => ?_)
  refine lv_aload_n hx hb dJ0_isLatin1_aae02_6 rfl (lv_at hl 0 rfl) ?_
  refine vk_getf hx hb (hE.1 i hi).2.1 hS hown (hts _ t_2189) (fun _ h9 => h9) dJ0_isLatin1_aae02_7 ?_
  refine lv_if_ne (tgt := 17) hx hb dJ0_isLatin1_aae02_10 (by decide) (fun c => absurd rfl c) (fun _ => ?_)
  refine lv_iconst (v := 1) hx hb dJ0_isLatin1_aae02_13 (by decide) ?_
  refine lv_goto (tgt := 18) hx hb dJ0_isLatin1_aae02_14 (by decide) ?_
  exact W.zret (v := 1) hx hb hr rfl (fun t ht hW => ⟨⟨1, (), rfl, rfl, trivial⟩, hS.F ht⟩) hS.2.2 dJ0_isLatin1_aae02_18
set_option maxHeartbeats 4000000 in
set_option maxRecDepth 100000 in
theorem c_J3_checkIndex_8e157_n (l : Launch) (i L : Nat) (sz : Nat) (hi : i < L) (hL : L < 2 ^ 31) : Met l yJ3_checkIndex_8e157 (.code yJ3_checkIndex_8e157 cJ3_checkIndex_8e157 3 (some .int) :: WT) ({ frames := 1, cells := 0, slots := 0, locals := 100 }) (va_Pc [.int (nI i), .int (nI L), .null] (oPre sz)) (va_Qi (fun (r : Int32) (u : Unit) => True) (fun _ _ => True) (va_A [] sz)) 0 0 (va_A [] sz) := by
  refine Met.ofW (cc := cJ3_checkIndex_8e157) (maxL := 3) (ret := (some .int)) (by decide) rfl ?_
  intro p e s m args below meth c s₁ B hml hv
  obtain ⟨rfl, hsz⟩ := hv
  have hx := B.exec
  have hb := B.bytes
  have hr := B.returns
  have hts0 := atoms_spec (ws := .code yJ3_checkIndex_8e157 cJ3_checkIndex_8e157 3 (some .int) :: WT) B.pre
  have hts : ∀ w ∈ WT, w.before _ s = true := fun w h => hts0 w (List.mem_cons_of_mem _ h)
  have hown : s.vm.findClass RJ3 = some m.cls := findClass_of_methodNamed B.named
  have hlocks := B.notSynchronized
  subst hsz
  generalize hAe : va_A [] s.heap.size = A at ⊢
  have hA : ∀ q : Nat, s.heap.size ≤ q → A q := fun q h => by rw [← hAe]; exact Or.inr h
  have hS : va_S A s.heap s.heap [] := va_S.rf
  have hl := lv_entry ([.int (nI i), .int (nI L), .null]) (n := 3) (Nat.le_of_ble_eq_true rfl)
  rw [lg_entry_eq]
  generalize (lg_sl ([.int (nI i), .int (nI L), .null]) ++ List.replicate (3 - (lg_sl ([.int (nI i), .int (nI L), .null])).length) Slot.unset).toArray = ls at hl ⊢
  have hl : lv_has ls 3 [(0, .int (nI i)), (1, .int (nI L)), (2, .null)] := hl
  refine lv_iload_n hx hb dJ3_checkIndex_8e157_0 rfl (lv_at hl 0 rfl) ?_
  refine lv_if_lt (tgt := 9) hx hb dJ3_checkIndex_8e157_1 (by decide) (fun c => absurd c (nI_pos (by omega))) (fun _ => ?_)
  refine lv_iload_n hx hb dJ3_checkIndex_8e157_4 rfl (lv_at hl 0 rfl) ?_
  refine lv_iload_n hx hb dJ3_checkIndex_8e157_5 rfl (lv_at hl 1 rfl) ?_
  refine lv_icmp_lt (tgt := 16) hx hb dJ3_checkIndex_8e157_6 (by decide) (fun _ => ?_) (fun c => absurd (nI_lt hi hL) c)
  refine lv_iload_n hx hb dJ3_checkIndex_8e157_16 rfl (lv_at hl 0 rfl) ?_
  exact W.iret (v := (nI i)) hx hb hr (fun t ht hW => ⟨⟨(nI i), (), rfl, trivial, trivial⟩, hS.F ht⟩) hS.2.2 dJ3_checkIndex_8e157_17
set_option maxHeartbeats 4000000 in
set_option maxRecDepth 100000 in
theorem c_J3_checkIndex_8e157_r (l : Launch) (i L : Nat) (t0 : Nat) (sz : Nat) (hi : i < L) (hL : L < 2 ^ 31) : Met l yJ3_checkIndex_8e157 (.code yJ3_checkIndex_8e157 cJ3_checkIndex_8e157 3 (some .int) :: WT) ({ frames := 1, cells := 0, slots := 0, locals := 100 }) (va_Pc [.int (nI i), .int (nI L), .ref t0] (oPre sz)) (va_Qi (fun (r : Int32) (u : Unit) => True) (fun _ _ => True) (va_A [] sz)) 0 0 (va_A [] sz) := by
  refine Met.ofW (cc := cJ3_checkIndex_8e157) (maxL := 3) (ret := (some .int)) (by decide) rfl ?_
  intro p e s m args below meth c s₁ B hml hv
  obtain ⟨rfl, hsz⟩ := hv
  have hx := B.exec
  have hb := B.bytes
  have hr := B.returns
  have hts0 := atoms_spec (ws := .code yJ3_checkIndex_8e157 cJ3_checkIndex_8e157 3 (some .int) :: WT) B.pre
  have hts : ∀ w ∈ WT, w.before _ s = true := fun w h => hts0 w (List.mem_cons_of_mem _ h)
  have hown : s.vm.findClass RJ3 = some m.cls := findClass_of_methodNamed B.named
  have hlocks := B.notSynchronized
  subst hsz
  generalize hAe : va_A [] s.heap.size = A at ⊢
  have hA : ∀ q : Nat, s.heap.size ≤ q → A q := fun q h => by rw [← hAe]; exact Or.inr h
  have hS : va_S A s.heap s.heap [] := va_S.rf
  have hl := lv_entry ([.int (nI i), .int (nI L), .ref t0]) (n := 3) (Nat.le_of_ble_eq_true rfl)
  rw [lg_entry_eq]
  generalize (lg_sl ([.int (nI i), .int (nI L), .ref t0]) ++ List.replicate (3 - (lg_sl ([.int (nI i), .int (nI L), .ref t0])).length) Slot.unset).toArray = ls at hl ⊢
  have hl : lv_has ls 3 [(0, .int (nI i)), (1, .int (nI L)), (2, .ref t0)] := hl
  refine lv_iload_n hx hb dJ3_checkIndex_8e157_0 rfl (lv_at hl 0 rfl) ?_
  refine lv_if_lt (tgt := 9) hx hb dJ3_checkIndex_8e157_1 (by decide) (fun c => absurd c (nI_pos (by omega))) (fun _ => ?_)
  refine lv_iload_n hx hb dJ3_checkIndex_8e157_4 rfl (lv_at hl 0 rfl) ?_
  refine lv_iload_n hx hb dJ3_checkIndex_8e157_5 rfl (lv_at hl 1 rfl) ?_
  refine lv_icmp_lt (tgt := 16) hx hb dJ3_checkIndex_8e157_6 (by decide) (fun _ => ?_) (fun c => absurd (nI_lt hi hL) c)
  refine lv_iload_n hx hb dJ3_checkIndex_8e157_16 rfl (lv_at hl 0 rfl) ?_
  exact W.iret (v := (nI i)) hx hb hr (fun t ht hW => ⟨⟨(nI i), (), rfl, trivial, trivial⟩, hS.F ht⟩) hS.2.2 dJ3_checkIndex_8e157_17
set_option maxHeartbeats 4000000 in
set_option maxRecDepth 100000 in
theorem c_J0_checkIndex_df160 (l : Launch) (adK adV : Nat → Nat) (z i L : Nat) (sz : Nat) (hi : i < L) (hL : L < 2 ^ 31) : Met l yJ0_checkIndex_df160 (.code yJ0_checkIndex_df160 cJ0_checkIndex_df160 2 none :: WT) ({ frames := 2, cells := 0, slots := 0, locals := 200 }) (va_Pc [.int (nI i), .int (nI L)] (jPre adK adV z sz)) (va_Qv (fun _ : Unit => True) (fun _ _ => True) (va_A [] sz)) 0 0 (va_A [] sz) := by
  refine Met.ofW (cc := cJ0_checkIndex_df160) (maxL := 2) (ret := none) (by decide) rfl ?_
  intro p e s m args below meth c s₁ B hml hv
  obtain ⟨rfl, hsz, hE0, hz⟩ := hv
  have hx := B.exec
  have hb := B.bytes
  have hr := B.returns
  have hts0 := atoms_spec (ws := .code yJ0_checkIndex_df160 cJ0_checkIndex_df160 2 none :: WT) B.pre
  have hts : ∀ w ∈ WT, w.before _ s = true := fun w h => hts0 w (List.mem_cons_of_mem _ h)
  have hown : s.vm.findClass RJ0 = some m.cls := findClass_of_methodNamed B.named
  have hlocks := B.notSynchronized
  subst hsz
  have hAz : ∀ q : Nat, va_A [] s.heap.size q → z ≤ q := fun q h => by
    rcases h with ⟨k9, e9, h9⟩ | h9
    · simp at h9
    · exact Nat.le_trans hz h9
  generalize hAe : va_A [] s.heap.size = A at hAz ⊢
  have hA : ∀ q : Nat, s.heap.size ≤ q → A q := fun q h => by rw [← hAe]; exact Or.inr h
  have hS : va_S A s.heap s.heap [] := va_S.rf
  have hE : vk_S 11 lenS bytS adK adV A s s.heap := hE0.1.narrow hAz
  have hZ : va_Z "java/lang/String" "COMPACT_STRINGS" "Z" (.int 1) A s s.heap := hE0.2.1.narrow hAz
  have hZq : va_Zq "jdk/internal/util/Preconditions" "SIOOBE_FORMATTER" "Ljava/util/function/BiFunction;" A s s.heap := hE0.2.2.1.narrow hAz
  have hl := lv_entry ([.int (nI i), .int (nI L)]) (n := 2) (Nat.le_of_ble_eq_true rfl)
  rw [lg_entry_eq]
  generalize (lg_sl ([.int (nI i), .int (nI L)]) ++ List.replicate (2 - (lg_sl ([.int (nI i), .int (nI L)])).length) Slot.unset).toArray = ls at hl ⊢
  have hl : lv_has ls 2 [(0, .int (nI i)), (1, .int (nI L))] := hl
  refine lv_iload_n hx hb dJ0_checkIndex_df160_0 rfl (lv_at hl 0 rfl) ?_
  refine lv_iload_n hx hb dJ0_checkIndex_df160_1 rfl (lv_at hl 1 rfl) ?_
  rcases hZq with hZ0 | ⟨t0, hZ0⟩
  · refine va_gets hx hb hZ0 hS hown (hts _ t_464) (fun _ h9 => h9) dJ0_checkIndex_df160_2 ?_
    have hFc : ∀ q : Nat, va_A [] s.heap.size q → A q := fun q h => by
      rcases h with ⟨k9, e9, h9⟩ | h9
      · simp at h9
      · exact hA q (Nat.le_trans hS.1 h9)
    refine va_calli (va_runS (As := [.int (nI i), .int (nI L), .null]) (rest := []) ⟨hx, hb, hml, hown, hts⟩ (c_J3_checkIndex_8e157_n l i L s.heap.size hi hL) (va_cwS 3 hts (gT t_466 t_467 t_144 t_468) rfl rfl rfl (by decide +kernel) ⟨Nat.le_of_ble_eq_true rfl, Nat.le_of_ble_eq_true rfl⟩) ⟨oBlind, oGo⟩ rfl rfl hl.1 rfl (lv_room (Nat.le_of_ble_eq_true rfl)) dJ0_checkIndex_df160_5 ⟨Nat.le_of_ble_eq_true rfl, Nat.le_of_ble_eq_true rfl⟩) hS (fun q _ h => hFc q h) hFc (fun r u t H1 locs ht hvm hw hB hz1 hk1 hS => ?_)
    refine lv_pop hx hb dJ0_checkIndex_df160_8 rfl ?_
    exact W.vret hx hb hr (fun t ht hW => ⟨⟨(), rfl, trivial, trivial⟩, hS.F ht⟩) hS.2.2 dJ0_checkIndex_df160_9
  · refine va_gets hx hb hZ0 hS hown (hts _ t_464) (fun _ h9 => h9) dJ0_checkIndex_df160_2 ?_
    have hFc : ∀ q : Nat, va_A [] s.heap.size q → A q := fun q h => by
      rcases h with ⟨k9, e9, h9⟩ | h9
      · simp at h9
      · exact hA q (Nat.le_trans hS.1 h9)
    refine va_calli (va_runS (As := [.int (nI i), .int (nI L), .ref t0]) (rest := []) ⟨hx, hb, hml, hown, hts⟩ (c_J3_checkIndex_8e157_r l i L t0 s.heap.size hi hL) (va_cwS 3 hts (gT t_466 t_467 t_144 t_468) rfl rfl rfl (by decide +kernel) ⟨Nat.le_of_ble_eq_true rfl, Nat.le_of_ble_eq_true rfl⟩) ⟨oBlind, oGo⟩ rfl rfl hl.1 rfl (lv_room (Nat.le_of_ble_eq_true rfl)) dJ0_checkIndex_df160_5 ⟨Nat.le_of_ble_eq_true rfl, Nat.le_of_ble_eq_true rfl⟩) hS (fun q _ h => hFc q h) hFc (fun r u t H1 locs ht hvm hw hB hz1 hk1 hS => ?_)
    refine lv_pop hx hb dJ0_checkIndex_df160_8 rfl ?_
    exact W.vret hx hb hr (fun t ht hW => ⟨⟨(), rfl, trivial, trivial⟩, hS.F ht⟩) hS.2.2 dJ0_checkIndex_df160_9
set_option maxHeartbeats 4000000 in
set_option maxRecDepth 100000 in
theorem c_J1_charAt_3b067 (l : Launch) (adK adV : Nat → Nat) (z i k : Nat) (sz : Nat) (hi : i < 11) (hk : k < lenS.getD i 0) : Met l yJ1_charAt_3b067 (.code yJ1_charAt_3b067 cJ1_charAt_3b067 2 (some .char) :: WT) ({ frames := 3, cells := 0, slots := 0, locals := 300 }) (va_Pc [.ref (adV i), .int (nI k)] (jPre adK adV z sz)) (va_Qi (fun (r : Int32) (u : Unit) => r = chS i k) (fun _ _ => True) (va_A [] sz)) 0 0 (va_A [] sz) := by
  refine Met.ofW (cc := cJ1_charAt_3b067) (maxL := 2) (ret := (some .char)) (by decide) rfl ?_
  intro p e s m args below meth c s₁ B hml hv
  obtain ⟨rfl, hsz, hE0, hz⟩ := hv
  have hx := B.exec
  have hb := B.bytes
  have hr := B.returns
  have hts0 := atoms_spec (ws := .code yJ1_charAt_3b067 cJ1_charAt_3b067 2 (some .char) :: WT) B.pre
  have hts : ∀ w ∈ WT, w.before _ s = true := fun w h => hts0 w (List.mem_cons_of_mem _ h)
  have hown : s.vm.findClass RJ1 = some m.cls := findClass_of_methodNamed B.named
  have hlocks := B.notSynchronized
  subst hsz
  have hAz : ∀ q : Nat, va_A [] s.heap.size q → z ≤ q := fun q h => by
    rcases h with ⟨k9, e9, h9⟩ | h9
    · simp at h9
    · exact Nat.le_trans hz h9
  generalize hAe : va_A [] s.heap.size = A at hAz ⊢
  have hA : ∀ q : Nat, s.heap.size ≤ q → A q := fun q h => by rw [← hAe]; exact Or.inr h
  have hS : va_S A s.heap s.heap [] := va_S.rf
  have hE : vk_S 11 lenS bytS adK adV A s s.heap := hE0.1.narrow hAz
  have hZ : va_Z "java/lang/String" "COMPACT_STRINGS" "Z" (.int 1) A s s.heap := hE0.2.1.narrow hAz
  have hZq : va_Zq "jdk/internal/util/Preconditions" "SIOOBE_FORMATTER" "Ljava/util/function/BiFunction;" A s s.heap := hE0.2.2.1.narrow hAz
  have hl := lv_entry ([.ref (adV i), .int (nI k)]) (n := 2) (Nat.le_of_ble_eq_true rfl)
  rw [lg_entry_eq]
  generalize (lg_sl ([.ref (adV i), .int (nI k)]) ++ List.replicate (2 - (lg_sl ([.ref (adV i), .int (nI k)])).length) Slot.unset).toArray = ls at hl ⊢
  have hl : lv_has ls 2 [(0, .ref (adV i)), (1, .int (nI k))] := hl
  have hL := lenS_ok i hi
  refine lv_iload_n hx hb dJ1_charAt_3b067_0 rfl (lv_at hl 1 rfl) ?_
  refine lv_aload_n hx hb dJ1_charAt_3b067_1 rfl (lv_at hl 0 rfl) ?_
  refine va_tlen (v := nI (lenS.getD i 0)) hx hb (hE.1 i hi).2.2.2 hS rfl dJ1_charAt_3b067_2 ?_
  have hFc : ∀ q : Nat, va_A [] s.heap.size q → A q := fun q h => by
    rcases h with ⟨k9, e9, h9⟩ | h9
    · simp at h9
    · exact hA q (Nat.le_trans hS.1 h9)
  refine va_callv (va_runS (As := [.int (nI k), .int (nI (lenS.getD i 0))]) (rest := []) ⟨hx, hb, hml, hown, hts⟩ (c_J0_checkIndex_df160 l adK adV z k (lenS.getD i 0) s.heap.size hk (by omega)) (va_cwS 2 hts (gT t_461 t_462 t_142 t_463) rfl rfl rfl (by decide +kernel) ⟨Nat.le_of_ble_eq_true rfl, Nat.le_of_ble_eq_true rfl⟩) ⟨jBlind, jGo hE0 hAz hS hz⟩ rfl rfl hl.1 rfl (lv_room (Nat.le_of_ble_eq_true rfl)) dJ1_charAt_3b067_3 ⟨Nat.le_of_ble_eq_true rfl, Nat.le_of_ble_eq_true rfl⟩) hS (fun q _ h => hFc q h) hFc (fun u t H1 locs ht hvm hw hB hz1 hk1 hS => ?_)
  refine lv_aload_n hx hb dJ1_charAt_3b067_6 rfl (lv_at hl 0 rfl) ?_
  refine lv_iload_n hx hb dJ1_charAt_3b067_7 rfl (lv_at hl 1 rfl) ?_
  refine va_tb (v := .int ((bytS.getD i []).getD k 0)) hx hb (hE.1 i hi).2.2.2 hS (vp_in_nI hk (by omega)) (by rw [nI_clamp (by omega)]) dJ1_charAt_3b067_8 ?_
  refine lv_sipush (v := 255) hx hb dJ1_charAt_3b067_9 (by decide) ?_
  refine lv_iand hx hb dJ1_charAt_3b067_12 ?_
  refine lv_i2c (v := chS i k) hx hb dJ1_charAt_3b067_13 rfl ?_
  exact W.zret (v := (chS i k)) hx hb hr (pk_nc _) (fun t ht hW => ⟨⟨(chS i k), (), rfl, rfl, trivial⟩, hS.F ht⟩) hS.2.2 dJ1_charAt_3b067_14
set_option maxHeartbeats 4000000 in
set_option maxRecDepth 100000 in
theorem c_J0_charAt_5068e (l : Launch) (adK adV : Nat → Nat) (z i k : Nat) (sz : Nat) (hi : i < 11) (hk : k < lenS.getD i 0) : Met l yJ0_charAt_5068e (.code yJ0_charAt_5068e cJ0_charAt_5068e 2 (some .char) :: WT) ({ frames := 6, cells := 0, slots := 0, locals := 500 }) (va_Pc [.ref (adK i), .int (nI k)] (jPre adK adV z sz)) (va_Qi (fun (r : Int32) (u : Unit) => r = chS i k) (fun _ _ => True) (va_A [] sz)) 0 0 (va_A [] sz) := by
  refine Met.ofW (cc := cJ0_charAt_5068e) (maxL := 2) (ret := (some .char)) (by decide) rfl ?_
  intro p e s m args below meth c s₁ B hml hv
  obtain ⟨rfl, hsz, hE0, hz⟩ := hv
  have hx := B.exec
  have hb := B.bytes
  have hr := B.returns
  have hts0 := atoms_spec (ws := .code yJ0_charAt_5068e cJ0_charAt_5068e 2 (some .char) :: WT) B.pre
  have hts : ∀ w ∈ WT, w.before _ s = true := fun w h => hts0 w (List.mem_cons_of_mem _ h)
  have hown : s.vm.findClass RJ0 = some m.cls := findClass_of_methodNamed B.named
  have hlocks := B.notSynchronized
  subst hsz
  have hAz : ∀ q : Nat, va_A [] s.heap.size q → z ≤ q := fun q h => by
    rcases h with ⟨k9, e9, h9⟩ | h9
    · simp at h9
    · exact Nat.le_trans hz h9
  generalize hAe : va_A [] s.heap.size = A at hAz ⊢
  have hA : ∀ q : Nat, s.heap.size ≤ q → A q := fun q h => by rw [← hAe]; exact Or.inr h
  have hS : va_S A s.heap s.heap [] := va_S.rf
  have hE : vk_S 11 lenS bytS adK adV A s s.heap := hE0.1.narrow hAz
  have hZ : va_Z "java/lang/String" "COMPACT_STRINGS" "Z" (.int 1) A s s.heap := hE0.2.1.narrow hAz
  have hZq : va_Zq "jdk/internal/util/Preconditions" "SIOOBE_FORMATTER" "Ljava/util/function/BiFunction;" A s s.heap := hE0.2.2.1.narrow hAz
  have hl := lv_entry ([.ref (adK i), .int (nI k)]) (n := 2) (Nat.le_of_ble_eq_true rfl)
  rw [lg_entry_eq]
  generalize (lg_sl ([.ref (adK i), .int (nI k)]) ++ List.replicate (2 - (lg_sl ([.ref (adK i), .int (nI k)])).length) Slot.unset).toArray = ls at hl ⊢
  have hl : lv_has ls 2 [(0, .ref (adK i)), (1, .int (nI k))] := hl
  refine lv_aload_n hx hb dJ0_charAt_5068e_0 rfl (lv_at hl 0 rfl) ?_
  have hFc : ∀ q : Nat, va_A [] s.heap.size q → A q := fun q h => by
    rcases h with ⟨k9, e9, h9⟩ | h9
    · simp at h9
    · exact hA q (Nat.le_trans hS.1 h9)
  refine va_calli (va_runV (As := []) (rest := []) ⟨hx, hb, hml, hown, hts⟩ (c_J0_isLatin1_aae02 l adK adV z i s.heap.size hi) (cwV 0 hts (gV t_454 t_455 t_456 t_142 t_457) rfl rfl rfl (by decide +kernel) ⟨Nat.le_of_ble_eq_true rfl, Nat.le_of_ble_eq_true rfl⟩) ⟨jBlind, vk_recv hE hi hS, jGo hE0 hAz hS hz⟩ rfl rfl hl.1 rfl (lv_room (Nat.le_of_ble_eq_true rfl)) dJ0_charAt_5068e_1 ⟨Nat.le_of_ble_eq_true rfl, Nat.le_of_ble_eq_true rfl⟩) hS (fun q _ h => hFc q h) hFc (fun r1 u t H1 locs ht hvm hw hB hz1 hk1 hS => ?_)
  refine lv_if_eq (tgt := 16) hx hb dJ0_charAt_5068e_4 (by decide) (fun c => absurd (hw.symm.trans c) (by decide)) (fun _ => ?_)
  refine lv_aload_n hx hb dJ0_charAt_5068e_7 rfl (lv_at hl 0 rfl) ?_
  refine vk_getf hx hb (hE.1 i hi).2.2.1 hS hown (hts _ t_2188) (fun _ h9 => h9) dJ0_charAt_5068e_8 ?_
  refine lv_iload_n hx hb dJ0_charAt_5068e_11 rfl (lv_at hl 1 rfl) ?_
  have hFc : ∀ q : Nat, va_A [] H1.size q → A q := fun q h => by
    rcases h with ⟨k9, e9, h9⟩ | h9
    · simp at h9
    · exact hA q (Nat.le_trans hS.1 h9)
  refine va_calli (va_runS (As := [.ref (adV i), .int (nI k)]) (rest := []) ⟨hx, hb, hml, hown, hts⟩ (c_J1_charAt_3b067 l adK adV z i k H1.size hi hk) (va_cwS 2 hts (gT t_458 t_459 t_143 t_460) rfl rfl rfl (by decide +kernel) ⟨Nat.le_of_ble_eq_true rfl, Nat.le_of_ble_eq_true rfl⟩) ⟨jBlind, jGo hE0 hAz hS hz⟩ rfl rfl hl.1 rfl (lv_room (Nat.le_of_ble_eq_true rfl)) dJ0_charAt_5068e_12 ⟨Nat.le_of_ble_eq_true rfl, Nat.le_of_ble_eq_true rfl⟩) hS (fun q _ h => hFc q h) hFc (fun r2 u t H1 locs ht hvm hw hB hz1 hk1 hS => ?_)
  exact W.zret (v := r2) hx hb hr (by rw [hw]; exact pk_nc _) (fun t ht hW => ⟨⟨r2, (), rfl, hw, trivial⟩, hS.F ht⟩) hS.2.2 dJ0_charAt_5068e_15
set_option maxHeartbeats 4000000 in
set_option maxRecDepth 100000 in
theorem c_J0_length_8abf5 (l : Launch) (adK adV : Nat → Nat) (z i : Nat) (sz : Nat) (hi : i < 11) : Met l yJ0_length_8abf5 (.code yJ0_length_8abf5 cJ0_length_8abf5 1 (some .int) :: WT) ({ frames := 6, cells := 0, slots := 0, locals := 500 }) (va_Pc [.ref (adK i)] (jPre adK adV z sz)) (va_Qi (fun (r : Int32) (u : Unit) => r = nI (lenS.getD i 0)) (fun _ _ => True) (va_A [] sz)) 0 0 (va_A [] sz) := by
  refine Met.ofW (cc := cJ0_length_8abf5) (maxL := 1) (ret := (some .int)) (by decide) rfl ?_
  intro p e s m args below meth c s₁ B hml hv
  obtain ⟨rfl, hsz, hE0, hz⟩ := hv
  have hx := B.exec
  have hb := B.bytes
  have hr := B.returns
  have hts0 := atoms_spec (ws := .code yJ0_length_8abf5 cJ0_length_8abf5 1 (some .int) :: WT) B.pre
  have hts : ∀ w ∈ WT, w.before _ s = true := fun w h => hts0 w (List.mem_cons_of_mem _ h)
  have hown : s.vm.findClass RJ0 = some m.cls := findClass_of_methodNamed B.named
  have hlocks := B.notSynchronized
  subst hsz
  have hAz : ∀ q : Nat, va_A [] s.heap.size q → z ≤ q := fun q h => by
    rcases h with ⟨k9, e9, h9⟩ | h9
    · simp at h9
    · exact Nat.le_trans hz h9
  generalize hAe : va_A [] s.heap.size = A at hAz ⊢
  have hA : ∀ q : Nat, s.heap.size ≤ q → A q := fun q h => by rw [← hAe]; exact Or.inr h
  have hS : va_S A s.heap s.heap [] := va_S.rf
  have hE : vk_S 11 lenS bytS adK adV A s s.heap := hE0.1.narrow hAz
  have hZ : va_Z "java/lang/String" "COMPACT_STRINGS" "Z" (.int 1) A s s.heap := hE0.2.1.narrow hAz
  have hZq : va_Zq "jdk/internal/util/Preconditions" "SIOOBE_FORMATTER" "Ljava/util/function/BiFunction;" A s s.heap := hE0.2.2.1.narrow hAz
  have hl := lv_entry ([.ref (adK i)]) (n := 1) (Nat.le_of_ble_eq_true rfl)
  rw [lg_entry_eq]
  generalize (lg_sl ([.ref (adK i)]) ++ List.replicate (1 - (lg_sl ([.ref (adK i)])).length) Slot.unset).toArray = ls at hl ⊢
  have hl : lv_has ls 1 [(0, .ref (adK i))] := hl
  have hL := lenS_ok i hi
  refine lv_aload_n hx hb dJ0_length_8abf5_0 rfl (lv_at hl 0 rfl) ?_
  refine vk_getf hx hb (hE.1 i hi).2.2.1 hS hown (hts _ t_2188) (fun _ h9 => h9) dJ0_length_8abf5_1 ?_
  refine va_tlen (v := nI (lenS.getD i 0)) hx hb (hE.1 i hi).2.2.2 hS rfl dJ0_length_8abf5_4 ?_
  refine lv_aload_n hx hb dJ0_length_8abf5_5 rfl (lv_at hl 0 rfl) ?_
  have hFc : ∀ q : Nat, va_A [] s.heap.size q → A q := fun q h => by
    rcases h with ⟨k9, e9, h9⟩ | h9
    · simp at h9
    · exact hA q (Nat.le_trans hS.1 h9)
  refine va_calli (va_runV (As := []) (rest := [.int (nI (lenS.getD i 0))]) ⟨hx, hb, hml, hown, hts⟩ (c_J0_coder_7d493 l adK adV z i s.heap.size hi) (cwV 0 hts (gV t_444 t_445 t_446 t_142 t_447) rfl rfl rfl (by decide +kernel) ⟨Nat.le_of_ble_eq_true rfl, Nat.le_of_ble_eq_true rfl⟩) ⟨jBlind, vk_recv hE hi hS, jGo hE0 hAz hS hz⟩ rfl rfl hl.1 rfl (lv_room (Nat.le_of_ble_eq_true rfl)) dJ0_length_8abf5_6 ⟨Nat.le_of_ble_eq_true rfl, Nat.le_of_ble_eq_true rfl⟩) hS (fun q _ h => hFc q h) hFc (fun r1 u t H1 locs ht hvm hw hB hz1 hk1 hS => ?_)
  refine lv_ishr hx hb dJ0_length_8abf5_9 ?_
  refine lv_topi (fun f9 e9 => ?_)
  exact W.iret (v := f9) hx hb hr (fun t ht hW => ⟨⟨f9, (), rfl, (by rw [e9, hw]; exact sc_shr0 (by omega)), trivial⟩, hS.F ht⟩) hS.2.2 dJ0_length_8abf5_10
set_option maxHeartbeats 4000000 in
set_option maxRecDepth 100000 in
theorem c_X7_spell_0 (l : Launch) (adK adV : Nat → Nat) (z : Nat) (sz : Nat) : Met l yX7_spell (.code yX7_spell cX7_spell 3 (some .int) :: WT) ({ frames := 8, cells := 0, slots := 0, locals := 700 }) (va_Pc [.ref (adK 0)] (jPre adK adV z sz)) (va_Qi (fun (r : Int32) (u : Unit) => r = 162899424) (fun _ _ => True) (va_A [] sz)) 0 0 (va_A [] sz) := by
  refine Met.ofW (cc := cX7_spell) (maxL := 3) (ret := (some .int)) (by decide) rfl ?_
  intro p e s m args below meth c s₁ B hml hv
  obtain ⟨rfl, hsz, hE0, hz⟩ := hv
  have hx := B.exec
  have hb := B.bytes
  have hr := B.returns
  have hts0 := atoms_spec (ws := .code yX7_spell cX7_spell 3 (some .int) :: WT) B.pre
  have hts : ∀ w ∈ WT, w.before _ s = true := fun w h => hts0 w (List.mem_cons_of_mem _ h)
  have hown : s.vm.findClass RX7 = some m.cls := findClass_of_methodNamed B.named
  have hlocks := B.notSynchronized
  subst hsz
  have hAz : ∀ q : Nat, va_A [] s.heap.size q → z ≤ q := fun q h => by
    rcases h with ⟨k9, e9, h9⟩ | h9
    · simp at h9
    · exact Nat.le_trans hz h9
  generalize hAe : va_A [] s.heap.size = A at hAz ⊢
  have hA : ∀ q : Nat, s.heap.size ≤ q → A q := fun q h => by rw [← hAe]; exact Or.inr h
  have hS : va_S A s.heap s.heap [] := va_S.rf
  have hE : vk_S 11 lenS bytS adK adV A s s.heap := hE0.1.narrow hAz
  have hZ : va_Z "java/lang/String" "COMPACT_STRINGS" "Z" (.int 1) A s s.heap := hE0.2.1.narrow hAz
  have hZq : va_Zq "jdk/internal/util/Preconditions" "SIOOBE_FORMATTER" "Ljava/util/function/BiFunction;" A s s.heap := hE0.2.2.1.narrow hAz
  have hl := lv_entry ([.ref (adK 0)]) (n := 3) (Nat.le_of_ble_eq_true rfl)
  rw [lg_entry_eq]
  generalize (lg_sl ([.ref (adK 0)]) ++ List.replicate (3 - (lg_sl ([.ref (adK 0)])).length) Slot.unset).toArray = ls at hl ⊢
  have hl : lv_has ls 3 [(0, .ref (adK 0))] := hl
  refine lv_iconst (v := 0) hx hb dX7_spell_0 (by decide) ?_
  refine lv_istore_n (lv' := [(1, .int 0), (0, .ref (adK 0))]) hx hb dX7_spell_1 rfl hl (by decide) rfl (fun ls hl => ?_)
  refine lv_iconst (v := 0) hx hb dX7_spell_2 (by decide) ?_
  refine lv_istore_n (lv' := [(2, .int 0), (1, .int 0), (0, .ref (adK 0))]) hx hb dX7_spell_3 rfl hl (by decide) rfl (fun ls hl => ?_)
  refine lv_iload_n hx hb dX7_spell_4 rfl (lv_at hl 0 rfl) ?_
  refine lv_bipush (v := 6) hx hb dX7_spell_5 (by decide) ?_
  refine lv_icmp_ge (tgt := 44) hx hb dX7_spell_7 (by decide) (fun c => absurd c (by decide)) (fun _ => ?_)
  refine lv_iload_n hx hb dX7_spell_10 rfl (lv_at hl 1 rfl) ?_
  refine lv_bipush (v := 27) hx hb dX7_spell_11 (by decide) ?_
  refine k_imul (v := 0) hx hb (by decide) dX7_spell_13 ?_
  refine lv_iload_n hx hb dX7_spell_14 rfl (lv_at hl 0 rfl) ?_
  refine lv_aload_n hx hb dX7_spell_15 rfl (lv_at hl 2 rfl) ?_
  have hFc : ∀ q : Nat, va_A [] s.heap.size q → A q := fun q h => by
    rcases h with ⟨k9, e9, h9⟩ | h9
    · simp at h9
    · exact hA q (Nat.le_trans hS.1 h9)
  refine va_calli (va_runV (As := []) (rest := [.int 0, .int 0]) ⟨hx, hb, hml, hown, hts⟩ (c_J0_length_8abf5 l adK adV z 0 s.heap.size (by decide)) (cwV 0 hts (gV t_440 t_441 t_442 t_142 t_443) rfl rfl rfl (by decide +kernel) ⟨Nat.le_of_ble_eq_true rfl, Nat.le_of_ble_eq_true rfl⟩) ⟨jBlind, vk_recv (i := 0) hE (by decide) hS, jGo hE0 hAz hS hz⟩ rfl rfl hl.1 rfl (lv_room (Nat.le_of_ble_eq_true rfl)) dX7_spell_16 ⟨Nat.le_of_ble_eq_true rfl, Nat.le_of_ble_eq_true rfl⟩) hS (fun q _ h => hFc q h) hFc (fun r9 u t H1 locs ht hvm hw hB hz1 hk1 hS => ?_)
  obtain rfl : r9 = 4 := hw.trans (by decide)
  refine lv_icmp_ge (tgt := 35) hx hb dX7_spell_19 (by decide) (fun c => absurd c (by decide)) (fun _ => ?_)
  refine lv_aload_n hx hb dX7_spell_22 rfl (lv_at hl 2 rfl) ?_
  refine lv_iload_n hx hb dX7_spell_23 rfl (lv_at hl 0 rfl) ?_
  have hFc : ∀ q : Nat, va_A [] H1.size q → A q := fun q h => by
    rcases h with ⟨k9, e9, h9⟩ | h9
    · simp at h9
    · exact hA q (Nat.le_trans hS.1 h9)
  refine va_calli (va_runV (As := [.int (nI 0)]) (rest := [.int 0]) ⟨hx, hb, hml, hown, hts⟩ (c_J0_charAt_5068e l adK adV z 0 0 H1.size (by decide) (by decide)) (cwV 1 hts (gV t_450 t_451 t_452 t_142 t_453) rfl rfl rfl (by decide +kernel) ⟨Nat.le_of_ble_eq_true rfl, Nat.le_of_ble_eq_true rfl⟩) ⟨jBlind, vk_recv (i := 0) hE (by decide) hS, jGo hE0 hAz hS hz⟩ rfl rfl hl.1 rfl (lv_room (Nat.le_of_ble_eq_true rfl)) dX7_spell_24 ⟨Nat.le_of_ble_eq_true rfl, Nat.le_of_ble_eq_true rfl⟩) hS (fun q _ h => hFc q h) hFc (fun r9 u t H1 locs ht hvm hw hB hz1 hk1 hS => ?_)
  obtain rfl : r9 = 107 := hw.trans (by decide)
  refine lv_bipush (v := 97) hx hb dX7_spell_27 (by decide) ?_
  refine k_isub (v := 10) hx hb (by decide) dX7_spell_29 ?_
  refine lv_iconst (v := 1) hx hb dX7_spell_30 (by decide) ?_
  refine k_iadd (v := 11) hx hb (by decide) dX7_spell_31 ?_
  refine lv_goto (tgt := 36) hx hb dX7_spell_32 (by decide) ?_
  refine k_iadd (v := 11) hx hb (by decide) dX7_spell_36 ?_
  refine lv_istore_n (lv' := [(1, .int 11), (2, .int 0), (0, .ref (adK 0))]) hx hb dX7_spell_37 rfl hl (by decide) rfl (fun ls hl => ?_)
  refine lv_iinc (v := 1) (lv' := [(2, .int 1), (1, .int 11), (0, .ref (adK 0))]) hx hb dX7_spell_38 hl (k := 1) rfl (by decide) (by decide) rfl (fun ls hl => ?_)
  refine lv_goto (tgt := 4) hx hb dX7_spell_41 (by decide) ?_
  refine lv_iload_n hx hb dX7_spell_4 rfl (lv_at hl 0 rfl) ?_
  refine lv_bipush (v := 6) hx hb dX7_spell_5 (by decide) ?_
  refine lv_icmp_ge (tgt := 44) hx hb dX7_spell_7 (by decide) (fun c => absurd c (by decide)) (fun _ => ?_)
  refine lv_iload_n hx hb dX7_spell_10 rfl (lv_at hl 1 rfl) ?_
  refine lv_bipush (v := 27) hx hb dX7_spell_11 (by decide) ?_
  refine k_imul (v := 297) hx hb (by decide) dX7_spell_13 ?_
  refine lv_iload_n hx hb dX7_spell_14 rfl (lv_at hl 0 rfl) ?_
  refine lv_aload_n hx hb dX7_spell_15 rfl (lv_at hl 2 rfl) ?_
  have hFc : ∀ q : Nat, va_A [] H1.size q → A q := fun q h => by
    rcases h with ⟨k9, e9, h9⟩ | h9
    · simp at h9
    · exact hA q (Nat.le_trans hS.1 h9)
  refine va_calli (va_runV (As := []) (rest := [.int 1, .int 297]) ⟨hx, hb, hml, hown, hts⟩ (c_J0_length_8abf5 l adK adV z 0 H1.size (by decide)) (cwV 0 hts (gV t_440 t_441 t_442 t_142 t_443) rfl rfl rfl (by decide +kernel) ⟨Nat.le_of_ble_eq_true rfl, Nat.le_of_ble_eq_true rfl⟩) ⟨jBlind, vk_recv (i := 0) hE (by decide) hS, jGo hE0 hAz hS hz⟩ rfl rfl hl.1 rfl (lv_room (Nat.le_of_ble_eq_true rfl)) dX7_spell_16 ⟨Nat.le_of_ble_eq_true rfl, Nat.le_of_ble_eq_true rfl⟩) hS (fun q _ h => hFc q h) hFc (fun r9 u t H1 locs ht hvm hw hB hz1 hk1 hS => ?_)
  obtain rfl : r9 = 4 := hw.trans (by decide)
  refine lv_icmp_ge (tgt := 35) hx hb dX7_spell_19 (by decide) (fun c => absurd c (by decide)) (fun _ => ?_)
  refine lv_aload_n hx hb dX7_spell_22 rfl (lv_at hl 2 rfl) ?_
  refine lv_iload_n hx hb dX7_spell_23 rfl (lv_at hl 0 rfl) ?_
  have hFc : ∀ q : Nat, va_A [] H1.size q → A q := fun q h => by
    rcases h with ⟨k9, e9, h9⟩ | h9
    · simp at h9
    · exact hA q (Nat.le_trans hS.1 h9)
  refine va_calli (va_runV (As := [.int (nI 1)]) (rest := [.int 297]) ⟨hx, hb, hml, hown, hts⟩ (c_J0_charAt_5068e l adK adV z 0 1 H1.size (by decide) (by decide)) (cwV 1 hts (gV t_450 t_451 t_452 t_142 t_453) rfl rfl rfl (by decide +kernel) ⟨Nat.le_of_ble_eq_true rfl, Nat.le_of_ble_eq_true rfl⟩) ⟨jBlind, vk_recv (i := 0) hE (by decide) hS, jGo hE0 hAz hS hz⟩ rfl rfl hl.1 rfl (lv_room (Nat.le_of_ble_eq_true rfl)) dX7_spell_24 ⟨Nat.le_of_ble_eq_true rfl, Nat.le_of_ble_eq_true rfl⟩) hS (fun q _ h => hFc q h) hFc (fun r9 u t H1 locs ht hvm hw hB hz1 hk1 hS => ?_)
  obtain rfl : r9 = 105 := hw.trans (by decide)
  refine lv_bipush (v := 97) hx hb dX7_spell_27 (by decide) ?_
  refine k_isub (v := 8) hx hb (by decide) dX7_spell_29 ?_
  refine lv_iconst (v := 1) hx hb dX7_spell_30 (by decide) ?_
  refine k_iadd (v := 9) hx hb (by decide) dX7_spell_31 ?_
  refine lv_goto (tgt := 36) hx hb dX7_spell_32 (by decide) ?_
  refine k_iadd (v := 306) hx hb (by decide) dX7_spell_36 ?_
  refine lv_istore_n (lv' := [(1, .int 306), (2, .int 1), (0, .ref (adK 0))]) hx hb dX7_spell_37 rfl hl (by decide) rfl (fun ls hl => ?_)
  refine lv_iinc (v := 2) (lv' := [(2, .int 2), (1, .int 306), (0, .ref (adK 0))]) hx hb dX7_spell_38 hl (k := 1) rfl (by decide) (by decide) rfl (fun ls hl => ?_)
  refine lv_goto (tgt := 4) hx hb dX7_spell_41 (by decide) ?_
  refine lv_iload_n hx hb dX7_spell_4 rfl (lv_at hl 0 rfl) ?_
  refine lv_bipush (v := 6) hx hb dX7_spell_5 (by decide) ?_
  refine lv_icmp_ge (tgt := 44) hx hb dX7_spell_7 (by decide) (fun c => absurd c (by decide)) (fun _ => ?_)
  refine lv_iload_n hx hb dX7_spell_10 rfl (lv_at hl 1 rfl) ?_
  refine lv_bipush (v := 27) hx hb dX7_spell_11 (by decide) ?_
  refine k_imul (v := 8262) hx hb (by decide) dX7_spell_13 ?_
  refine lv_iload_n hx hb dX7_spell_14 rfl (lv_at hl 0 rfl) ?_
  refine lv_aload_n hx hb dX7_spell_15 rfl (lv_at hl 2 rfl) ?_
  have hFc : ∀ q : Nat, va_A [] H1.size q → A q := fun q h => by
    rcases h with ⟨k9, e9, h9⟩ | h9
    · simp at h9
    · exact hA q (Nat.le_trans hS.1 h9)
  refine va_calli (va_runV (As := []) (rest := [.int 2, .int 8262]) ⟨hx, hb, hml, hown, hts⟩ (c_J0_length_8abf5 l adK adV z 0 H1.size (by decide)) (cwV 0 hts (gV t_440 t_441 t_442 t_142 t_443) rfl rfl rfl (by decide +kernel) ⟨Nat.le_of_ble_eq_true rfl, Nat.le_of_ble_eq_true rfl⟩) ⟨jBlind, vk_recv (i := 0) hE (by decide) hS, jGo hE0 hAz hS hz⟩ rfl rfl hl.1 rfl (lv_room (Nat.le_of_ble_eq_true rfl)) dX7_spell_16 ⟨Nat.le_of_ble_eq_true rfl, Nat.le_of_ble_eq_true rfl⟩) hS (fun q _ h => hFc q h) hFc (fun r9 u t H1 locs ht hvm hw hB hz1 hk1 hS => ?_)
  obtain rfl : r9 = 4 := hw.trans (by decide)
  refine lv_icmp_ge (tgt := 35) hx hb dX7_spell_19 (by decide) (fun c => absurd c (by decide)) (fun _ => ?_)
  refine lv_aload_n hx hb dX7_spell_22 rfl (lv_at hl 2 rfl) ?_
  refine lv_iload_n hx hb dX7_spell_23 rfl (lv_at hl 0 rfl) ?_
  have hFc : ∀ q : Nat, va_A [] H1.size q → A q := fun q h => by
    rcases h with ⟨k9, e9, h9⟩ | h9
    · simp at h9
    · exact hA q (Nat.le_trans hS.1 h9)
  refine va_calli (va_runV (As := [.int (nI 2)]) (rest := [.int 8262]) ⟨hx, hb, hml, hown, hts⟩ (c_J0_charAt_5068e l adK adV z 0 2 H1.size (by decide) (by decide)) (cwV 1 hts (gV t_450 t_451 t_452 t_142 t_453) rfl rfl rfl (by decide +kernel) ⟨Nat.le_of_ble_eq_true rfl, Nat.le_of_ble_eq_true rfl⟩) ⟨jBlind, vk_recv (i := 0) hE (by decide) hS, jGo hE0 hAz hS hz⟩ rfl rfl hl.1 rfl (lv_room (Nat.le_of_ble_eq_true rfl)) dX7_spell_24 ⟨Nat.le_of_ble_eq_true rfl, Nat.le_of_ble_eq_true rfl⟩) hS (fun q _ h => hFc q h) hFc (fun r9 u t H1 locs ht hvm hw hB hz1 hk1 hS => ?_)
  obtain rfl : r9 = 110 := hw.trans (by decide)
  refine lv_bipush (v := 97) hx hb dX7_spell_27 (by decide) ?_
  refine k_isub (v := 13) hx hb (by decide) dX7_spell_29 ?_
  refine lv_iconst (v := 1) hx hb dX7_spell_30 (by decide) ?_
  refine k_iadd (v := 14) hx hb (by decide) dX7_spell_31 ?_
  refine lv_goto (tgt := 36) hx hb dX7_spell_32 (by decide) ?_
  refine k_iadd (v := 8276) hx hb (by decide) dX7_spell_36 ?_
  refine lv_istore_n (lv' := [(1, .int 8276), (2, .int 2), (0, .ref (adK 0))]) hx hb dX7_spell_37 rfl hl (by decide) rfl (fun ls hl => ?_)
  refine lv_iinc (v := 3) (lv' := [(2, .int 3), (1, .int 8276), (0, .ref (adK 0))]) hx hb dX7_spell_38 hl (k := 1) rfl (by decide) (by decide) rfl (fun ls hl => ?_)
  refine lv_goto (tgt := 4) hx hb dX7_spell_41 (by decide) ?_
  refine lv_iload_n hx hb dX7_spell_4 rfl (lv_at hl 0 rfl) ?_
  refine lv_bipush (v := 6) hx hb dX7_spell_5 (by decide) ?_
  refine lv_icmp_ge (tgt := 44) hx hb dX7_spell_7 (by decide) (fun c => absurd c (by decide)) (fun _ => ?_)
  refine lv_iload_n hx hb dX7_spell_10 rfl (lv_at hl 1 rfl) ?_
  refine lv_bipush (v := 27) hx hb dX7_spell_11 (by decide) ?_
  refine k_imul (v := 223452) hx hb (by decide) dX7_spell_13 ?_
  refine lv_iload_n hx hb dX7_spell_14 rfl (lv_at hl 0 rfl) ?_
  refine lv_aload_n hx hb dX7_spell_15 rfl (lv_at hl 2 rfl) ?_
  have hFc : ∀ q : Nat, va_A [] H1.size q → A q := fun q h => by
    rcases h with ⟨k9, e9, h9⟩ | h9
    · simp at h9
    · exact hA q (Nat.le_trans hS.1 h9)
  refine va_calli (va_runV (As := []) (rest := [.int 3, .int 223452]) ⟨hx, hb, hml, hown, hts⟩ (c_J0_length_8abf5 l adK adV z 0 H1.size (by decide)) (cwV 0 hts (gV t_440 t_441 t_442 t_142 t_443) rfl rfl rfl (by decide +kernel) ⟨Nat.le_of_ble_eq_true rfl, Nat.le_of_ble_eq_true rfl⟩) ⟨jBlind, vk_recv (i := 0) hE (by decide) hS, jGo hE0 hAz hS hz⟩ rfl rfl hl.1 rfl (lv_room (Nat.le_of_ble_eq_true rfl)) dX7_spell_16 ⟨Nat.le_of_ble_eq_true rfl, Nat.le_of_ble_eq_true rfl⟩) hS (fun q _ h => hFc q h) hFc (fun r9 u t H1 locs ht hvm hw hB hz1 hk1 hS => ?_)
  obtain rfl : r9 = 4 := hw.trans (by decide)
  refine lv_icmp_ge (tgt := 35) hx hb dX7_spell_19 (by decide) (fun c => absurd c (by decide)) (fun _ => ?_)
  refine lv_aload_n hx hb dX7_spell_22 rfl (lv_at hl 2 rfl) ?_
  refine lv_iload_n hx hb dX7_spell_23 rfl (lv_at hl 0 rfl) ?_
  have hFc : ∀ q : Nat, va_A [] H1.size q → A q := fun q h => by
    rcases h with ⟨k9, e9, h9⟩ | h9
    · simp at h9
    · exact hA q (Nat.le_trans hS.1 h9)
  refine va_calli (va_runV (As := [.int (nI 3)]) (rest := [.int 223452]) ⟨hx, hb, hml, hown, hts⟩ (c_J0_charAt_5068e l adK adV z 0 3 H1.size (by decide) (by decide)) (cwV 1 hts (gV t_450 t_451 t_452 t_142 t_453) rfl rfl rfl (by decide +kernel) ⟨Nat.le_of_ble_eq_true rfl, Nat.le_of_ble_eq_true rfl⟩) ⟨jBlind, vk_recv (i := 0) hE (by decide) hS, jGo hE0 hAz hS hz⟩ rfl rfl hl.1 rfl (lv_room (Nat.le_of_ble_eq_true rfl)) dX7_spell_24 ⟨Nat.le_of_ble_eq_true rfl, Nat.le_of_ble_eq_true rfl⟩) hS (fun q _ h => hFc q h) hFc (fun r9 u t H1 locs ht hvm hw hB hz1 hk1 hS => ?_)
  obtain rfl : r9 = 100 := hw.trans (by decide)
  refine lv_bipush (v := 97) hx hb dX7_spell_27 (by decide) ?_
  refine k_isub (v := 3) hx hb (by decide) dX7_spell_29 ?_
  refine lv_iconst (v := 1) hx hb dX7_spell_30 (by decide) ?_
  refine k_iadd (v := 4) hx hb (by decide) dX7_spell_31 ?_
  refine lv_goto (tgt := 36) hx hb dX7_spell_32 (by decide) ?_
  refine k_iadd (v := 223456) hx hb (by decide) dX7_spell_36 ?_
  refine lv_istore_n (lv' := [(1, .int 223456), (2, .int 3), (0, .ref (adK 0))]) hx hb dX7_spell_37 rfl hl (by decide) rfl (fun ls hl => ?_)
  refine lv_iinc (v := 4) (lv' := [(2, .int 4), (1, .int 223456), (0, .ref (adK 0))]) hx hb dX7_spell_38 hl (k := 1) rfl (by decide) (by decide) rfl (fun ls hl => ?_)
  refine lv_goto (tgt := 4) hx hb dX7_spell_41 (by decide) ?_
  refine lv_iload_n hx hb dX7_spell_4 rfl (lv_at hl 0 rfl) ?_
  refine lv_bipush (v := 6) hx hb dX7_spell_5 (by decide) ?_
  refine lv_icmp_ge (tgt := 44) hx hb dX7_spell_7 (by decide) (fun c => absurd c (by decide)) (fun _ => ?_)
  refine lv_iload_n hx hb dX7_spell_10 rfl (lv_at hl 1 rfl) ?_
  refine lv_bipush (v := 27) hx hb dX7_spell_11 (by decide) ?_
  refine k_imul (v := 6033312) hx hb (by decide) dX7_spell_13 ?_
  refine lv_iload_n hx hb dX7_spell_14 rfl (lv_at hl 0 rfl) ?_
  refine lv_aload_n hx hb dX7_spell_15 rfl (lv_at hl 2 rfl) ?_
  have hFc : ∀ q : Nat, va_A [] H1.size q → A q := fun q h => by
    rcases h with ⟨k9, e9, h9⟩ | h9
    · simp at h9
    · exact hA q (Nat.le_trans hS.1 h9)
  refine va_calli (va_runV (As := []) (rest := [.int 4, .int 6033312]) ⟨hx, hb, hml, hown, hts⟩ (c_J0_length_8abf5 l adK adV z 0 H1.size (by decide)) (cwV 0 hts (gV t_440 t_441 t_442 t_142 t_443) rfl rfl rfl (by decide +kernel) ⟨Nat.le_of_ble_eq_true rfl, Nat.le_of_ble_eq_true rfl⟩) ⟨jBlind, vk_recv (i := 0) hE (by decide) hS, jGo hE0 hAz hS hz⟩ rfl rfl hl.1 rfl (lv_room (Nat.le_of_ble_eq_true rfl)) dX7_spell_16 ⟨Nat.le_of_ble_eq_true rfl, Nat.le_of_ble_eq_true rfl⟩) hS (fun q _ h => hFc q h) hFc (fun r9 u t H1 locs ht hvm hw hB hz1 hk1 hS => ?_)
  obtain rfl : r9 = 4 := hw.trans (by decide)
  refine lv_icmp_ge (tgt := 35) hx hb dX7_spell_19 (by decide) (fun _ => ?_) (fun c => absurd (by decide) c)
  refine lv_iconst (v := 0) hx hb dX7_spell_35 (by decide) ?_
  refine k_iadd (v := 6033312) hx hb (by decide) dX7_spell_36 ?_
  refine lv_istore_n (lv' := [(1, .int 6033312), (2, .int 4), (0, .ref (adK 0))]) hx hb dX7_spell_37 rfl hl (by decide) rfl (fun ls hl => ?_)
  refine lv_iinc (v := 5) (lv' := [(2, .int 5), (1, .int 6033312), (0, .ref (adK 0))]) hx hb dX7_spell_38 hl (k := 1) rfl (by decide) (by decide) rfl (fun ls hl => ?_)
  refine lv_goto (tgt := 4) hx hb dX7_spell_41 (by decide) ?_
  refine lv_iload_n hx hb dX7_spell_4 rfl (lv_at hl 0 rfl) ?_
  refine lv_bipush (v := 6) hx hb dX7_spell_5 (by decide) ?_
  refine lv_icmp_ge (tgt := 44) hx hb dX7_spell_7 (by decide) (fun c => absurd c (by decide)) (fun _ => ?_)
  refine lv_iload_n hx hb dX7_spell_10 rfl (lv_at hl 1 rfl) ?_
  refine lv_bipush (v := 27) hx hb dX7_spell_11 (by decide) ?_
  refine k_imul (v := 162899424) hx hb (by decide) dX7_spell_13 ?_
  refine lv_iload_n hx hb dX7_spell_14 rfl (lv_at hl 0 rfl) ?_
  refine lv_aload_n hx hb dX7_spell_15 rfl (lv_at hl 2 rfl) ?_
  have hFc : ∀ q : Nat, va_A [] H1.size q → A q := fun q h => by
    rcases h with ⟨k9, e9, h9⟩ | h9
    · simp at h9
    · exact hA q (Nat.le_trans hS.1 h9)
  refine va_calli (va_runV (As := []) (rest := [.int 5, .int 162899424]) ⟨hx, hb, hml, hown, hts⟩ (c_J0_length_8abf5 l adK adV z 0 H1.size (by decide)) (cwV 0 hts (gV t_440 t_441 t_442 t_142 t_443) rfl rfl rfl (by decide +kernel) ⟨Nat.le_of_ble_eq_true rfl, Nat.le_of_ble_eq_true rfl⟩) ⟨jBlind, vk_recv (i := 0) hE (by decide) hS, jGo hE0 hAz hS hz⟩ rfl rfl hl.1 rfl (lv_room (Nat.le_of_ble_eq_true rfl)) dX7_spell_16 ⟨Nat.le_of_ble_eq_true rfl, Nat.le_of_ble_eq_true rfl⟩) hS (fun q _ h => hFc q h) hFc (fun r9 u t H1 locs ht hvm hw hB hz1 hk1 hS => ?_)
  obtain rfl : r9 = 4 := hw.trans (by decide)
  refine lv_icmp_ge (tgt := 35) hx hb dX7_spell_19 (by decide) (fun _ => ?_) (fun c => absurd (by decide) c)
  refine lv_iconst (v := 0) hx hb dX7_spell_35 (by decide) ?_
  refine k_iadd (v := 162899424) hx hb (by decide) dX7_spell_36 ?_
  refine lv_istore_n (lv' := [(1, .int 162899424), (2, .int 5), (0, .ref (adK 0))]) hx hb dX7_spell_37 rfl hl (by decide) rfl (fun ls hl => ?_)
  refine lv_iinc (v := 6) (lv' := [(2, .int 6), (1, .int 162899424), (0, .ref (adK 0))]) hx hb dX7_spell_38 hl (k := 1) rfl (by decide) (by decide) rfl (fun ls hl => ?_)
  refine lv_goto (tgt := 4) hx hb dX7_spell_41 (by decide) ?_
  refine lv_iload_n hx hb dX7_spell_4 rfl (lv_at hl 0 rfl) ?_
  refine lv_bipush (v := 6) hx hb dX7_spell_5 (by decide) ?_
  refine lv_icmp_ge (tgt := 44) hx hb dX7_spell_7 (by decide) (fun _ => ?_) (fun c => absurd (by decide) c)
  refine lv_iload_n hx hb dX7_spell_44 rfl (lv_at hl 1 rfl) ?_
  exact W.iret (v := 162899424) hx hb hr (fun t ht hW => ⟨⟨162899424, (), rfl, rfl, trivial⟩, hS.F ht⟩) hS.2.2 dX7_spell_45
set_option maxHeartbeats 4000000 in
set_option maxRecDepth 100000 in
theorem c_X7_spell_1 (l : Launch) (adK adV : Nat → Nat) (z : Nat) (sz : Nat) : Met l yX7_spell (.code yX7_spell cX7_spell 3 (some .int) :: WT) ({ frames := 8, cells := 0, slots := 0, locals := 700 }) (va_Pc [.ref (adK 1)] (jPre adK adV z sz)) (va_Qi (fun (r : Int32) (u : Unit) => r = 51293898) (fun _ _ => True) (va_A [] sz)) 0 0 (va_A [] sz) := by
  refine Met.ofW (cc := cX7_spell) (maxL := 3) (ret := (some .int)) (by decide) rfl ?_
  intro p e s m args below meth c s₁ B hml hv
  obtain ⟨rfl, hsz, hE0, hz⟩ := hv
  have hx := B.exec
  have hb := B.bytes
  have hr := B.returns
  have hts0 := atoms_spec (ws := .code yX7_spell cX7_spell 3 (some .int) :: WT) B.pre
  have hts : ∀ w ∈ WT, w.before _ s = true := fun w h => hts0 w (List.mem_cons_of_mem _ h)
  have hown : s.vm.findClass RX7 = some m.cls := findClass_of_methodNamed B.named
  have hlocks := B.notSynchronized
  subst hsz
  have hAz : ∀ q : Nat, va_A [] s.heap.size q → z ≤ q := fun q h => by
    rcases h with ⟨k9, e9, h9⟩ | h9
    · simp at h9
    · exact Nat.le_trans hz h9
  generalize hAe : va_A [] s.heap.size = A at hAz ⊢
  have hA : ∀ q : Nat, s.heap.size ≤ q → A q := fun q h => by rw [← hAe]; exact Or.inr h
  have hS : va_S A s.heap s.heap [] := va_S.rf
  have hE : vk_S 11 lenS bytS adK adV A s s.heap := hE0.1.narrow hAz
  have hZ : va_Z "java/lang/String" "COMPACT_STRINGS" "Z" (.int 1) A s s.heap := hE0.2.1.narrow hAz
  have hZq : va_Zq "jdk/internal/util/Preconditions" "SIOOBE_FORMATTER" "Ljava/util/function/BiFunction;" A s s.heap := hE0.2.2.1.narrow hAz
  have hl := lv_entry ([.ref (adK 1)]) (n := 3) (Nat.le_of_ble_eq_true rfl)
  rw [lg_entry_eq]
  generalize (lg_sl ([.ref (adK 1)]) ++ List.replicate (3 - (lg_sl ([.ref (adK 1)])).length) Slot.unset).toArray = ls at hl ⊢
  have hl : lv_has ls 3 [(0, .ref (adK 1))] := hl
  refine lv_iconst (v := 0) hx hb dX7_spell_0 (by decide) ?_
  refine lv_istore_n (lv' := [(1, .int 0), (0, .ref (adK 1))]) hx hb dX7_spell_1 rfl hl (by decide) rfl (fun ls hl => ?_)
  refine lv_iconst (v := 0) hx hb dX7_spell_2 (by decide) ?_
  refine lv_istore_n (lv' := [(2, .int 0), (1, .int 0), (0, .ref (adK 1))]) hx hb dX7_spell_3 rfl hl (by decide) rfl (fun ls hl => ?_)
  refine lv_iload_n hx hb dX7_spell_4 rfl (lv_at hl 0 rfl) ?_
  refine lv_bipush (v := 6) hx hb dX7_spell_5 (by decide) ?_
  refine lv_icmp_ge (tgt := 44) hx hb dX7_spell_7 (by decide) (fun c => absurd c (by decide)) (fun _ => ?_)
  refine lv_iload_n hx hb dX7_spell_10 rfl (lv_at hl 1 rfl) ?_
  refine lv_bipush (v := 27) hx hb dX7_spell_11 (by decide) ?_
  refine k_imul (v := 0) hx hb (by decide) dX7_spell_13 ?_
  refine lv_iload_n hx hb dX7_spell_14 rfl (lv_at hl 0 rfl) ?_
  refine lv_aload_n hx hb dX7_spell_15 rfl (lv_at hl 2 rfl) ?_
  have hFc : ∀ q : Nat, va_A [] s.heap.size q → A q := fun q h => by
    rcases h with ⟨k9, e9, h9⟩ | h9
    · simp at h9
    · exact hA q (Nat.le_trans hS.1 h9)
  refine va_calli (va_runV (As := []) (rest := [.int 0, .int 0]) ⟨hx, hb, hml, hown, hts⟩ (c_J0_length_8abf5 l adK adV z 1 s.heap.size (by decide)) (cwV 0 hts (gV t_440 t_441 t_442 t_142 t_443) rfl rfl rfl (by decide +kernel) ⟨Nat.le_of_ble_eq_true rfl, Nat.le_of_ble_eq_true rfl⟩) ⟨jBlind, vk_recv (i := 1) hE (by decide) hS, jGo hE0 hAz hS hz⟩ rfl rfl hl.1 rfl (lv_room (Nat.le_of_ble_eq_true rfl)) dX7_spell_16 ⟨Nat.le_of_ble_eq_true rfl, Nat.le_of_ble_eq_true rfl⟩) hS (fun q _ h => hFc q h) hFc (fun r9 u t H1 locs ht hvm hw hB hz1 hk1 hS => ?_)
  obtain rfl : r9 = 3 := hw.trans (by decide)
  refine lv_icmp_ge (tgt := 35) hx hb dX7_spell_19 (by decide) (fun c => absurd c (by decide)) (fun _ => ?_)
  refine lv_aload_n hx hb dX7_spell_22 rfl (lv_at hl 2 rfl) ?_
  refine lv_iload_n hx hb dX7_spell_23 rfl (lv_at hl 0 rfl) ?_
  have hFc : ∀ q : Nat, va_A [] H1.size q → A q := fun q h => by
    rcases h with ⟨k9, e9, h9⟩ | h9
    · simp at h9
    · exact hA q (Nat.le_trans hS.1 h9)
  refine va_calli (va_runV (As := [.int (nI 0)]) (rest := [.int 0]) ⟨hx, hb, hml, hown, hts⟩ (c_J0_charAt_5068e l adK adV z 1 0 H1.size (by decide) (by decide)) (cwV 1 hts (gV t_450 t_451 t_452 t_142 t_453) rfl rfl rfl (by decide +kernel) ⟨Nat.le_of_ble_eq_true rfl, Nat.le_of_ble_eq_true rfl⟩) ⟨jBlind, vk_recv (i := 1) hE (by decide) hS, jGo hE0 hAz hS hz⟩ rfl rfl hl.1 rfl (lv_room (Nat.le_of_ble_eq_true rfl)) dX7_spell_24 ⟨Nat.le_of_ble_eq_true rfl, Nat.le_of_ble_eq_true rfl⟩) hS (fun q _ h => hFc q h) hFc (fun r9 u t H1 locs ht hvm hw hB hz1 hk1 hS => ?_)
  obtain rfl : r9 = 99 := hw.trans (by decide)
  refine lv_bipush (v := 97) hx hb dX7_spell_27 (by decide) ?_
  refine k_isub (v := 2) hx hb (by decide) dX7_spell_29 ?_
  refine lv_iconst (v := 1) hx hb dX7_spell_30 (by decide) ?_
  refine k_iadd (v := 3) hx hb (by decide) dX7_spell_31 ?_
  refine lv_goto (tgt := 36) hx hb dX7_spell_32 (by decide) ?_
  refine k_iadd (v := 3) hx hb (by decide) dX7_spell_36 ?_
  refine lv_istore_n (lv' := [(1, .int 3), (2, .int 0), (0, .ref (adK 1))]) hx hb dX7_spell_37 rfl hl (by decide) rfl (fun ls hl => ?_)
  refine lv_iinc (v := 1) (lv' := [(2, .int 1), (1, .int 3), (0, .ref (adK 1))]) hx hb dX7_spell_38 hl (k := 1) rfl (by decide) (by decide) rfl (fun ls hl => ?_)
  refine lv_goto (tgt := 4) hx hb dX7_spell_41 (by decide) ?_
  refine lv_iload_n hx hb dX7_spell_4 rfl (lv_at hl 0 rfl) ?_
  refine lv_bipush (v := 6) hx hb dX7_spell_5 (by decide) ?_
  refine lv_icmp_ge (tgt := 44) hx hb dX7_spell_7 (by decide) (fun c => absurd c (by decide)) (fun _ => ?_)
  refine lv_iload_n hx hb dX7_spell_10 rfl (lv_at hl 1 rfl) ?_
  refine lv_bipush (v := 27) hx hb dX7_spell_11 (by decide) ?_
  refine k_imul (v := 81) hx hb (by decide) dX7_spell_13 ?_
  refine lv_iload_n hx hb dX7_spell_14 rfl (lv_at hl 0 rfl) ?_
  refine lv_aload_n hx hb dX7_spell_15 rfl (lv_at hl 2 rfl) ?_
  have hFc : ∀ q : Nat, va_A [] H1.size q → A q := fun q h => by
    rcases h with ⟨k9, e9, h9⟩ | h9
    · simp at h9
    · exact hA q (Nat.le_trans hS.1 h9)
  refine va_calli (va_runV (As := []) (rest := [.int 1, .int 81]) ⟨hx, hb, hml, hown, hts⟩ (c_J0_length_8abf5 l adK adV z 1 H1.size (by decide)) (cwV 0 hts (gV t_440 t_441 t_442 t_142 t_443) rfl rfl rfl (by decide +kernel) ⟨Nat.le_of_ble_eq_true rfl, Nat.le_of_ble_eq_true rfl⟩) ⟨jBlind, vk_recv (i := 1) hE (by decide) hS, jGo hE0 hAz hS hz⟩ rfl rfl hl.1 rfl (lv_room (Nat.le_of_ble_eq_true rfl)) dX7_spell_16 ⟨Nat.le_of_ble_eq_true rfl, Nat.le_of_ble_eq_true rfl⟩) hS (fun q _ h => hFc q h) hFc (fun r9 u t H1 locs ht hvm hw hB hz1 hk1 hS => ?_)
  obtain rfl : r9 = 3 := hw.trans (by decide)
  refine lv_icmp_ge (tgt := 35) hx hb dX7_spell_19 (by decide) (fun c => absurd c (by decide)) (fun _ => ?_)
  refine lv_aload_n hx hb dX7_spell_22 rfl (lv_at hl 2 rfl) ?_
  refine lv_iload_n hx hb dX7_spell_23 rfl (lv_at hl 0 rfl) ?_
  have hFc : ∀ q : Nat, va_A [] H1.size q → A q := fun q h => by
    rcases h with ⟨k9, e9, h9⟩ | h9
    · simp at h9
    · exact hA q (Nat.le_trans hS.1 h9)
  refine va_calli (va_runV (As := [.int (nI 1)]) (rest := [.int 81]) ⟨hx, hb, hml, hown, hts⟩ (c_J0_charAt_5068e l adK adV z 1 1 H1.size (by decide) (by decide)) (cwV 1 hts (gV t_450 t_451 t_452 t_142 t_453) rfl rfl rfl (by decide +kernel) ⟨Nat.le_of_ble_eq_true rfl, Nat.le_of_ble_eq_true rfl⟩) ⟨jBlind, vk_recv (i := 1) hE (by decide) hS, jGo hE0 hAz hS hz⟩ rfl rfl hl.1 rfl (lv_room (Nat.le_of_ble_eq_true rfl)) dX7_spell_24 ⟨Nat.le_of_ble_eq_true rfl, Nat.le_of_ble_eq_true rfl⟩) hS (fun q _ h => hFc q h) hFc (fun r9 u t H1 locs ht hvm hw hB hz1 hk1 hS => ?_)
  obtain rfl : r9 = 111 := hw.trans (by decide)
  refine lv_bipush (v := 97) hx hb dX7_spell_27 (by decide) ?_
  refine k_isub (v := 14) hx hb (by decide) dX7_spell_29 ?_
  refine lv_iconst (v := 1) hx hb dX7_spell_30 (by decide) ?_
  refine k_iadd (v := 15) hx hb (by decide) dX7_spell_31 ?_
  refine lv_goto (tgt := 36) hx hb dX7_spell_32 (by decide) ?_
  refine k_iadd (v := 96) hx hb (by decide) dX7_spell_36 ?_
  refine lv_istore_n (lv' := [(1, .int 96), (2, .int 1), (0, .ref (adK 1))]) hx hb dX7_spell_37 rfl hl (by decide) rfl (fun ls hl => ?_)
  refine lv_iinc (v := 2) (lv' := [(2, .int 2), (1, .int 96), (0, .ref (adK 1))]) hx hb dX7_spell_38 hl (k := 1) rfl (by decide) (by decide) rfl (fun ls hl => ?_)
  refine lv_goto (tgt := 4) hx hb dX7_spell_41 (by decide) ?_
  refine lv_iload_n hx hb dX7_spell_4 rfl (lv_at hl 0 rfl) ?_
  refine lv_bipush (v := 6) hx hb dX7_spell_5 (by decide) ?_
  refine lv_icmp_ge (tgt := 44) hx hb dX7_spell_7 (by decide) (fun c => absurd c (by decide)) (fun _ => ?_)
  refine lv_iload_n hx hb dX7_spell_10 rfl (lv_at hl 1 rfl) ?_
  refine lv_bipush (v := 27) hx hb dX7_spell_11 (by decide) ?_
  refine k_imul (v := 2592) hx hb (by decide) dX7_spell_13 ?_
  refine lv_iload_n hx hb dX7_spell_14 rfl (lv_at hl 0 rfl) ?_
  refine lv_aload_n hx hb dX7_spell_15 rfl (lv_at hl 2 rfl) ?_
  have hFc : ∀ q : Nat, va_A [] H1.size q → A q := fun q h => by
    rcases h with ⟨k9, e9, h9⟩ | h9
    · simp at h9
    · exact hA q (Nat.le_trans hS.1 h9)
  refine va_calli (va_runV (As := []) (rest := [.int 2, .int 2592]) ⟨hx, hb, hml, hown, hts⟩ (c_J0_length_8abf5 l adK adV z 1 H1.size (by decide)) (cwV 0 hts (gV t_440 t_441 t_442 t_142 t_443) rfl rfl rfl (by decide +kernel) ⟨Nat.le_of_ble_eq_true rfl, Nat.le_of_ble_eq_true rfl⟩) ⟨jBlind, vk_recv (i := 1) hE (by decide) hS, jGo hE0 hAz hS hz⟩ rfl rfl hl.1 rfl (lv_room (Nat.le_of_ble_eq_true rfl)) dX7_spell_16 ⟨Nat.le_of_ble_eq_true rfl, Nat.le_of_ble_eq_true rfl⟩) hS (fun q _ h => hFc q h) hFc (fun r9 u t H1 locs ht hvm hw hB hz1 hk1 hS => ?_)
  obtain rfl : r9 = 3 := hw.trans (by decide)
  refine lv_icmp_ge (tgt := 35) hx hb dX7_spell_19 (by decide) (fun c => absurd c (by decide)) (fun _ => ?_)
  refine lv_aload_n hx hb dX7_spell_22 rfl (lv_at hl 2 rfl) ?_
  refine lv_iload_n hx hb dX7_spell_23 rfl (lv_at hl 0 rfl) ?_
  have hFc : ∀ q : Nat, va_A [] H1.size q → A q := fun q h => by
    rcases h with ⟨k9, e9, h9⟩ | h9
    · simp at h9
    · exact hA q (Nat.le_trans hS.1 h9)
  refine va_calli (va_runV (As := [.int (nI 2)]) (rest := [.int 2592]) ⟨hx, hb, hml, hown, hts⟩ (c_J0_charAt_5068e l adK adV z 1 2 H1.size (by decide) (by decide)) (cwV 1 hts (gV t_450 t_451 t_452 t_142 t_453) rfl rfl rfl (by decide +kernel) ⟨Nat.le_of_ble_eq_true rfl, Nat.le_of_ble_eq_true rfl⟩) ⟨jBlind, vk_recv (i := 1) hE (by decide) hS, jGo hE0 hAz hS hz⟩ rfl rfl hl.1 rfl (lv_room (Nat.le_of_ble_eq_true rfl)) dX7_spell_24 ⟨Nat.le_of_ble_eq_true rfl, Nat.le_of_ble_eq_true rfl⟩) hS (fun q _ h => hFc q h) hFc (fun r9 u t H1 locs ht hvm hw hB hz1 hk1 hS => ?_)
  obtain rfl : r9 = 110 := hw.trans (by decide)
  refine lv_bipush (v := 97) hx hb dX7_spell_27 (by decide) ?_
  refine k_isub (v := 13) hx hb (by decide) dX7_spell_29 ?_
  refine lv_iconst (v := 1) hx hb dX7_spell_30 (by decide) ?_
  refine k_iadd (v := 14) hx hb (by decide) dX7_spell_31 ?_
  refine lv_goto (tgt := 36) hx hb dX7_spell_32 (by decide) ?_
  refine k_iadd (v := 2606) hx hb (by decide) dX7_spell_36 ?_
  refine lv_istore_n (lv' := [(1, .int 2606), (2, .int 2), (0, .ref (adK 1))]) hx hb dX7_spell_37 rfl hl (by decide) rfl (fun ls hl => ?_)
  refine lv_iinc (v := 3) (lv' := [(2, .int 3), (1, .int 2606), (0, .ref (adK 1))]) hx hb dX7_spell_38 hl (k := 1) rfl (by decide) (by decide) rfl (fun ls hl => ?_)
  refine lv_goto (tgt := 4) hx hb dX7_spell_41 (by decide) ?_
  refine lv_iload_n hx hb dX7_spell_4 rfl (lv_at hl 0 rfl) ?_
  refine lv_bipush (v := 6) hx hb dX7_spell_5 (by decide) ?_
  refine lv_icmp_ge (tgt := 44) hx hb dX7_spell_7 (by decide) (fun c => absurd c (by decide)) (fun _ => ?_)
  refine lv_iload_n hx hb dX7_spell_10 rfl (lv_at hl 1 rfl) ?_
  refine lv_bipush (v := 27) hx hb dX7_spell_11 (by decide) ?_
  refine k_imul (v := 70362) hx hb (by decide) dX7_spell_13 ?_
  refine lv_iload_n hx hb dX7_spell_14 rfl (lv_at hl 0 rfl) ?_
  refine lv_aload_n hx hb dX7_spell_15 rfl (lv_at hl 2 rfl) ?_
  have hFc : ∀ q : Nat, va_A [] H1.size q → A q := fun q h => by
    rcases h with ⟨k9, e9, h9⟩ | h9
    · simp at h9
    · exact hA q (Nat.le_trans hS.1 h9)
  refine va_calli (va_runV (As := []) (rest := [.int 3, .int 70362]) ⟨hx, hb, hml, hown, hts⟩ (c_J0_length_8abf5 l adK adV z 1 H1.size (by decide)) (cwV 0 hts (gV t_440 t_441 t_442 t_142 t_443) rfl rfl rfl (by decide +kernel) ⟨Nat.le_of_ble_eq_true rfl, Nat.le_of_ble_eq_true rfl⟩) ⟨jBlind, vk_recv (i := 1) hE (by decide) hS, jGo hE0 hAz hS hz⟩ rfl rfl hl.1 rfl (lv_room (Nat.le_of_ble_eq_true rfl)) dX7_spell_16 ⟨Nat.le_of_ble_eq_true rfl, Nat.le_of_ble_eq_true rfl⟩) hS (fun q _ h => hFc q h) hFc (fun r9 u t H1 locs ht hvm hw hB hz1 hk1 hS => ?_)
  obtain rfl : r9 = 3 := hw.trans (by decide)
  refine lv_icmp_ge (tgt := 35) hx hb dX7_spell_19 (by decide) (fun _ => ?_) (fun c => absurd (by decide) c)
  refine lv_iconst (v := 0) hx hb dX7_spell_35 (by decide) ?_
  refine k_iadd (v := 70362) hx hb (by decide) dX7_spell_36 ?_
  refine lv_istore_n (lv' := [(1, .int 70362), (2, .int 3), (0, .ref (adK 1))]) hx hb dX7_spell_37 rfl hl (by decide) rfl (fun ls hl => ?_)
  refine lv_iinc (v := 4) (lv' := [(2, .int 4), (1, .int 70362), (0, .ref (adK 1))]) hx hb dX7_spell_38 hl (k := 1) rfl (by decide) (by decide) rfl (fun ls hl => ?_)
  refine lv_goto (tgt := 4) hx hb dX7_spell_41 (by decide) ?_
  refine lv_iload_n hx hb dX7_spell_4 rfl (lv_at hl 0 rfl) ?_
  refine lv_bipush (v := 6) hx hb dX7_spell_5 (by decide) ?_
  refine lv_icmp_ge (tgt := 44) hx hb dX7_spell_7 (by decide) (fun c => absurd c (by decide)) (fun _ => ?_)
  refine lv_iload_n hx hb dX7_spell_10 rfl (lv_at hl 1 rfl) ?_
  refine lv_bipush (v := 27) hx hb dX7_spell_11 (by decide) ?_
  refine k_imul (v := 1899774) hx hb (by decide) dX7_spell_13 ?_
  refine lv_iload_n hx hb dX7_spell_14 rfl (lv_at hl 0 rfl) ?_
  refine lv_aload_n hx hb dX7_spell_15 rfl (lv_at hl 2 rfl) ?_
  have hFc : ∀ q : Nat, va_A [] H1.size q → A q := fun q h => by
    rcases h with ⟨k9, e9, h9⟩ | h9
    · simp at h9
    · exact hA q (Nat.le_trans hS.1 h9)
  refine va_calli (va_runV (As := []) (rest := [.int 4, .int 1899774]) ⟨hx, hb, hml, hown, hts⟩ (c_J0_length_8abf5 l adK adV z 1 H1.size (by decide)) (cwV 0 hts (gV t_440 t_441 t_442 t_142 t_443) rfl rfl rfl (by decide +kernel) ⟨Nat.le_of_ble_eq_true rfl, Nat.le_of_ble_eq_true rfl⟩) ⟨jBlind, vk_recv (i := 1) hE (by decide) hS, jGo hE0 hAz hS hz⟩ rfl rfl hl.1 rfl (lv_room (Nat.le_of_ble_eq_true rfl)) dX7_spell_16 ⟨Nat.le_of_ble_eq_true rfl, Nat.le_of_ble_eq_true rfl⟩) hS (fun q _ h => hFc q h) hFc (fun r9 u t H1 locs ht hvm hw hB hz1 hk1 hS => ?_)
  obtain rfl : r9 = 3 := hw.trans (by decide)
  refine lv_icmp_ge (tgt := 35) hx hb dX7_spell_19 (by decide) (fun _ => ?_) (fun c => absurd (by decide) c)
  refine lv_iconst (v := 0) hx hb dX7_spell_35 (by decide) ?_
  refine k_iadd (v := 1899774) hx hb (by decide) dX7_spell_36 ?_
  refine lv_istore_n (lv' := [(1, .int 1899774), (2, .int 4), (0, .ref (adK 1))]) hx hb dX7_spell_37 rfl hl (by decide) rfl (fun ls hl => ?_)
  refine lv_iinc (v := 5) (lv' := [(2, .int 5), (1, .int 1899774), (0, .ref (adK 1))]) hx hb dX7_spell_38 hl (k := 1) rfl (by decide) (by decide) rfl (fun ls hl => ?_)
  refine lv_goto (tgt := 4) hx hb dX7_spell_41 (by decide) ?_
  refine lv_iload_n hx hb dX7_spell_4 rfl (lv_at hl 0 rfl) ?_
  refine lv_bipush (v := 6) hx hb dX7_spell_5 (by decide) ?_
  refine lv_icmp_ge (tgt := 44) hx hb dX7_spell_7 (by decide) (fun c => absurd c (by decide)) (fun _ => ?_)
  refine lv_iload_n hx hb dX7_spell_10 rfl (lv_at hl 1 rfl) ?_
  refine lv_bipush (v := 27) hx hb dX7_spell_11 (by decide) ?_
  refine k_imul (v := 51293898) hx hb (by decide) dX7_spell_13 ?_
  refine lv_iload_n hx hb dX7_spell_14 rfl (lv_at hl 0 rfl) ?_
  refine lv_aload_n hx hb dX7_spell_15 rfl (lv_at hl 2 rfl) ?_
  have hFc : ∀ q : Nat, va_A [] H1.size q → A q := fun q h => by
    rcases h with ⟨k9, e9, h9⟩ | h9
    · simp at h9
    · exact hA q (Nat.le_trans hS.1 h9)
  refine va_calli (va_runV (As := []) (rest := [.int 5, .int 51293898]) ⟨hx, hb, hml, hown, hts⟩ (c_J0_length_8abf5 l adK adV z 1 H1.size (by decide)) (cwV 0 hts (gV t_440 t_441 t_442 t_142 t_443) rfl rfl rfl (by decide +kernel) ⟨Nat.le_of_ble_eq_true rfl, Nat.le_of_ble_eq_true rfl⟩) ⟨jBlind, vk_recv (i := 1) hE (by decide) hS, jGo hE0 hAz hS hz⟩ rfl rfl hl.1 rfl (lv_room (Nat.le_of_ble_eq_true rfl)) dX7_spell_16 ⟨Nat.le_of_ble_eq_true rfl, Nat.le_of_ble_eq_true rfl⟩) hS (fun q _ h => hFc q h) hFc (fun r9 u t H1 locs ht hvm hw hB hz1 hk1 hS => ?_)
  obtain rfl : r9 = 3 := hw.trans (by decide)
  refine lv_icmp_ge (tgt := 35) hx hb dX7_spell_19 (by decide) (fun _ => ?_) (fun c => absurd (by decide) c)
  refine lv_iconst (v := 0) hx hb dX7_spell_35 (by decide) ?_
  refine k_iadd (v := 51293898) hx hb (by decide) dX7_spell_36 ?_
  refine lv_istore_n (lv' := [(1, .int 51293898), (2, .int 5), (0, .ref (adK 1))]) hx hb dX7_spell_37 rfl hl (by decide) rfl (fun ls hl => ?_)
  refine lv_iinc (v := 6) (lv' := [(2, .int 6), (1, .int 51293898), (0, .ref (adK 1))]) hx hb dX7_spell_38 hl (k := 1) rfl (by decide) (by decide) rfl (fun ls hl => ?_)
  refine lv_goto (tgt := 4) hx hb dX7_spell_41 (by decide) ?_
  refine lv_iload_n hx hb dX7_spell_4 rfl (lv_at hl 0 rfl) ?_
  refine lv_bipush (v := 6) hx hb dX7_spell_5 (by decide) ?_
  refine lv_icmp_ge (tgt := 44) hx hb dX7_spell_7 (by decide) (fun _ => ?_) (fun c => absurd (by decide) c)
  refine lv_iload_n hx hb dX7_spell_44 rfl (lv_at hl 1 rfl) ?_
  exact W.iret (v := 51293898) hx hb hr (fun t ht hW => ⟨⟨51293898, (), rfl, rfl, trivial⟩, hS.F ht⟩) hS.2.2 dX7_spell_45
set_option maxHeartbeats 4000000 in
set_option maxRecDepth 100000 in
theorem c_X7_spell_2 (l : Launch) (adK adV : Nat → Nat) (z : Nat) (sz : Nat) : Met l yX7_spell (.code yX7_spell cX7_spell 3 (some .int) :: WT) ({ frames := 8, cells := 0, slots := 0, locals := 700 }) (va_Pc [.ref (adK 2)] (jPre adK adV z sz)) (va_Qi (fun (r : Int32) (u : Unit) => r = 187463295) (fun _ _ => True) (va_A [] sz)) 0 0 (va_A [] sz) := by
  refine Met.ofW (cc := cX7_spell) (maxL := 3) (ret := (some .int)) (by decide) rfl ?_
  intro p e s m args below meth c s₁ B hml hv
  obtain ⟨rfl, hsz, hE0, hz⟩ := hv
  have hx := B.exec
  have hb := B.bytes
  have hr := B.returns
  have hts0 := atoms_spec (ws := .code yX7_spell cX7_spell 3 (some .int) :: WT) B.pre
  have hts : ∀ w ∈ WT, w.before _ s = true := fun w h => hts0 w (List.mem_cons_of_mem _ h)
  have hown : s.vm.findClass RX7 = some m.cls := findClass_of_methodNamed B.named
  have hlocks := B.notSynchronized
  subst hsz
  have hAz : ∀ q : Nat, va_A [] s.heap.size q → z ≤ q := fun q h => by
    rcases h with ⟨k9, e9, h9⟩ | h9
    · simp at h9
    · exact Nat.le_trans hz h9
  generalize hAe : va_A [] s.heap.size = A at hAz ⊢
  have hA : ∀ q : Nat, s.heap.size ≤ q → A q := fun q h => by rw [← hAe]; exact Or.inr h
  have hS : va_S A s.heap s.heap [] := va_S.rf
  have hE : vk_S 11 lenS bytS adK adV A s s.heap := hE0.1.narrow hAz
  have hZ : va_Z "java/lang/String" "COMPACT_STRINGS" "Z" (.int 1) A s s.heap := hE0.2.1.narrow hAz
  have hZq : va_Zq "jdk/internal/util/Preconditions" "SIOOBE_FORMATTER" "Ljava/util/function/BiFunction;" A s s.heap := hE0.2.2.1.narrow hAz
  have hl := lv_entry ([.ref (adK 2)]) (n := 3) (Nat.le_of_ble_eq_true rfl)
  rw [lg_entry_eq]
  generalize (lg_sl ([.ref (adK 2)]) ++ List.replicate (3 - (lg_sl ([.ref (adK 2)])).length) Slot.unset).toArray = ls at hl ⊢
  have hl : lv_has ls 3 [(0, .ref (adK 2))] := hl
  refine lv_iconst (v := 0) hx hb dX7_spell_0 (by decide) ?_
  refine lv_istore_n (lv' := [(1, .int 0), (0, .ref (adK 2))]) hx hb dX7_spell_1 rfl hl (by decide) rfl (fun ls hl => ?_)
  refine lv_iconst (v := 0) hx hb dX7_spell_2 (by decide) ?_
  refine lv_istore_n (lv' := [(2, .int 0), (1, .int 0), (0, .ref (adK 2))]) hx hb dX7_spell_3 rfl hl (by decide) rfl (fun ls hl => ?_)
  refine lv_iload_n hx hb dX7_spell_4 rfl (lv_at hl 0 rfl) ?_
  refine lv_bipush (v := 6) hx hb dX7_spell_5 (by decide) ?_
  refine lv_icmp_ge (tgt := 44) hx hb dX7_spell_7 (by decide) (fun c => absurd c (by decide)) (fun _ => ?_)
  refine lv_iload_n hx hb dX7_spell_10 rfl (lv_at hl 1 rfl) ?_
  refine lv_bipush (v := 27) hx hb dX7_spell_11 (by decide) ?_
  refine k_imul (v := 0) hx hb (by decide) dX7_spell_13 ?_
  refine lv_iload_n hx hb dX7_spell_14 rfl (lv_at hl 0 rfl) ?_
  refine lv_aload_n hx hb dX7_spell_15 rfl (lv_at hl 2 rfl) ?_
  have hFc : ∀ q : Nat, va_A [] s.heap.size q → A q := fun q h => by
    rcases h with ⟨k9, e9, h9⟩ | h9
    · simp at h9
    · exact hA q (Nat.le_trans hS.1 h9)
  refine va_calli (va_runV (As := []) (rest := [.int 0, .int 0]) ⟨hx, hb, hml, hown, hts⟩ (c_J0_length_8abf5 l adK adV z 2 s.heap.size (by decide)) (cwV 0 hts (gV t_440 t_441 t_442 t_142 t_443) rfl rfl rfl (by decide +kernel) ⟨Nat.le_of_ble_eq_true rfl, Nat.le_of_ble_eq_true rfl⟩) ⟨jBlind, vk_recv (i := 2) hE (by decide) hS, jGo hE0 hAz hS hz⟩ rfl rfl hl.1 rfl (lv_room (Nat.le_of_ble_eq_true rfl)) dX7_spell_16 ⟨Nat.le_of_ble_eq_true rfl, Nat.le_of_ble_eq_true rfl⟩) hS (fun q _ h => hFc q h) hFc (fun r9 u t H1 locs ht hvm hw hB hz1 hk1 hS => ?_)
  obtain rfl : r9 = 5 := hw.trans (by decide)
  refine lv_icmp_ge (tgt := 35) hx hb dX7_spell_19 (by decide) (fun c => absurd c (by decide)) (fun _ => ?_)
  refine lv_aload_n hx hb dX7_spell_22 rfl (lv_at hl 2 rfl) ?_
  refine lv_iload_n hx hb dX7_spell_23 rfl (lv_at hl 0 rfl) ?_
  have hFc : ∀ q : Nat, va_A [] H1.size q → A q := fun q h => by
    rcases h with ⟨k9, e9, h9⟩ | h9
    · simp at h9
    · exact hA q (Nat.le_trans hS.1 h9)
  refine va_calli (va_runV (As := [.int (nI 0)]) (rest := [.int 0]) ⟨hx, hb, hml, hown, hts⟩ (c_J0_charAt_5068e l adK adV z 2 0 H1.size (by decide) (by decide)) (cwV 1 hts (gV t_450 t_451 t_452 t_142 t_453) rfl rfl rfl (by decide +kernel) ⟨Nat.le_of_ble_eq_true rfl, Nat.le_of_ble_eq_true rfl⟩) ⟨jBlind, vk_recv (i := 2) hE (by decide) hS, jGo hE0 hAz hS hz⟩ rfl rfl hl.1 rfl (lv_room (Nat.le_of_ble_eq_true rfl)) dX7_spell_24 ⟨Nat.le_of_ble_eq_true rfl, Nat.le_of_ble_eq_true rfl⟩) hS (fun q _ h => hFc q h) hFc (fun r9 u t H1 locs ht hvm hw hB hz1 hk1 hS => ?_)
  obtain rfl : r9 = 109 := hw.trans (by decide)
  refine lv_bipush (v := 97) hx hb dX7_spell_27 (by decide) ?_
  refine k_isub (v := 12) hx hb (by decide) dX7_spell_29 ?_
  refine lv_iconst (v := 1) hx hb dX7_spell_30 (by decide) ?_
  refine k_iadd (v := 13) hx hb (by decide) dX7_spell_31 ?_
  refine lv_goto (tgt := 36) hx hb dX7_spell_32 (by decide) ?_
  refine k_iadd (v := 13) hx hb (by decide) dX7_spell_36 ?_
  refine lv_istore_n (lv' := [(1, .int 13), (2, .int 0), (0, .ref (adK 2))]) hx hb dX7_spell_37 rfl hl (by decide) rfl (fun ls hl => ?_)
  refine lv_iinc (v := 1) (lv' := [(2, .int 1), (1, .int 13), (0, .ref (adK 2))]) hx hb dX7_spell_38 hl (k := 1) rfl (by decide) (by decide) rfl (fun ls hl => ?_)
  refine lv_goto (tgt := 4) hx hb dX7_spell_41 (by decide) ?_
  refine lv_iload_n hx hb dX7_spell_4 rfl (lv_at hl 0 rfl) ?_
  refine lv_bipush (v := 6) hx hb dX7_spell_5 (by decide) ?_
  refine lv_icmp_ge (tgt := 44) hx hb dX7_spell_7 (by decide) (fun c => absurd c (by decide)) (fun _ => ?_)
  refine lv_iload_n hx hb dX7_spell_10 rfl (lv_at hl 1 rfl) ?_
  refine lv_bipush (v := 27) hx hb dX7_spell_11 (by decide) ?_
  refine k_imul (v := 351) hx hb (by decide) dX7_spell_13 ?_
  refine lv_iload_n hx hb dX7_spell_14 rfl (lv_at hl 0 rfl) ?_
  refine lv_aload_n hx hb dX7_spell_15 rfl (lv_at hl 2 rfl) ?_
  have hFc : ∀ q : Nat, va_A [] H1.size q → A q := fun q h => by
    rcases h with ⟨k9, e9, h9⟩ | h9
    · simp at h9
    · exact hA q (Nat.le_trans hS.1 h9)
  refine va_calli (va_runV (As := []) (rest := [.int 1, .int 351]) ⟨hx, hb, hml, hown, hts⟩ (c_J0_length_8abf5 l adK adV z 2 H1.size (by decide)) (cwV 0 hts (gV t_440 t_441 t_442 t_142 t_443) rfl rfl rfl (by decide +kernel) ⟨Nat.le_of_ble_eq_true rfl, Nat.le_of_ble_eq_true rfl⟩) ⟨jBlind, vk_recv (i := 2) hE (by decide) hS, jGo hE0 hAz hS hz⟩ rfl rfl hl.1 rfl (lv_room (Nat.le_of_ble_eq_true rfl)) dX7_spell_16 ⟨Nat.le_of_ble_eq_true rfl, Nat.le_of_ble_eq_true rfl⟩) hS (fun q _ h => hFc q h) hFc (fun r9 u t H1 locs ht hvm hw hB hz1 hk1 hS => ?_)
  obtain rfl : r9 = 5 := hw.trans (by decide)
  refine lv_icmp_ge (tgt := 35) hx hb dX7_spell_19 (by decide) (fun c => absurd c (by decide)) (fun _ => ?_)
  refine lv_aload_n hx hb dX7_spell_22 rfl (lv_at hl 2 rfl) ?_
  refine lv_iload_n hx hb dX7_spell_23 rfl (lv_at hl 0 rfl) ?_
  have hFc : ∀ q : Nat, va_A [] H1.size q → A q := fun q h => by
    rcases h with ⟨k9, e9, h9⟩ | h9
    · simp at h9
    · exact hA q (Nat.le_trans hS.1 h9)
  refine va_calli (va_runV (As := [.int (nI 1)]) (rest := [.int 351]) ⟨hx, hb, hml, hown, hts⟩ (c_J0_charAt_5068e l adK adV z 2 1 H1.size (by decide) (by decide)) (cwV 1 hts (gV t_450 t_451 t_452 t_142 t_453) rfl rfl rfl (by decide +kernel) ⟨Nat.le_of_ble_eq_true rfl, Nat.le_of_ble_eq_true rfl⟩) ⟨jBlind, vk_recv (i := 2) hE (by decide) hS, jGo hE0 hAz hS hz⟩ rfl rfl hl.1 rfl (lv_room (Nat.le_of_ble_eq_true rfl)) dX7_spell_24 ⟨Nat.le_of_ble_eq_true rfl, Nat.le_of_ble_eq_true rfl⟩) hS (fun q _ h => hFc q h) hFc (fun r9 u t H1 locs ht hvm hw hB hz1 hk1 hS => ?_)
  obtain rfl : r9 = 97 := hw.trans (by decide)
  refine lv_bipush (v := 97) hx hb dX7_spell_27 (by decide) ?_
  refine k_isub (v := 0) hx hb (by decide) dX7_spell_29 ?_
  refine lv_iconst (v := 1) hx hb dX7_spell_30 (by decide) ?_
  refine k_iadd (v := 1) hx hb (by decide) dX7_spell_31 ?_
  refine lv_goto (tgt := 36) hx hb dX7_spell_32 (by decide) ?_
  refine k_iadd (v := 352) hx hb (by decide) dX7_spell_36 ?_
  refine lv_istore_n (lv' := [(1, .int 352), (2, .int 1), (0, .ref (adK 2))]) hx hb dX7_spell_37 rfl hl (by decide) rfl (fun ls hl => ?_)
  refine lv_iinc (v := 2) (lv' := [(2, .int 2), (1, .int 352), (0, .ref (adK 2))]) hx hb dX7_spell_38 hl (k := 1) rfl (by decide) (by decide) rfl (fun ls hl => ?_)
  refine lv_goto (tgt := 4) hx hb dX7_spell_41 (by decide) ?_
  refine lv_iload_n hx hb dX7_spell_4 rfl (lv_at hl 0 rfl) ?_
  refine lv_bipush (v := 6) hx hb dX7_spell_5 (by decide) ?_
  refine lv_icmp_ge (tgt := 44) hx hb dX7_spell_7 (by decide) (fun c => absurd c (by decide)) (fun _ => ?_)
  refine lv_iload_n hx hb dX7_spell_10 rfl (lv_at hl 1 rfl) ?_
  refine lv_bipush (v := 27) hx hb dX7_spell_11 (by decide) ?_
  refine k_imul (v := 9504) hx hb (by decide) dX7_spell_13 ?_
  refine lv_iload_n hx hb dX7_spell_14 rfl (lv_at hl 0 rfl) ?_
  refine lv_aload_n hx hb dX7_spell_15 rfl (lv_at hl 2 rfl) ?_
  have hFc : ∀ q : Nat, va_A [] H1.size q → A q := fun q h => by
    rcases h with ⟨k9, e9, h9⟩ | h9
    · simp at h9
    · exact hA q (Nat.le_trans hS.1 h9)
  refine va_calli (va_runV (As := []) (rest := [.int 2, .int 9504]) ⟨hx, hb, hml, hown, hts⟩ (c_J0_length_8abf5 l adK adV z 2 H1.size (by decide)) (cwV 0 hts (gV t_440 t_441 t_442 t_142 t_443) rfl rfl rfl (by decide +kernel) ⟨Nat.le_of_ble_eq_true rfl, Nat.le_of_ble_eq_true rfl⟩) ⟨jBlind, vk_recv (i := 2) hE (by decide) hS, jGo hE0 hAz hS hz⟩ rfl rfl hl.1 rfl (lv_room (Nat.le_of_ble_eq_true rfl)) dX7_spell_16 ⟨Nat.le_of_ble_eq_true rfl, Nat.le_of_ble_eq_true rfl⟩) hS (fun q _ h => hFc q h) hFc (fun r9 u t H1 locs ht hvm hw hB hz1 hk1 hS => ?_)
  obtain rfl : r9 = 5 := hw.trans (by decide)
  refine lv_icmp_ge (tgt := 35) hx hb dX7_spell_19 (by decide) (fun c => absurd c (by decide)) (fun _ => ?_)
  refine lv_aload_n hx hb dX7_spell_22 rfl (lv_at hl 2 rfl) ?_
  refine lv_iload_n hx hb dX7_spell_23 rfl (lv_at hl 0 rfl) ?_
  have hFc : ∀ q : Nat, va_A [] H1.size q → A q := fun q h => by
    rcases h with ⟨k9, e9, h9⟩ | h9
    · simp at h9
    · exact hA q (Nat.le_trans hS.1 h9)
  refine va_calli (va_runV (As := [.int (nI 2)]) (rest := [.int 9504]) ⟨hx, hb, hml, hown, hts⟩ (c_J0_charAt_5068e l adK adV z 2 2 H1.size (by decide) (by decide)) (cwV 1 hts (gV t_450 t_451 t_452 t_142 t_453) rfl rfl rfl (by decide +kernel) ⟨Nat.le_of_ble_eq_true rfl, Nat.le_of_ble_eq_true rfl⟩) ⟨jBlind, vk_recv (i := 2) hE (by decide) hS, jGo hE0 hAz hS hz⟩ rfl rfl hl.1 rfl (lv_room (Nat.le_of_ble_eq_true rfl)) dX7_spell_24 ⟨Nat.le_of_ble_eq_true rfl, Nat.le_of_ble_eq_true rfl⟩) hS (fun q _ h => hFc q h) hFc (fun r9 u t H1 locs ht hvm hw hB hz1 hk1 hS => ?_)
  obtain rfl : r9 = 116 := hw.trans (by decide)
  refine lv_bipush (v := 97) hx hb dX7_spell_27 (by decide) ?_
  refine k_isub (v := 19) hx hb (by decide) dX7_spell_29 ?_
  refine lv_iconst (v := 1) hx hb dX7_spell_30 (by decide) ?_
  refine k_iadd (v := 20) hx hb (by decide) dX7_spell_31 ?_
  refine lv_goto (tgt := 36) hx hb dX7_spell_32 (by decide) ?_
  refine k_iadd (v := 9524) hx hb (by decide) dX7_spell_36 ?_
  refine lv_istore_n (lv' := [(1, .int 9524), (2, .int 2), (0, .ref (adK 2))]) hx hb dX7_spell_37 rfl hl (by decide) rfl (fun ls hl => ?_)
  refine lv_iinc (v := 3) (lv' := [(2, .int 3), (1, .int 9524), (0, .ref (adK 2))]) hx hb dX7_spell_38 hl (k := 1) rfl (by decide) (by decide) rfl (fun ls hl => ?_)
  refine lv_goto (tgt := 4) hx hb dX7_spell_41 (by decide) ?_
  refine lv_iload_n hx hb dX7_spell_4 rfl (lv_at hl 0 rfl) ?_
  refine lv_bipush (v := 6) hx hb dX7_spell_5 (by decide) ?_
  refine lv_icmp_ge (tgt := 44) hx hb dX7_spell_7 (by decide) (fun c => absurd c (by decide)) (fun _ => ?_)
  refine lv_iload_n hx hb dX7_spell_10 rfl (lv_at hl 1 rfl) ?_
  refine lv_bipush (v := 27) hx hb dX7_spell_11 (by decide) ?_
  refine k_imul (v := 257148) hx hb (by decide) dX7_spell_13 ?_
  refine lv_iload_n hx hb dX7_spell_14 rfl (lv_at hl 0 rfl) ?_
  refine lv_aload_n hx hb dX7_spell_15 rfl (lv_at hl 2 rfl) ?_
  have hFc : ∀ q : Nat, va_A [] H1.size q → A q := fun q h => by
    rcases h with ⟨k9, e9, h9⟩ | h9
    · simp at h9
    · exact hA q (Nat.le_trans hS.1 h9)
  refine va_calli (va_runV (As := []) (rest := [.int 3, .int 257148]) ⟨hx, hb, hml, hown, hts⟩ (c_J0_length_8abf5 l adK adV z 2 H1.size (by decide)) (cwV 0 hts (gV t_440 t_441 t_442 t_142 t_443) rfl rfl rfl (by decide +kernel) ⟨Nat.le_of_ble_eq_true rfl, Nat.le_of_ble_eq_true rfl⟩) ⟨jBlind, vk_recv (i := 2) hE (by decide) hS, jGo hE0 hAz hS hz⟩ rfl rfl hl.1 rfl (lv_room (Nat.le_of_ble_eq_true rfl)) dX7_spell_16 ⟨Nat.le_of_ble_eq_true rfl, Nat.le_of_ble_eq_true rfl⟩) hS (fun q _ h => hFc q h) hFc (fun r9 u t H1 locs ht hvm hw hB hz1 hk1 hS => ?_)
  obtain rfl : r9 = 5 := hw.trans (by decide)
  refine lv_icmp_ge (tgt := 35) hx hb dX7_spell_19 (by decide) (fun c => absurd c (by decide)) (fun _ => ?_)
  refine lv_aload_n hx hb dX7_spell_22 rfl (lv_at hl 2 rfl) ?_
  refine lv_iload_n hx hb dX7_spell_23 rfl (lv_at hl 0 rfl) ?_
  have hFc : ∀ q : Nat, va_A [] H1.size q → A q := fun q h => by
    rcases h with ⟨k9, e9, h9⟩ | h9
    · simp at h9
    · exact hA q (Nat.le_trans hS.1 h9)
  refine va_calli (va_runV (As := [.int (nI 3)]) (rest := [.int 257148]) ⟨hx, hb, hml, hown, hts⟩ (c_J0_charAt_5068e l adK adV z 2 3 H1.size (by decide) (by decide)) (cwV 1 hts (gV t_450 t_451 t_452 t_142 t_453) rfl rfl rfl (by decide +kernel) ⟨Nat.le_of_ble_eq_true rfl, Nat.le_of_ble_eq_true rfl⟩) ⟨jBlind, vk_recv (i := 2) hE (by decide) hS, jGo hE0 hAz hS hz⟩ rfl rfl hl.1 rfl (lv_room (Nat.le_of_ble_eq_true rfl)) dX7_spell_24 ⟨Nat.le_of_ble_eq_true rfl, Nat.le_of_ble_eq_true rfl⟩) hS (fun q _ h => hFc q h) hFc (fun r9 u t H1 locs ht hvm hw hB hz1 hk1 hS => ?_)
  obtain rfl : r9 = 99 := hw.trans (by decide)
  refine lv_bipush (v := 97) hx hb dX7_spell_27 (by decide) ?_
  refine k_isub (v := 2) hx hb (by decide) dX7_spell_29 ?_
  refine lv_iconst (v := 1) hx hb dX7_spell_30 (by decide) ?_
  refine k_iadd (v := 3) hx hb (by decide) dX7_spell_31 ?_
  refine lv_goto (tgt := 36) hx hb dX7_spell_32 (by decide) ?_
  refine k_iadd (v := 257151) hx hb (by decide) dX7_spell_36 ?_
  refine lv_istore_n (lv' := [(1, .int 257151), (2, .int 3), (0, .ref (adK 2))]) hx hb dX7_spell_37 rfl hl (by decide) rfl (fun ls hl => ?_)
  refine lv_iinc (v := 4) (lv' := [(2, .int 4), (1, .int 257151), (0, .ref (adK 2))]) hx hb dX7_spell_38 hl (k := 1) rfl (by decide) (by decide) rfl (fun ls hl => ?_)
  refine lv_goto (tgt := 4) hx hb dX7_spell_41 (by decide) ?_
  refine lv_iload_n hx hb dX7_spell_4 rfl (lv_at hl 0 rfl) ?_
  refine lv_bipush (v := 6) hx hb dX7_spell_5 (by decide) ?_
  refine lv_icmp_ge (tgt := 44) hx hb dX7_spell_7 (by decide) (fun c => absurd c (by decide)) (fun _ => ?_)
  refine lv_iload_n hx hb dX7_spell_10 rfl (lv_at hl 1 rfl) ?_
  refine lv_bipush (v := 27) hx hb dX7_spell_11 (by decide) ?_
  refine k_imul (v := 6943077) hx hb (by decide) dX7_spell_13 ?_
  refine lv_iload_n hx hb dX7_spell_14 rfl (lv_at hl 0 rfl) ?_
  refine lv_aload_n hx hb dX7_spell_15 rfl (lv_at hl 2 rfl) ?_
  have hFc : ∀ q : Nat, va_A [] H1.size q → A q := fun q h => by
    rcases h with ⟨k9, e9, h9⟩ | h9
    · simp at h9
    · exact hA q (Nat.le_trans hS.1 h9)
  refine va_calli (va_runV (As := []) (rest := [.int 4, .int 6943077]) ⟨hx, hb, hml, hown, hts⟩ (c_J0_length_8abf5 l adK adV z 2 H1.size (by decide)) (cwV 0 hts (gV t_440 t_441 t_442 t_142 t_443) rfl rfl rfl (by decide +kernel) ⟨Nat.le_of_ble_eq_true rfl, Nat.le_of_ble_eq_true rfl⟩) ⟨jBlind, vk_recv (i := 2) hE (by decide) hS, jGo hE0 hAz hS hz⟩ rfl rfl hl.1 rfl (lv_room (Nat.le_of_ble_eq_true rfl)) dX7_spell_16 ⟨Nat.le_of_ble_eq_true rfl, Nat.le_of_ble_eq_true rfl⟩) hS (fun q _ h => hFc q h) hFc (fun r9 u t H1 locs ht hvm hw hB hz1 hk1 hS => ?_)
  obtain rfl : r9 = 5 := hw.trans (by decide)
  refine lv_icmp_ge (tgt := 35) hx hb dX7_spell_19 (by decide) (fun c => absurd c (by decide)) (fun _ => ?_)
  refine lv_aload_n hx hb dX7_spell_22 rfl (lv_at hl 2 rfl) ?_
  refine lv_iload_n hx hb dX7_spell_23 rfl (lv_at hl 0 rfl) ?_
  have hFc : ∀ q : Nat, va_A [] H1.size q → A q := fun q h => by
    rcases h with ⟨k9, e9, h9⟩ | h9
    · simp at h9
    · exact hA q (Nat.le_trans hS.1 h9)
  refine va_calli (va_runV (As := [.int (nI 4)]) (rest := [.int 6943077]) ⟨hx, hb, hml, hown, hts⟩ (c_J0_charAt_5068e l adK adV z 2 4 H1.size (by decide) (by decide)) (cwV 1 hts (gV t_450 t_451 t_452 t_142 t_453) rfl rfl rfl (by decide +kernel) ⟨Nat.le_of_ble_eq_true rfl, Nat.le_of_ble_eq_true rfl⟩) ⟨jBlind, vk_recv (i := 2) hE (by decide) hS, jGo hE0 hAz hS hz⟩ rfl rfl hl.1 rfl (lv_room (Nat.le_of_ble_eq_true rfl)) dX7_spell_24 ⟨Nat.le_of_ble_eq_true rfl, Nat.le_of_ble_eq_true rfl⟩) hS (fun q _ h => hFc q h) hFc (fun r9 u t H1 locs ht hvm hw hB hz1 hk1 hS => ?_)
  obtain rfl : r9 = 104 := hw.trans (by decide)
  refine lv_bipush (v := 97) hx hb dX7_spell_27 (by decide) ?_
  refine k_isub (v := 7) hx hb (by decide) dX7_spell_29 ?_
  refine lv_iconst (v := 1) hx hb dX7_spell_30 (by decide) ?_
  refine k_iadd (v := 8) hx hb (by decide) dX7_spell_31 ?_
  refine lv_goto (tgt := 36) hx hb dX7_spell_32 (by decide) ?_
  refine k_iadd (v := 6943085) hx hb (by decide) dX7_spell_36 ?_
  refine lv_istore_n (lv' := [(1, .int 6943085), (2, .int 4), (0, .ref (adK 2))]) hx hb dX7_spell_37 rfl hl (by decide) rfl (fun ls hl => ?_)
  refine lv_iinc (v := 5) (lv' := [(2, .int 5), (1, .int 6943085), (0, .ref (adK 2))]) hx hb dX7_spell_38 hl (k := 1) rfl (by decide) (by decide) rfl (fun ls hl => ?_)
  refine lv_goto (tgt := 4) hx hb dX7_spell_41 (by decide) ?_
  refine lv_iload_n hx hb dX7_spell_4 rfl (lv_at hl 0 rfl) ?_
  refine lv_bipush (v := 6) hx hb dX7_spell_5 (by decide) ?_
  refine lv_icmp_ge (tgt := 44) hx hb dX7_spell_7 (by decide) (fun c => absurd c (by decide)) (fun _ => ?_)
  refine lv_iload_n hx hb dX7_spell_10 rfl (lv_at hl 1 rfl) ?_
  refine lv_bipush (v := 27) hx hb dX7_spell_11 (by decide) ?_
  refine k_imul (v := 187463295) hx hb (by decide) dX7_spell_13 ?_
  refine lv_iload_n hx hb dX7_spell_14 rfl (lv_at hl 0 rfl) ?_
  refine lv_aload_n hx hb dX7_spell_15 rfl (lv_at hl 2 rfl) ?_
  have hFc : ∀ q : Nat, va_A [] H1.size q → A q := fun q h => by
    rcases h with ⟨k9, e9, h9⟩ | h9
    · simp at h9
    · exact hA q (Nat.le_trans hS.1 h9)
  refine va_calli (va_runV (As := []) (rest := [.int 5, .int 187463295]) ⟨hx, hb, hml, hown, hts⟩ (c_J0_length_8abf5 l adK adV z 2 H1.size (by decide)) (cwV 0 hts (gV t_440 t_441 t_442 t_142 t_443) rfl rfl rfl (by decide +kernel) ⟨Nat.le_of_ble_eq_true rfl, Nat.le_of_ble_eq_true rfl⟩) ⟨jBlind, vk_recv (i := 2) hE (by decide) hS, jGo hE0 hAz hS hz⟩ rfl rfl hl.1 rfl (lv_room (Nat.le_of_ble_eq_true rfl)) dX7_spell_16 ⟨Nat.le_of_ble_eq_true rfl, Nat.le_of_ble_eq_true rfl⟩) hS (fun q _ h => hFc q h) hFc (fun r9 u t H1 locs ht hvm hw hB hz1 hk1 hS => ?_)
  obtain rfl : r9 = 5 := hw.trans (by decide)
  refine lv_icmp_ge (tgt := 35) hx hb dX7_spell_19 (by decide) (fun _ => ?_) (fun c => absurd (by decide) c)
  refine lv_iconst (v := 0) hx hb dX7_spell_35 (by decide) ?_
  refine k_iadd (v := 187463295) hx hb (by decide) dX7_spell_36 ?_
  refine lv_istore_n (lv' := [(1, .int 187463295), (2, .int 5), (0, .ref (adK 2))]) hx hb dX7_spell_37 rfl hl (by decide) rfl (fun ls hl => ?_)
  refine lv_iinc (v := 6) (lv' := [(2, .int 6), (1, .int 187463295), (0, .ref (adK 2))]) hx hb dX7_spell_38 hl (k := 1) rfl (by decide) (by decide) rfl (fun ls hl => ?_)
  refine lv_goto (tgt := 4) hx hb dX7_spell_41 (by decide) ?_
  refine lv_iload_n hx hb dX7_spell_4 rfl (lv_at hl 0 rfl) ?_
  refine lv_bipush (v := 6) hx hb dX7_spell_5 (by decide) ?_
  refine lv_icmp_ge (tgt := 44) hx hb dX7_spell_7 (by decide) (fun _ => ?_) (fun c => absurd (by decide) c)
  refine lv_iload_n hx hb dX7_spell_44 rfl (lv_at hl 1 rfl) ?_
  exact W.iret (v := 187463295) hx hb hr (fun t ht hW => ⟨⟨187463295, (), rfl, rfl, trivial⟩, hS.F ht⟩) hS.2.2 dX7_spell_45
set_option maxHeartbeats 4000000 in
set_option maxRecDepth 100000 in
theorem c_X7_spell_3 (l : Launch) (adK adV : Nat → Nat) (z : Nat) (sz : Nat) : Met l yX7_spell (.code yX7_spell cX7_spell 3 (some .int) :: WT) ({ frames := 8, cells := 0, slots := 0, locals := 700 }) (va_Pc [.ref (adK 3)] (jPre adK adV z sz)) (va_Qi (fun (r : Int32) (u : Unit) => r = 24170724) (fun _ _ => True) (va_A [] sz)) 0 0 (va_A [] sz) := by
  refine Met.ofW (cc := cX7_spell) (maxL := 3) (ret := (some .int)) (by decide) rfl ?_
  intro p e s m args below meth c s₁ B hml hv
  obtain ⟨rfl, hsz, hE0, hz⟩ := hv
  have hx := B.exec
  have hb := B.bytes
  have hr := B.returns
  have hts0 := atoms_spec (ws := .code yX7_spell cX7_spell 3 (some .int) :: WT) B.pre
  have hts : ∀ w ∈ WT, w.before _ s = true := fun w h => hts0 w (List.mem_cons_of_mem _ h)
  have hown : s.vm.findClass RX7 = some m.cls := findClass_of_methodNamed B.named
  have hlocks := B.notSynchronized
  subst hsz
  have hAz : ∀ q : Nat, va_A [] s.heap.size q → z ≤ q := fun q h => by
    rcases h with ⟨k9, e9, h9⟩ | h9
    · simp at h9
    · exact Nat.le_trans hz h9
  generalize hAe : va_A [] s.heap.size = A at hAz ⊢
  have hA : ∀ q : Nat, s.heap.size ≤ q → A q := fun q h => by rw [← hAe]; exact Or.inr h
  have hS : va_S A s.heap s.heap [] := va_S.rf
  have hE : vk_S 11 lenS bytS adK adV A s s.heap := hE0.1.narrow hAz
  have hZ : va_Z "java/lang/String" "COMPACT_STRINGS" "Z" (.int 1) A s s.heap := hE0.2.1.narrow hAz
  have hZq : va_Zq "jdk/internal/util/Preconditions" "SIOOBE_FORMATTER" "Ljava/util/function/BiFunction;" A s s.heap := hE0.2.2.1.narrow hAz
  have hl := lv_entry ([.ref (adK 3)]) (n := 3) (Nat.le_of_ble_eq_true rfl)
  rw [lg_entry_eq]
  generalize (lg_sl ([.ref (adK 3)]) ++ List.replicate (3 - (lg_sl ([.ref (adK 3)])).length) Slot.unset).toArray = ls at hl ⊢
  have hl : lv_has ls 3 [(0, .ref (adK 3))] := hl
  refine lv_iconst (v := 0) hx hb dX7_spell_0 (by decide) ?_
  refine lv_istore_n (lv' := [(1, .int 0), (0, .ref (adK 3))]) hx hb dX7_spell_1 rfl hl (by decide) rfl (fun ls hl => ?_)
  refine lv_iconst (v := 0) hx hb dX7_spell_2 (by decide) ?_
  refine lv_istore_n (lv' := [(2, .int 0), (1, .int 0), (0, .ref (adK 3))]) hx hb dX7_spell_3 rfl hl (by decide) rfl (fun ls hl => ?_)
  refine lv_iload_n hx hb dX7_spell_4 rfl (lv_at hl 0 rfl) ?_
  refine lv_bipush (v := 6) hx hb dX7_spell_5 (by decide) ?_
  refine lv_icmp_ge (tgt := 44) hx hb dX7_spell_7 (by decide) (fun c => absurd c (by decide)) (fun _ => ?_)
  refine lv_iload_n hx hb dX7_spell_10 rfl (lv_at hl 1 rfl) ?_
  refine lv_bipush (v := 27) hx hb dX7_spell_11 (by decide) ?_
  refine k_imul (v := 0) hx hb (by decide) dX7_spell_13 ?_
  refine lv_iload_n hx hb dX7_spell_14 rfl (lv_at hl 0 rfl) ?_
  refine lv_aload_n hx hb dX7_spell_15 rfl (lv_at hl 2 rfl) ?_
  have hFc : ∀ q : Nat, va_A [] s.heap.size q → A q := fun q h => by
    rcases h with ⟨k9, e9, h9⟩ | h9
    · simp at h9
    · exact hA q (Nat.le_trans hS.1 h9)
  refine va_calli (va_runV (As := []) (rest := [.int 0, .int 0]) ⟨hx, hb, hml, hown, hts⟩ (c_J0_length_8abf5 l adK adV z 3 s.heap.size (by decide)) (cwV 0 hts (gV t_440 t_441 t_442 t_142 t_443) rfl rfl rfl (by decide +kernel) ⟨Nat.le_of_ble_eq_true rfl, Nat.le_of_ble_eq_true rfl⟩) ⟨jBlind, vk_recv (i := 3) hE (by decide) hS, jGo hE0 hAz hS hz⟩ rfl rfl hl.1 rfl (lv_room (Nat.le_of_ble_eq_true rfl)) dX7_spell_16 ⟨Nat.le_of_ble_eq_true rfl, Nat.le_of_ble_eq_true rfl⟩) hS (fun q _ h => hFc q h) hFc (fun r9 u t H1 locs ht hvm hw hB hz1 hk1 hS => ?_)
  obtain rfl : r9 = 3 := hw.trans (by decide)
  refine lv_icmp_ge (tgt := 35) hx hb dX7_spell_19 (by decide) (fun c => absurd c (by decide)) (fun _ => ?_)
  refine lv_aload_n hx hb dX7_spell_22 rfl (lv_at hl 2 rfl) ?_
  refine lv_iload_n hx hb dX7_spell_23 rfl (lv_at hl 0 rfl) ?_
  have hFc : ∀ q : Nat, va_A [] H1.size q → A q := fun q h => by
    rcases h with ⟨k9, e9, h9⟩ | h9
    · simp at h9
    · exact hA q (Nat.le_trans hS.1 h9)
  refine va_calli (va_runV (As := [.int (nI 0)]) (rest := [.int 0]) ⟨hx, hb, hml, hown, hts⟩ (c_J0_charAt_5068e l adK adV z 3 0 H1.size (by decide) (by decide)) (cwV 1 hts (gV t_450 t_451 t_452 t_142 t_453) rfl rfl rfl (by decide +kernel) ⟨Nat.le_of_ble_eq_true rfl, Nat.le_of_ble_eq_true rfl⟩) ⟨jBlind, vk_recv (i := 3) hE (by decide) hS, jGo hE0 hAz hS hz⟩ rfl rfl hl.1 rfl (lv_room (Nat.le_of_ble_eq_true rfl)) dX7_spell_24 ⟨Nat.le_of_ble_eq_true rfl, Nat.le_of_ble_eq_true rfl⟩) hS (fun q _ h => hFc q h) hFc (fun r9 u t H1 locs ht hvm hw hB hz1 hk1 hS => ?_)
  obtain rfl : r9 = 97 := hw.trans (by decide)
  refine lv_bipush (v := 97) hx hb dX7_spell_27 (by decide) ?_
  refine k_isub (v := 0) hx hb (by decide) dX7_spell_29 ?_
  refine lv_iconst (v := 1) hx hb dX7_spell_30 (by decide) ?_
  refine k_iadd (v := 1) hx hb (by decide) dX7_spell_31 ?_
  refine lv_goto (tgt := 36) hx hb dX7_spell_32 (by decide) ?_
  refine k_iadd (v := 1) hx hb (by decide) dX7_spell_36 ?_
  refine lv_istore_n (lv' := [(1, .int 1), (2, .int 0), (0, .ref (adK 3))]) hx hb dX7_spell_37 rfl hl (by decide) rfl (fun ls hl => ?_)
  refine lv_iinc (v := 1) (lv' := [(2, .int 1), (1, .int 1), (0, .ref (adK 3))]) hx hb dX7_spell_38 hl (k := 1) rfl (by decide) (by decide) rfl (fun ls hl => ?_)
  refine lv_goto (tgt := 4) hx hb dX7_spell_41 (by decide) ?_
  refine lv_iload_n hx hb dX7_spell_4 rfl (lv_at hl 0 rfl) ?_
  refine lv_bipush (v := 6) hx hb dX7_spell_5 (by decide) ?_
  refine lv_icmp_ge (tgt := 44) hx hb dX7_spell_7 (by decide) (fun c => absurd c (by decide)) (fun _ => ?_)
  refine lv_iload_n hx hb dX7_spell_10 rfl (lv_at hl 1 rfl) ?_
  refine lv_bipush (v := 27) hx hb dX7_spell_11 (by decide) ?_
  refine k_imul (v := 27) hx hb (by decide) dX7_spell_13 ?_
  refine lv_iload_n hx hb dX7_spell_14 rfl (lv_at hl 0 rfl) ?_
  refine lv_aload_n hx hb dX7_spell_15 rfl (lv_at hl 2 rfl) ?_
  have hFc : ∀ q : Nat, va_A [] H1.size q → A q := fun q h => by
    rcases h with ⟨k9, e9, h9⟩ | h9
    · simp at h9
    · exact hA q (Nat.le_trans hS.1 h9)
  refine va_calli (va_runV (As := []) (rest := [.int 1, .int 27]) ⟨hx, hb, hml, hown, hts⟩ (c_J0_length_8abf5 l adK adV z 3 H1.size (by decide)) (cwV 0 hts (gV t_440 t_441 t_442 t_142 t_443) rfl rfl rfl (by decide +kernel) ⟨Nat.le_of_ble_eq_true rfl, Nat.le_of_ble_eq_true rfl⟩) ⟨jBlind, vk_recv (i := 3) hE (by decide) hS, jGo hE0 hAz hS hz⟩ rfl rfl hl.1 rfl (lv_room (Nat.le_of_ble_eq_true rfl)) dX7_spell_16 ⟨Nat.le_of_ble_eq_true rfl, Nat.le_of_ble_eq_true rfl⟩) hS (fun q _ h => hFc q h) hFc (fun r9 u t H1 locs ht hvm hw hB hz1 hk1 hS => ?_)
  obtain rfl : r9 = 3 := hw.trans (by decide)
  refine lv_icmp_ge (tgt := 35) hx hb dX7_spell_19 (by decide) (fun c => absurd c (by decide)) (fun _ => ?_)
  refine lv_aload_n hx hb dX7_spell_22 rfl (lv_at hl 2 rfl) ?_
  refine lv_iload_n hx hb dX7_spell_23 rfl (lv_at hl 0 rfl) ?_
  have hFc : ∀ q : Nat, va_A [] H1.size q → A q := fun q h => by
    rcases h with ⟨k9, e9, h9⟩ | h9
    · simp at h9
    · exact hA q (Nat.le_trans hS.1 h9)
  refine va_calli (va_runV (As := [.int (nI 1)]) (rest := [.int 27]) ⟨hx, hb, hml, hown, hts⟩ (c_J0_charAt_5068e l adK adV z 3 1 H1.size (by decide) (by decide)) (cwV 1 hts (gV t_450 t_451 t_452 t_142 t_453) rfl rfl rfl (by decide +kernel) ⟨Nat.le_of_ble_eq_true rfl, Nat.le_of_ble_eq_true rfl⟩) ⟨jBlind, vk_recv (i := 3) hE (by decide) hS, jGo hE0 hAz hS hz⟩ rfl rfl hl.1 rfl (lv_room (Nat.le_of_ble_eq_true rfl)) dX7_spell_24 ⟨Nat.le_of_ble_eq_true rfl, Nat.le_of_ble_eq_true rfl⟩) hS (fun q _ h => hFc q h) hFc (fun r9 u t H1 locs ht hvm hw hB hz1 hk1 hS => ?_)
  obtain rfl : r9 = 114 := hw.trans (by decide)
  refine lv_bipush (v := 97) hx hb dX7_spell_27 (by decide) ?_
  refine k_isub (v := 17) hx hb (by decide) dX7_spell_29 ?_
  refine lv_iconst (v := 1) hx hb dX7_spell_30 (by decide) ?_
  refine k_iadd (v := 18) hx hb (by decide) dX7_spell_31 ?_
  refine lv_goto (tgt := 36) hx hb dX7_spell_32 (by decide) ?_
  refine k_iadd (v := 45) hx hb (by decide) dX7_spell_36 ?_
  refine lv_istore_n (lv' := [(1, .int 45), (2, .int 1), (0, .ref (adK 3))]) hx hb dX7_spell_37 rfl hl (by decide) rfl (fun ls hl => ?_)
  refine lv_iinc (v := 2) (lv' := [(2, .int 2), (1, .int 45), (0, .ref (adK 3))]) hx hb dX7_spell_38 hl (k := 1) rfl (by decide) (by decide) rfl (fun ls hl => ?_)
  refine lv_goto (tgt := 4) hx hb dX7_spell_41 (by decide) ?_
  refine lv_iload_n hx hb dX7_spell_4 rfl (lv_at hl 0 rfl) ?_
  refine lv_bipush (v := 6) hx hb dX7_spell_5 (by decide) ?_
  refine lv_icmp_ge (tgt := 44) hx hb dX7_spell_7 (by decide) (fun c => absurd c (by decide)) (fun _ => ?_)
  refine lv_iload_n hx hb dX7_spell_10 rfl (lv_at hl 1 rfl) ?_
  refine lv_bipush (v := 27) hx hb dX7_spell_11 (by decide) ?_
  refine k_imul (v := 1215) hx hb (by decide) dX7_spell_13 ?_
  refine lv_iload_n hx hb dX7_spell_14 rfl (lv_at hl 0 rfl) ?_
  refine lv_aload_n hx hb dX7_spell_15 rfl (lv_at hl 2 rfl) ?_
  have hFc : ∀ q : Nat, va_A [] H1.size q → A q := fun q h => by
    rcases h with ⟨k9, e9, h9⟩ | h9
    · simp at h9
    · exact hA q (Nat.le_trans hS.1 h9)
  refine va_calli (va_runV (As := []) (rest := [.int 2, .int 1215]) ⟨hx, hb, hml, hown, hts⟩ (c_J0_length_8abf5 l adK adV z 3 H1.size (by decide)) (cwV 0 hts (gV t_440 t_441 t_442 t_142 t_443) rfl rfl rfl (by decide +kernel) ⟨Nat.le_of_ble_eq_true rfl, Nat.le_of_ble_eq_true rfl⟩) ⟨jBlind, vk_recv (i := 3) hE (by decide) hS, jGo hE0 hAz hS hz⟩ rfl rfl hl.1 rfl (lv_room (Nat.le_of_ble_eq_true rfl)) dX7_spell_16 ⟨Nat.le_of_ble_eq_true rfl, Nat.le_of_ble_eq_true rfl⟩) hS (fun q _ h => hFc q h) hFc (fun r9 u t H1 locs ht hvm hw hB hz1 hk1 hS => ?_)
  obtain rfl : r9 = 3 := hw.trans (by decide)
  refine lv_icmp_ge (tgt := 35) hx hb dX7_spell_19 (by decide) (fun c => absurd c (by decide)) (fun _ => ?_)
  refine lv_aload_n hx hb dX7_spell_22 rfl (lv_at hl 2 rfl) ?_
  refine lv_iload_n hx hb dX7_spell_23 rfl (lv_at hl 0 rfl) ?_
  have hFc : ∀ q : Nat, va_A [] H1.size q → A q := fun q h => by
    rcases h with ⟨k9, e9, h9⟩ | h9
    · simp at h9
    · exact hA q (Nat.le_trans hS.1 h9)
  refine va_calli (va_runV (As := [.int (nI 2)]) (rest := [.int 1215]) ⟨hx, hb, hml, hown, hts⟩ (c_J0_charAt_5068e l adK adV z 3 2 H1.size (by decide) (by decide)) (cwV 1 hts (gV t_450 t_451 t_452 t_142 t_453) rfl rfl rfl (by decide +kernel) ⟨Nat.le_of_ble_eq_true rfl, Nat.le_of_ble_eq_true rfl⟩) ⟨jBlind, vk_recv (i := 3) hE (by decide) hS, jGo hE0 hAz hS hz⟩ rfl rfl hl.1 rfl (lv_room (Nat.le_of_ble_eq_true rfl)) dX7_spell_24 ⟨Nat.le_of_ble_eq_true rfl, Nat.le_of_ble_eq_true rfl⟩) hS (fun q _ h => hFc q h) hFc (fun r9 u t H1 locs ht hvm hw hB hz1 hk1 hS => ?_)
  obtain rfl : r9 = 109 := hw.trans (by decide)
  refine lv_bipush (v := 97) hx hb dX7_spell_27 (by decide) ?_
  refine k_isub (v := 12) hx hb (by decide) dX7_spell_29 ?_
  refine lv_iconst (v := 1) hx hb dX7_spell_30 (by decide) ?_
  refine k_iadd (v := 13) hx hb (by decide) dX7_spell_31 ?_
  refine lv_goto (tgt := 36) hx hb dX7_spell_32 (by decide) ?_
  refine k_iadd (v := 1228) hx hb (by decide) dX7_spell_36 ?_
  refine lv_istore_n (lv' := [(1, .int 1228), (2, .int 2), (0, .ref (adK 3))]) hx hb dX7_spell_37 rfl hl (by decide) rfl (fun ls hl => ?_)
  refine lv_iinc (v := 3) (lv' := [(2, .int 3), (1, .int 1228), (0, .ref (adK 3))]) hx hb dX7_spell_38 hl (k := 1) rfl (by decide) (by decide) rfl (fun ls hl => ?_)
  refine lv_goto (tgt := 4) hx hb dX7_spell_41 (by decide) ?_
  refine lv_iload_n hx hb dX7_spell_4 rfl (lv_at hl 0 rfl) ?_
  refine lv_bipush (v := 6) hx hb dX7_spell_5 (by decide) ?_
  refine lv_icmp_ge (tgt := 44) hx hb dX7_spell_7 (by decide) (fun c => absurd c (by decide)) (fun _ => ?_)
  refine lv_iload_n hx hb dX7_spell_10 rfl (lv_at hl 1 rfl) ?_
  refine lv_bipush (v := 27) hx hb dX7_spell_11 (by decide) ?_
  refine k_imul (v := 33156) hx hb (by decide) dX7_spell_13 ?_
  refine lv_iload_n hx hb dX7_spell_14 rfl (lv_at hl 0 rfl) ?_
  refine lv_aload_n hx hb dX7_spell_15 rfl (lv_at hl 2 rfl) ?_
  have hFc : ∀ q : Nat, va_A [] H1.size q → A q := fun q h => by
    rcases h with ⟨k9, e9, h9⟩ | h9
    · simp at h9
    · exact hA q (Nat.le_trans hS.1 h9)
  refine va_calli (va_runV (As := []) (rest := [.int 3, .int 33156]) ⟨hx, hb, hml, hown, hts⟩ (c_J0_length_8abf5 l adK adV z 3 H1.size (by decide)) (cwV 0 hts (gV t_440 t_441 t_442 t_142 t_443) rfl rfl rfl (by decide +kernel) ⟨Nat.le_of_ble_eq_true rfl, Nat.le_of_ble_eq_true rfl⟩) ⟨jBlind, vk_recv (i := 3) hE (by decide) hS, jGo hE0 hAz hS hz⟩ rfl rfl hl.1 rfl (lv_room (Nat.le_of_ble_eq_true rfl)) dX7_spell_16 ⟨Nat.le_of_ble_eq_true rfl, Nat.le_of_ble_eq_true rfl⟩) hS (fun q _ h => hFc q h) hFc (fun r9 u t H1 locs ht hvm hw hB hz1 hk1 hS => ?_)
  obtain rfl : r9 = 3 := hw.trans (by decide)
  refine lv_icmp_ge (tgt := 35) hx hb dX7_spell_19 (by decide) (fun _ => ?_) (fun c => absurd (by decide) c)
  refine lv_iconst (v := 0) hx hb dX7_spell_35 (by decide) ?_
  refine k_iadd (v := 33156) hx hb (by decide) dX7_spell_36 ?_
  refine lv_istore_n (lv' := [(1, .int 33156), (2, .int 3), (0, .ref (adK 3))]) hx hb dX7_spell_37 rfl hl (by decide) rfl (fun ls hl => ?_)
  refine lv_iinc (v := 4) (lv' := [(2, .int 4), (1, .int 33156), (0, .ref (adK 3))]) hx hb dX7_spell_38 hl (k := 1) rfl (by decide) (by decide) rfl (fun ls hl => ?_)
  refine lv_goto (tgt := 4) hx hb dX7_spell_41 (by decide) ?_
  refine lv_iload_n hx hb dX7_spell_4 rfl (lv_at hl 0 rfl) ?_
  refine lv_bipush (v := 6) hx hb dX7_spell_5 (by decide) ?_
  refine lv_icmp_ge (tgt := 44) hx hb dX7_spell_7 (by decide) (fun c => absurd c (by decide)) (fun _ => ?_)
  refine lv_iload_n hx hb dX7_spell_10 rfl (lv_at hl 1 rfl) ?_
  refine lv_bipush (v := 27) hx hb dX7_spell_11 (by decide) ?_
  refine k_imul (v := 895212) hx hb (by decide) dX7_spell_13 ?_
  refine lv_iload_n hx hb dX7_spell_14 rfl (lv_at hl 0 rfl) ?_
  refine lv_aload_n hx hb dX7_spell_15 rfl (lv_at hl 2 rfl) ?_
  have hFc : ∀ q : Nat, va_A [] H1.size q → A q := fun q h => by
    rcases h with ⟨k9, e9, h9⟩ | h9
    · simp at h9
    · exact hA q (Nat.le_trans hS.1 h9)
  refine va_calli (va_runV (As := []) (rest := [.int 4, .int 895212]) ⟨hx, hb, hml, hown, hts⟩ (c_J0_length_8abf5 l adK adV z 3 H1.size (by decide)) (cwV 0 hts (gV t_440 t_441 t_442 t_142 t_443) rfl rfl rfl (by decide +kernel) ⟨Nat.le_of_ble_eq_true rfl, Nat.le_of_ble_eq_true rfl⟩) ⟨jBlind, vk_recv (i := 3) hE (by decide) hS, jGo hE0 hAz hS hz⟩ rfl rfl hl.1 rfl (lv_room (Nat.le_of_ble_eq_true rfl)) dX7_spell_16 ⟨Nat.le_of_ble_eq_true rfl, Nat.le_of_ble_eq_true rfl⟩) hS (fun q _ h => hFc q h) hFc (fun r9 u t H1 locs ht hvm hw hB hz1 hk1 hS => ?_)
  obtain rfl : r9 = 3 := hw.trans (by decide)
  refine lv_icmp_ge (tgt := 35) hx hb dX7_spell_19 (by decide) (fun _ => ?_) (fun c => absurd (by decide) c)
  refine lv_iconst (v := 0) hx hb dX7_spell_35 (by decide) ?_
  refine k_iadd (v := 895212) hx hb (by decide) dX7_spell_36 ?_
  refine lv_istore_n (lv' := [(1, .int 895212), (2, .int 4), (0, .ref (adK 3))]) hx hb dX7_spell_37 rfl hl (by decide) rfl (fun ls hl => ?_)
  refine lv_iinc (v := 5) (lv' := [(2, .int 5), (1, .int 895212), (0, .ref (adK 3))]) hx hb dX7_spell_38 hl (k := 1) rfl (by decide) (by decide) rfl (fun ls hl => ?_)
  refine lv_goto (tgt := 4) hx hb dX7_spell_41 (by decide) ?_
  refine lv_iload_n hx hb dX7_spell_4 rfl (lv_at hl 0 rfl) ?_
  refine lv_bipush (v := 6) hx hb dX7_spell_5 (by decide) ?_
  refine lv_icmp_ge (tgt := 44) hx hb dX7_spell_7 (by decide) (fun c => absurd c (by decide)) (fun _ => ?_)
  refine lv_iload_n hx hb dX7_spell_10 rfl (lv_at hl 1 rfl) ?_
  refine lv_bipush (v := 27) hx hb dX7_spell_11 (by decide) ?_
  refine k_imul (v := 24170724) hx hb (by decide) dX7_spell_13 ?_
  refine lv_iload_n hx hb dX7_spell_14 rfl (lv_at hl 0 rfl) ?_
  refine lv_aload_n hx hb dX7_spell_15 rfl (lv_at hl 2 rfl) ?_
  have hFc : ∀ q : Nat, va_A [] H1.size q → A q := fun q h => by
    rcases h with ⟨k9, e9, h9⟩ | h9
    · simp at h9
    · exact hA q (Nat.le_trans hS.1 h9)
  refine va_calli (va_runV (As := []) (rest := [.int 5, .int 24170724]) ⟨hx, hb, hml, hown, hts⟩ (c_J0_length_8abf5 l adK adV z 3 H1.size (by decide)) (cwV 0 hts (gV t_440 t_441 t_442 t_142 t_443) rfl rfl rfl (by decide +kernel) ⟨Nat.le_of_ble_eq_true rfl, Nat.le_of_ble_eq_true rfl⟩) ⟨jBlind, vk_recv (i := 3) hE (by decide) hS, jGo hE0 hAz hS hz⟩ rfl rfl hl.1 rfl (lv_room (Nat.le_of_ble_eq_true rfl)) dX7_spell_16 ⟨Nat.le_of_ble_eq_true rfl, Nat.le_of_ble_eq_true rfl⟩) hS (fun q _ h => hFc q h) hFc (fun r9 u t H1 locs ht hvm hw hB hz1 hk1 hS => ?_)
  obtain rfl : r9 = 3 := hw.trans (by decide)
  refine lv_icmp_ge (tgt := 35) hx hb dX7_spell_19 (by decide) (fun _ => ?_) (fun c => absurd (by decide) c)
  refine lv_iconst (v := 0) hx hb dX7_spell_35 (by decide) ?_
  refine k_iadd (v := 24170724) hx hb (by decide) dX7_spell_36 ?_
  refine lv_istore_n (lv' := [(1, .int 24170724), (2, .int 5), (0, .ref (adK 3))]) hx hb dX7_spell_37 rfl hl (by decide) rfl (fun ls hl => ?_)
  refine lv_iinc (v := 6) (lv' := [(2, .int 6), (1, .int 24170724), (0, .ref (adK 3))]) hx hb dX7_spell_38 hl (k := 1) rfl (by decide) (by decide) rfl (fun ls hl => ?_)
  refine lv_goto (tgt := 4) hx hb dX7_spell_41 (by decide) ?_
  refine lv_iload_n hx hb dX7_spell_4 rfl (lv_at hl 0 rfl) ?_
  refine lv_bipush (v := 6) hx hb dX7_spell_5 (by decide) ?_
  refine lv_icmp_ge (tgt := 44) hx hb dX7_spell_7 (by decide) (fun _ => ?_) (fun c => absurd (by decide) c)
  refine lv_iload_n hx hb dX7_spell_44 rfl (lv_at hl 1 rfl) ?_
  exact W.iret (v := 24170724) hx hb hr (fun t ht hW => ⟨⟨24170724, (), rfl, rfl, trivial⟩, hS.F ht⟩) hS.2.2 dX7_spell_45
set_option maxHeartbeats 4000000 in
set_option maxRecDepth 100000 in
theorem c_X7_spell_4 (l : Launch) (adK adV : Nat → Nat) (z : Nat) (sz : Nat) : Met l yX7_spell (.code yX7_spell cX7_spell 3 (some .int) :: WT) ({ frames := 8, cells := 0, slots := 0, locals := 700 }) (va_Pc [.ref (adK 4)] (jPre adK adV z sz)) (va_Qi (fun (r : Int32) (u : Unit) => r = 334385010) (fun _ _ => True) (va_A [] sz)) 0 0 (va_A [] sz) := by
  refine Met.ofW (cc := cX7_spell) (maxL := 3) (ret := (some .int)) (by decide) rfl ?_
  intro p e s m args below meth c s₁ B hml hv
  obtain ⟨rfl, hsz, hE0, hz⟩ := hv
  have hx := B.exec
  have hb := B.bytes
  have hr := B.returns
  have hts0 := atoms_spec (ws := .code yX7_spell cX7_spell 3 (some .int) :: WT) B.pre
  have hts : ∀ w ∈ WT, w.before _ s = true := fun w h => hts0 w (List.mem_cons_of_mem _ h)
  have hown : s.vm.findClass RX7 = some m.cls := findClass_of_methodNamed B.named
  have hlocks := B.notSynchronized
  subst hsz
  have hAz : ∀ q : Nat, va_A [] s.heap.size q → z ≤ q := fun q h => by
    rcases h with ⟨k9, e9, h9⟩ | h9
    · simp at h9
    · exact Nat.le_trans hz h9
  generalize hAe : va_A [] s.heap.size = A at hAz ⊢
  have hA : ∀ q : Nat, s.heap.size ≤ q → A q := fun q h => by rw [← hAe]; exact Or.inr h
  have hS : va_S A s.heap s.heap [] := va_S.rf
  have hE : vk_S 11 lenS bytS adK adV A s s.heap := hE0.1.narrow hAz
  have hZ : va_Z "java/lang/String" "COMPACT_STRINGS" "Z" (.int 1) A s s.heap := hE0.2.1.narrow hAz
  have hZq : va_Zq "jdk/internal/util/Preconditions" "SIOOBE_FORMATTER" "Ljava/util/function/BiFunction;" A s s.heap := hE0.2.2.1.narrow hAz
  have hl := lv_entry ([.ref (adK 4)]) (n := 3) (Nat.le_of_ble_eq_true rfl)
  rw [lg_entry_eq]
  generalize (lg_sl ([.ref (adK 4)]) ++ List.replicate (3 - (lg_sl ([.ref (adK 4)])).length) Slot.unset).toArray = ls at hl ⊢
  have hl : lv_has ls 3 [(0, .ref (adK 4))] := hl
  refine lv_iconst (v := 0) hx hb dX7_spell_0 (by decide) ?_
  refine lv_istore_n (lv' := [(1, .int 0), (0, .ref (adK 4))]) hx hb dX7_spell_1 rfl hl (by decide) rfl (fun ls hl => ?_)
  refine lv_iconst (v := 0) hx hb dX7_spell_2 (by decide) ?_
  refine lv_istore_n (lv' := [(2, .int 0), (1, .int 0), (0, .ref (adK 4))]) hx hb dX7_spell_3 rfl hl (by decide) rfl (fun ls hl => ?_)
  refine lv_iload_n hx hb dX7_spell_4 rfl (lv_at hl 0 rfl) ?_
  refine lv_bipush (v := 6) hx hb dX7_spell_5 (by decide) ?_
  refine lv_icmp_ge (tgt := 44) hx hb dX7_spell_7 (by decide) (fun c => absurd c (by decide)) (fun _ => ?_)
  refine lv_iload_n hx hb dX7_spell_10 rfl (lv_at hl 1 rfl) ?_
  refine lv_bipush (v := 27) hx hb dX7_spell_11 (by decide) ?_
  refine k_imul (v := 0) hx hb (by decide) dX7_spell_13 ?_
  refine lv_iload_n hx hb dX7_spell_14 rfl (lv_at hl 0 rfl) ?_
  refine lv_aload_n hx hb dX7_spell_15 rfl (lv_at hl 2 rfl) ?_
  have hFc : ∀ q : Nat, va_A [] s.heap.size q → A q := fun q h => by
    rcases h with ⟨k9, e9, h9⟩ | h9
    · simp at h9
    · exact hA q (Nat.le_trans hS.1 h9)
  refine va_calli (va_runV (As := []) (rest := [.int 0, .int 0]) ⟨hx, hb, hml, hown, hts⟩ (c_J0_length_8abf5 l adK adV z 4 s.heap.size (by decide)) (cwV 0 hts (gV t_440 t_441 t_442 t_142 t_443) rfl rfl rfl (by decide +kernel) ⟨Nat.le_of_ble_eq_true rfl, Nat.le_of_ble_eq_true rfl⟩) ⟨jBlind, vk_recv (i := 4) hE (by decide) hS, jGo hE0 hAz hS hz⟩ rfl rfl hl.1 rfl (lv_room (Nat.le_of_ble_eq_true rfl)) dX7_spell_16 ⟨Nat.le_of_ble_eq_true rfl, Nat.le_of_ble_eq_true rfl⟩) hS (fun q _ h => hFc q h) hFc (fun r9 u t H1 locs ht hvm hw hB hz1 hk1 hS => ?_)
  obtain rfl : r9 = 4 := hw.trans (by decide)
  refine lv_icmp_ge (tgt := 35) hx hb dX7_spell_19 (by decide) (fun c => absurd c (by decide)) (fun _ => ?_)
  refine lv_aload_n hx hb dX7_spell_22 rfl (lv_at hl 2 rfl) ?_
  refine lv_iload_n hx hb dX7_spell_23 rfl (lv_at hl 0 rfl) ?_
  have hFc : ∀ q : Nat, va_A [] H1.size q → A q := fun q h => by
    rcases h with ⟨k9, e9, h9⟩ | h9
    · simp at h9
    · exact hA q (Nat.le_trans hS.1 h9)
  refine va_calli (va_runV (As := [.int (nI 0)]) (rest := [.int 0]) ⟨hx, hb, hml, hown, hts⟩ (c_J0_charAt_5068e l adK adV z 4 0 H1.size (by decide) (by decide)) (cwV 1 hts (gV t_450 t_451 t_452 t_142 t_453) rfl rfl rfl (by decide +kernel) ⟨Nat.le_of_ble_eq_true rfl, Nat.le_of_ble_eq_true rfl⟩) ⟨jBlind, vk_recv (i := 4) hE (by decide) hS, jGo hE0 hAz hS hz⟩ rfl rfl hl.1 rfl (lv_room (Nat.le_of_ble_eq_true rfl)) dX7_spell_24 ⟨Nat.le_of_ble_eq_true rfl, Nat.le_of_ble_eq_true rfl⟩) hS (fun q _ h => hFc q h) hFc (fun r9 u t H1 locs ht hvm hw hB hz1 hk1 hS => ?_)
  obtain rfl : r9 = 119 := hw.trans (by decide)
  refine lv_bipush (v := 97) hx hb dX7_spell_27 (by decide) ?_
  refine k_isub (v := 22) hx hb (by decide) dX7_spell_29 ?_
  refine lv_iconst (v := 1) hx hb dX7_spell_30 (by decide) ?_
  refine k_iadd (v := 23) hx hb (by decide) dX7_spell_31 ?_
  refine lv_goto (tgt := 36) hx hb dX7_spell_32 (by decide) ?_
  refine k_iadd (v := 23) hx hb (by decide) dX7_spell_36 ?_
  refine lv_istore_n (lv' := [(1, .int 23), (2, .int 0), (0, .ref (adK 4))]) hx hb dX7_spell_37 rfl hl (by decide) rfl (fun ls hl => ?_)
  refine lv_iinc (v := 1) (lv' := [(2, .int 1), (1, .int 23), (0, .ref (adK 4))]) hx hb dX7_spell_38 hl (k := 1) rfl (by decide) (by decide) rfl (fun ls hl => ?_)
  refine lv_goto (tgt := 4) hx hb dX7_spell_41 (by decide) ?_
  refine lv_iload_n hx hb dX7_spell_4 rfl (lv_at hl 0 rfl) ?_
  refine lv_bipush (v := 6) hx hb dX7_spell_5 (by decide) ?_
  refine lv_icmp_ge (tgt := 44) hx hb dX7_spell_7 (by decide) (fun c => absurd c (by decide)) (fun _ => ?_)
  refine lv_iload_n hx hb dX7_spell_10 rfl (lv_at hl 1 rfl) ?_
  refine lv_bipush (v := 27) hx hb dX7_spell_11 (by decide) ?_
  refine k_imul (v := 621) hx hb (by decide) dX7_spell_13 ?_
  refine lv_iload_n hx hb dX7_spell_14 rfl (lv_at hl 0 rfl) ?_
  refine lv_aload_n hx hb dX7_spell_15 rfl (lv_at hl 2 rfl) ?_
  have hFc : ∀ q : Nat, va_A [] H1.size q → A q := fun q h => by
    rcases h with ⟨k9, e9, h9⟩ | h9
    · simp at h9
    · exact hA q (Nat.le_trans hS.1 h9)
  refine va_calli (va_runV (As := []) (rest := [.int 1, .int 621]) ⟨hx, hb, hml, hown, hts⟩ (c_J0_length_8abf5 l adK adV z 4 H1.size (by decide)) (cwV 0 hts (gV t_440 t_441 t_442 t_142 t_443) rfl rfl rfl (by decide +kernel) ⟨Nat.le_of_ble_eq_true rfl, Nat.le_of_ble_eq_true rfl⟩) ⟨jBlind, vk_recv (i := 4) hE (by decide) hS, jGo hE0 hAz hS hz⟩ rfl rfl hl.1 rfl (lv_room (Nat.le_of_ble_eq_true rfl)) dX7_spell_16 ⟨Nat.le_of_ble_eq_true rfl, Nat.le_of_ble_eq_true rfl⟩) hS (fun q _ h => hFc q h) hFc (fun r9 u t H1 locs ht hvm hw hB hz1 hk1 hS => ?_)
  obtain rfl : r9 = 4 := hw.trans (by decide)
  refine lv_icmp_ge (tgt := 35) hx hb dX7_spell_19 (by decide) (fun c => absurd c (by decide)) (fun _ => ?_)
  refine lv_aload_n hx hb dX7_spell_22 rfl (lv_at hl 2 rfl) ?_
  refine lv_iload_n hx hb dX7_spell_23 rfl (lv_at hl 0 rfl) ?_
  have hFc : ∀ q : Nat, va_A [] H1.size q → A q := fun q h => by
    rcases h with ⟨k9, e9, h9⟩ | h9
    · simp at h9
    · exact hA q (Nat.le_trans hS.1 h9)
  refine va_calli (va_runV (As := [.int (nI 1)]) (rest := [.int 621]) ⟨hx, hb, hml, hown, hts⟩ (c_J0_charAt_5068e l adK adV z 4 1 H1.size (by decide) (by decide)) (cwV 1 hts (gV t_450 t_451 t_452 t_142 t_453) rfl rfl rfl (by decide +kernel) ⟨Nat.le_of_ble_eq_true rfl, Nat.le_of_ble_eq_true rfl⟩) ⟨jBlind, vk_recv (i := 4) hE (by decide) hS, jGo hE0 hAz hS hz⟩ rfl rfl hl.1 rfl (lv_room (Nat.le_of_ble_eq_true rfl)) dX7_spell_24 ⟨Nat.le_of_ble_eq_true rfl, Nat.le_of_ble_eq_true rfl⟩) hS (fun q _ h => hFc q h) hFc (fun r9 u t H1 locs ht hvm hw hB hz1 hk1 hS => ?_)
  obtain rfl : r9 = 104 := hw.trans (by decide)
  refine lv_bipush (v := 97) hx hb dX7_spell_27 (by decide) ?_
  refine k_isub (v := 7) hx hb (by decide) dX7_spell_29 ?_
  refine lv_iconst (v := 1) hx hb dX7_spell_30 (by decide) ?_
  refine k_iadd (v := 8) hx hb (by decide) dX7_spell_31 ?_
  refine lv_goto (tgt := 36) hx hb dX7_spell_32 (by decide) ?_
  refine k_iadd (v := 629) hx hb (by decide) dX7_spell_36 ?_
  refine lv_istore_n (lv' := [(1, .int 629), (2, .int 1), (0, .ref (adK 4))]) hx hb dX7_spell_37 rfl hl (by decide) rfl (fun ls hl => ?_)
  refine lv_iinc (v := 2) (lv' := [(2, .int 2), (1, .int 629), (0, .ref (adK 4))]) hx hb dX7_spell_38 hl (k := 1) rfl (by decide) (by decide) rfl (fun ls hl => ?_)
  refine lv_goto (tgt := 4) hx hb dX7_spell_41 (by decide) ?_
  refine lv_iload_n hx hb dX7_spell_4 rfl (lv_at hl 0 rfl) ?_
  refine lv_bipush (v := 6) hx hb dX7_spell_5 (by decide) ?_
  refine lv_icmp_ge (tgt := 44) hx hb dX7_spell_7 (by decide) (fun c => absurd c (by decide)) (fun _ => ?_)
  refine lv_iload_n hx hb dX7_spell_10 rfl (lv_at hl 1 rfl) ?_
  refine lv_bipush (v := 27) hx hb dX7_spell_11 (by decide) ?_
  refine k_imul (v := 16983) hx hb (by decide) dX7_spell_13 ?_
  refine lv_iload_n hx hb dX7_spell_14 rfl (lv_at hl 0 rfl) ?_
  refine lv_aload_n hx hb dX7_spell_15 rfl (lv_at hl 2 rfl) ?_
  have hFc : ∀ q : Nat, va_A [] H1.size q → A q := fun q h => by
    rcases h with ⟨k9, e9, h9⟩ | h9
    · simp at h9
    · exact hA q (Nat.le_trans hS.1 h9)
  refine va_calli (va_runV (As := []) (rest := [.int 2, .int 16983]) ⟨hx, hb, hml, hown, hts⟩ (c_J0_length_8abf5 l adK adV z 4 H1.size (by decide)) (cwV 0 hts (gV t_440 t_441 t_442 t_142 t_443) rfl rfl rfl (by decide +kernel) ⟨Nat.le_of_ble_eq_true rfl, Nat.le_of_ble_eq_true rfl⟩) ⟨jBlind, vk_recv (i := 4) hE (by decide) hS, jGo hE0 hAz hS hz⟩ rfl rfl hl.1 rfl (lv_room (Nat.le_of_ble_eq_true rfl)) dX7_spell_16 ⟨Nat.le_of_ble_eq_true rfl, Nat.le_of_ble_eq_true rfl⟩) hS (fun q _ h => hFc q h) hFc (fun r9 u t H1 locs ht hvm hw hB hz1 hk1 hS => ?_)
  obtain rfl : r9 = 4 := hw.trans (by decide)
  refine lv_icmp_ge (tgt := 35) hx hb dX7_spell_19 (by decide) (fun c => absurd c (by decide)) (fun _ => ?_)
  refine lv_aload_n hx hb dX7_spell_22 rfl (lv_at hl 2 rfl) ?_
  refine lv_iload_n hx hb dX7_spell_23 rfl (lv_at hl 0 rfl) ?_
  have hFc : ∀ q : Nat, va_A [] H1.size q → A q := fun q h => by
    rcases h with ⟨k9, e9, h9⟩ | h9
    · simp at h9
    · exact hA q (Nat.le_trans hS.1 h9)
  refine va_calli (va_runV (As := [.int (nI 2)]) (rest := [.int 16983]) ⟨hx, hb, hml, hown, hts⟩ (c_J0_charAt_5068e l adK adV z 4 2 H1.size (by decide) (by decide)) (cwV 1 hts (gV t_450 t_451 t_452 t_142 t_453) rfl rfl rfl (by decide +kernel) ⟨Nat.le_of_ble_eq_true rfl, Nat.le_of_ble_eq_true rfl⟩) ⟨jBlind, vk_recv (i := 4) hE (by decide) hS, jGo hE0 hAz hS hz⟩ rfl rfl hl.1 rfl (lv_room (Nat.le_of_ble_eq_true rfl)) dX7_spell_24 ⟨Nat.le_of_ble_eq_true rfl, Nat.le_of_ble_eq_true rfl⟩) hS (fun q _ h => hFc q h) hFc (fun r9 u t H1 locs ht hvm hw hB hz1 hk1 hS => ?_)
  obtain rfl : r9 = 101 := hw.trans (by decide)
  refine lv_bipush (v := 97) hx hb dX7_spell_27 (by decide) ?_
  refine k_isub (v := 4) hx hb (by decide) dX7_spell_29 ?_
  refine lv_iconst (v := 1) hx hb dX7_spell_30 (by decide) ?_
  refine k_iadd (v := 5) hx hb (by decide) dX7_spell_31 ?_
  refine lv_goto (tgt := 36) hx hb dX7_spell_32 (by decide) ?_
  refine k_iadd (v := 16988) hx hb (by decide) dX7_spell_36 ?_
  refine lv_istore_n (lv' := [(1, .int 16988), (2, .int 2), (0, .ref (adK 4))]) hx hb dX7_spell_37 rfl hl (by decide) rfl (fun ls hl => ?_)
  refine lv_iinc (v := 3) (lv' := [(2, .int 3), (1, .int 16988), (0, .ref (adK 4))]) hx hb dX7_spell_38 hl (k := 1) rfl (by decide) (by decide) rfl (fun ls hl => ?_)
  refine lv_goto (tgt := 4) hx hb dX7_spell_41 (by decide) ?_
  refine lv_iload_n hx hb dX7_spell_4 rfl (lv_at hl 0 rfl) ?_
  refine lv_bipush (v := 6) hx hb dX7_spell_5 (by decide) ?_
  refine lv_icmp_ge (tgt := 44) hx hb dX7_spell_7 (by decide) (fun c => absurd c (by decide)) (fun _ => ?_)
  refine lv_iload_n hx hb dX7_spell_10 rfl (lv_at hl 1 rfl) ?_
  refine lv_bipush (v := 27) hx hb dX7_spell_11 (by decide) ?_
  refine k_imul (v := 458676) hx hb (by decide) dX7_spell_13 ?_
  refine lv_iload_n hx hb dX7_spell_14 rfl (lv_at hl 0 rfl) ?_
  refine lv_aload_n hx hb dX7_spell_15 rfl (lv_at hl 2 rfl) ?_
  have hFc : ∀ q : Nat, va_A [] H1.size q → A q := fun q h => by
    rcases h with ⟨k9, e9, h9⟩ | h9
    · simp at h9
    · exact hA q (Nat.le_trans hS.1 h9)
  refine va_calli (va_runV (As := []) (rest := [.int 3, .int 458676]) ⟨hx, hb, hml, hown, hts⟩ (c_J0_length_8abf5 l adK adV z 4 H1.size (by decide)) (cwV 0 hts (gV t_440 t_441 t_442 t_142 t_443) rfl rfl rfl (by decide +kernel) ⟨Nat.le_of_ble_eq_true rfl, Nat.le_of_ble_eq_true rfl⟩) ⟨jBlind, vk_recv (i := 4) hE (by decide) hS, jGo hE0 hAz hS hz⟩ rfl rfl hl.1 rfl (lv_room (Nat.le_of_ble_eq_true rfl)) dX7_spell_16 ⟨Nat.le_of_ble_eq_true rfl, Nat.le_of_ble_eq_true rfl⟩) hS (fun q _ h => hFc q h) hFc (fun r9 u t H1 locs ht hvm hw hB hz1 hk1 hS => ?_)
  obtain rfl : r9 = 4 := hw.trans (by decide)
  refine lv_icmp_ge (tgt := 35) hx hb dX7_spell_19 (by decide) (fun c => absurd c (by decide)) (fun _ => ?_)
  refine lv_aload_n hx hb dX7_spell_22 rfl (lv_at hl 2 rfl) ?_
  refine lv_iload_n hx hb dX7_spell_23 rfl (lv_at hl 0 rfl) ?_
  have hFc : ∀ q : Nat, va_A [] H1.size q → A q := fun q h => by
    rcases h with ⟨k9, e9, h9⟩ | h9
    · simp at h9
    · exact hA q (Nat.le_trans hS.1 h9)
  refine va_calli (va_runV (As := [.int (nI 3)]) (rest := [.int 458676]) ⟨hx, hb, hml, hown, hts⟩ (c_J0_charAt_5068e l adK adV z 4 3 H1.size (by decide) (by decide)) (cwV 1 hts (gV t_450 t_451 t_452 t_142 t_453) rfl rfl rfl (by decide +kernel) ⟨Nat.le_of_ble_eq_true rfl, Nat.le_of_ble_eq_true rfl⟩) ⟨jBlind, vk_recv (i := 4) hE (by decide) hS, jGo hE0 hAz hS hz⟩ rfl rfl hl.1 rfl (lv_room (Nat.le_of_ble_eq_true rfl)) dX7_spell_24 ⟨Nat.le_of_ble_eq_true rfl, Nat.le_of_ble_eq_true rfl⟩) hS (fun q _ h => hFc q h) hFc (fun r9 u t H1 locs ht hvm hw hB hz1 hk1 hS => ?_)
  obtain rfl : r9 = 110 := hw.trans (by decide)
  refine lv_bipush (v := 97) hx hb dX7_spell_27 (by decide) ?_
  refine k_isub (v := 13) hx hb (by decide) dX7_spell_29 ?_
  refine lv_iconst (v := 1) hx hb dX7_spell_30 (by decide) ?_
  refine k_iadd (v := 14) hx hb (by decide) dX7_spell_31 ?_
  refine lv_goto (tgt := 36) hx hb dX7_spell_32 (by decide) ?_
  refine k_iadd (v := 458690) hx hb (by decide) dX7_spell_36 ?_
  refine lv_istore_n (lv' := [(1, .int 458690), (2, .int 3), (0, .ref (adK 4))]) hx hb dX7_spell_37 rfl hl (by decide) rfl (fun ls hl => ?_)
  refine lv_iinc (v := 4) (lv' := [(2, .int 4), (1, .int 458690), (0, .ref (adK 4))]) hx hb dX7_spell_38 hl (k := 1) rfl (by decide) (by decide) rfl (fun ls hl => ?_)
  refine lv_goto (tgt := 4) hx hb dX7_spell_41 (by decide) ?_
  refine lv_iload_n hx hb dX7_spell_4 rfl (lv_at hl 0 rfl) ?_
  refine lv_bipush (v := 6) hx hb dX7_spell_5 (by decide) ?_
  refine lv_icmp_ge (tgt := 44) hx hb dX7_spell_7 (by decide) (fun c => absurd c (by decide)) (fun _ => ?_)
  refine lv_iload_n hx hb dX7_spell_10 rfl (lv_at hl 1 rfl) ?_
  refine lv_bipush (v := 27) hx hb dX7_spell_11 (by decide) ?_
  refine k_imul (v := 12384630) hx hb (by decide) dX7_spell_13 ?_
  refine lv_iload_n hx hb dX7_spell_14 rfl (lv_at hl 0 rfl) ?_
  refine lv_aload_n hx hb dX7_spell_15 rfl (lv_at hl 2 rfl) ?_
  have hFc : ∀ q : Nat, va_A [] H1.size q → A q := fun q h => by
    rcases h with ⟨k9, e9, h9⟩ | h9
    · simp at h9
    · exact hA q (Nat.le_trans hS.1 h9)
  refine va_calli (va_runV (As := []) (rest := [.int 4, .int 12384630]) ⟨hx, hb, hml, hown, hts⟩ (c_J0_length_8abf5 l adK adV z 4 H1.size (by decide)) (cwV 0 hts (gV t_440 t_441 t_442 t_142 t_443) rfl rfl rfl (by decide +kernel) ⟨Nat.le_of_ble_eq_true rfl, Nat.le_of_ble_eq_true rfl⟩) ⟨jBlind, vk_recv (i := 4) hE (by decide) hS, jGo hE0 hAz hS hz⟩ rfl rfl hl.1 rfl (lv_room (Nat.le_of_ble_eq_true rfl)) dX7_spell_16 ⟨Nat.le_of_ble_eq_true rfl, Nat.le_of_ble_eq_true rfl⟩) hS (fun q _ h => hFc q h) hFc (fun r9 u t H1 locs ht hvm hw hB hz1 hk1 hS => ?_)
  obtain rfl : r9 = 4 := hw.trans (by decide)
  refine lv_icmp_ge (tgt := 35) hx hb dX7_spell_19 (by decide) (fun _ => ?_) (fun c => absurd (by decide) c)
  refine lv_iconst (v := 0) hx hb dX7_spell_35 (by decide) ?_
  refine k_iadd (v := 12384630) hx hb (by decide) dX7_spell_36 ?_
  refine lv_istore_n (lv' := [(1, .int 12384630), (2, .int 4), (0, .ref (adK 4))]) hx hb dX7_spell_37 rfl hl (by decide) rfl (fun ls hl => ?_)
  refine lv_iinc (v := 5) (lv' := [(2, .int 5), (1, .int 12384630), (0, .ref (adK 4))]) hx hb dX7_spell_38 hl (k := 1) rfl (by decide) (by decide) rfl (fun ls hl => ?_)
  refine lv_goto (tgt := 4) hx hb dX7_spell_41 (by decide) ?_
  refine lv_iload_n hx hb dX7_spell_4 rfl (lv_at hl 0 rfl) ?_
  refine lv_bipush (v := 6) hx hb dX7_spell_5 (by decide) ?_
  refine lv_icmp_ge (tgt := 44) hx hb dX7_spell_7 (by decide) (fun c => absurd c (by decide)) (fun _ => ?_)
  refine lv_iload_n hx hb dX7_spell_10 rfl (lv_at hl 1 rfl) ?_
  refine lv_bipush (v := 27) hx hb dX7_spell_11 (by decide) ?_
  refine k_imul (v := 334385010) hx hb (by decide) dX7_spell_13 ?_
  refine lv_iload_n hx hb dX7_spell_14 rfl (lv_at hl 0 rfl) ?_
  refine lv_aload_n hx hb dX7_spell_15 rfl (lv_at hl 2 rfl) ?_
  have hFc : ∀ q : Nat, va_A [] H1.size q → A q := fun q h => by
    rcases h with ⟨k9, e9, h9⟩ | h9
    · simp at h9
    · exact hA q (Nat.le_trans hS.1 h9)
  refine va_calli (va_runV (As := []) (rest := [.int 5, .int 334385010]) ⟨hx, hb, hml, hown, hts⟩ (c_J0_length_8abf5 l adK adV z 4 H1.size (by decide)) (cwV 0 hts (gV t_440 t_441 t_442 t_142 t_443) rfl rfl rfl (by decide +kernel) ⟨Nat.le_of_ble_eq_true rfl, Nat.le_of_ble_eq_true rfl⟩) ⟨jBlind, vk_recv (i := 4) hE (by decide) hS, jGo hE0 hAz hS hz⟩ rfl rfl hl.1 rfl (lv_room (Nat.le_of_ble_eq_true rfl)) dX7_spell_16 ⟨Nat.le_of_ble_eq_true rfl, Nat.le_of_ble_eq_true rfl⟩) hS (fun q _ h => hFc q h) hFc (fun r9 u t H1 locs ht hvm hw hB hz1 hk1 hS => ?_)
  obtain rfl : r9 = 4 := hw.trans (by decide)
  refine lv_icmp_ge (tgt := 35) hx hb dX7_spell_19 (by decide) (fun _ => ?_) (fun c => absurd (by decide) c)
  refine lv_iconst (v := 0) hx hb dX7_spell_35 (by decide) ?_
  refine k_iadd (v := 334385010) hx hb (by decide) dX7_spell_36 ?_
  refine lv_istore_n (lv' := [(1, .int 334385010), (2, .int 5), (0, .ref (adK 4))]) hx hb dX7_spell_37 rfl hl (by decide) rfl (fun ls hl => ?_)
  refine lv_iinc (v := 6) (lv' := [(2, .int 6), (1, .int 334385010), (0, .ref (adK 4))]) hx hb dX7_spell_38 hl (k := 1) rfl (by decide) (by decide) rfl (fun ls hl => ?_)
  refine lv_goto (tgt := 4) hx hb dX7_spell_41 (by decide) ?_
  refine lv_iload_n hx hb dX7_spell_4 rfl (lv_at hl 0 rfl) ?_
  refine lv_bipush (v := 6) hx hb dX7_spell_5 (by decide) ?_
  refine lv_icmp_ge (tgt := 44) hx hb dX7_spell_7 (by decide) (fun _ => ?_) (fun c => absurd (by decide) c)
  refine lv_iload_n hx hb dX7_spell_44 rfl (lv_at hl 1 rfl) ?_
  exact W.iret (v := 334385010) hx hb hr (fun t ht hW => ⟨⟨334385010, (), rfl, rfl, trivial⟩, hS.F ht⟩) hS.2.2 dX7_spell_45
set_option maxHeartbeats 4000000 in
set_option maxRecDepth 100000 in
theorem c_X7_spell_5 (l : Launch) (adK adV : Nat → Nat) (z : Nat) (sz : Nat) : Met l yX7_spell (.code yX7_spell cX7_spell 3 (some .int) :: WT) ({ frames := 8, cells := 0, slots := 0, locals := 700 }) (va_Pc [.ref (adK 5)] (jPre adK adV z sz)) (va_Qi (fun (r : Int32) (u : Unit) => r = 269680428) (fun _ _ => True) (va_A [] sz)) 0 0 (va_A [] sz) := by
  refine Met.ofW (cc := cX7_spell) (maxL := 3) (ret := (some .int)) (by decide) rfl ?_
  intro p e s m args below meth c s₁ B hml hv
  obtain ⟨rfl, hsz, hE0, hz⟩ := hv
  have hx := B.exec
  have hb := B.bytes
  have hr := B.returns
  have hts0 := atoms_spec (ws := .code yX7_spell cX7_spell 3 (some .int) :: WT) B.pre
  have hts : ∀ w ∈ WT, w.before _ s = true := fun w h => hts0 w (List.mem_cons_of_mem _ h)
  have hown : s.vm.findClass RX7 = some m.cls := findClass_of_methodNamed B.named
  have hlocks := B.notSynchronized
  subst hsz
  have hAz : ∀ q : Nat, va_A [] s.heap.size q → z ≤ q := fun q h => by
    rcases h with ⟨k9, e9, h9⟩ | h9
    · simp at h9
    · exact Nat.le_trans hz h9
  generalize hAe : va_A [] s.heap.size = A at hAz ⊢
  have hA : ∀ q : Nat, s.heap.size ≤ q → A q := fun q h => by rw [← hAe]; exact Or.inr h
  have hS : va_S A s.heap s.heap [] := va_S.rf
  have hE : vk_S 11 lenS bytS adK adV A s s.heap := hE0.1.narrow hAz
  have hZ : va_Z "java/lang/String" "COMPACT_STRINGS" "Z" (.int 1) A s s.heap := hE0.2.1.narrow hAz
  have hZq : va_Zq "jdk/internal/util/Preconditions" "SIOOBE_FORMATTER" "Ljava/util/function/BiFunction;" A s s.heap := hE0.2.2.1.narrow hAz
  have hl := lv_entry ([.ref (adK 5)]) (n := 3) (Nat.le_of_ble_eq_true rfl)
  rw [lg_entry_eq]
  generalize (lg_sl ([.ref (adK 5)]) ++ List.replicate (3 - (lg_sl ([.ref (adK 5)])).length) Slot.unset).toArray = ls at hl ⊢
  have hl : lv_has ls 3 [(0, .ref (adK 5))] := hl
  refine lv_iconst (v := 0) hx hb dX7_spell_0 (by decide) ?_
  refine lv_istore_n (lv' := [(1, .int 0), (0, .ref (adK 5))]) hx hb dX7_spell_1 rfl hl (by decide) rfl (fun ls hl => ?_)
  refine lv_iconst (v := 0) hx hb dX7_spell_2 (by decide) ?_
  refine lv_istore_n (lv' := [(2, .int 0), (1, .int 0), (0, .ref (adK 5))]) hx hb dX7_spell_3 rfl hl (by decide) rfl (fun ls hl => ?_)
  refine lv_iload_n hx hb dX7_spell_4 rfl (lv_at hl 0 rfl) ?_
  refine lv_bipush (v := 6) hx hb dX7_spell_5 (by decide) ?_
  refine lv_icmp_ge (tgt := 44) hx hb dX7_spell_7 (by decide) (fun c => absurd c (by decide)) (fun _ => ?_)
  refine lv_iload_n hx hb dX7_spell_10 rfl (lv_at hl 1 rfl) ?_
  refine lv_bipush (v := 27) hx hb dX7_spell_11 (by decide) ?_
  refine k_imul (v := 0) hx hb (by decide) dX7_spell_13 ?_
  refine lv_iload_n hx hb dX7_spell_14 rfl (lv_at hl 0 rfl) ?_
  refine lv_aload_n hx hb dX7_spell_15 rfl (lv_at hl 2 rfl) ?_
  have hFc : ∀ q : Nat, va_A [] s.heap.size q → A q := fun q h => by
    rcases h with ⟨k9, e9, h9⟩ | h9
    · simp at h9
    · exact hA q (Nat.le_trans hS.1 h9)
  refine va_calli (va_runV (As := []) (rest := [.int 0, .int 0]) ⟨hx, hb, hml, hown, hts⟩ (c_J0_length_8abf5 l adK adV z 5 s.heap.size (by decide)) (cwV 0 hts (gV t_440 t_441 t_442 t_142 t_443) rfl rfl rfl (by decide +kernel) ⟨Nat.le_of_ble_eq_true rfl, Nat.le_of_ble_eq_true rfl⟩) ⟨jBlind, vk_recv (i := 5) hE (by decide) hS, jGo hE0 hAz hS hz⟩ rfl rfl hl.1 rfl (lv_room (Nat.le_of_ble_eq_true rfl)) dX7_spell_16 ⟨Nat.le_of_ble_eq_true rfl, Nat.le_of_ble_eq_true rfl⟩) hS (fun q _ h => hFc q h) hFc (fun r9 u t H1 locs ht hvm hw hB hz1 hk1 hS => ?_)
  obtain rfl : r9 = 4 := hw.trans (by decide)
  refine lv_icmp_ge (tgt := 35) hx hb dX7_spell_19 (by decide) (fun c => absurd c (by decide)) (fun _ => ?_)
  refine lv_aload_n hx hb dX7_spell_22 rfl (lv_at hl 2 rfl) ?_
  refine lv_iload_n hx hb dX7_spell_23 rfl (lv_at hl 0 rfl) ?_
  have hFc : ∀ q : Nat, va_A [] H1.size q → A q := fun q h => by
    rcases h with ⟨k9, e9, h9⟩ | h9
    · simp at h9
    · exact hA q (Nat.le_trans hS.1 h9)
  refine va_calli (va_runV (As := [.int (nI 0)]) (rest := [.int 0]) ⟨hx, hb, hml, hown, hts⟩ (c_J0_charAt_5068e l adK adV z 5 0 H1.size (by decide) (by decide)) (cwV 1 hts (gV t_450 t_451 t_452 t_142 t_453) rfl rfl rfl (by decide +kernel) ⟨Nat.le_of_ble_eq_true rfl, Nat.le_of_ble_eq_true rfl⟩) ⟨jBlind, vk_recv (i := 5) hE (by decide) hS, jGo hE0 hAz hS hz⟩ rfl rfl hl.1 rfl (lv_room (Nat.le_of_ble_eq_true rfl)) dX7_spell_24 ⟨Nat.le_of_ble_eq_true rfl, Nat.le_of_ble_eq_true rfl⟩) hS (fun q _ h => hFc q h) hFc (fun r9 u t H1 locs ht hvm hw hB hz1 hk1 hS => ?_)
  obtain rfl : r9 = 114 := hw.trans (by decide)
  refine lv_bipush (v := 97) hx hb dX7_spell_27 (by decide) ?_
  refine k_isub (v := 17) hx hb (by decide) dX7_spell_29 ?_
  refine lv_iconst (v := 1) hx hb dX7_spell_30 (by decide) ?_
  refine k_iadd (v := 18) hx hb (by decide) dX7_spell_31 ?_
  refine lv_goto (tgt := 36) hx hb dX7_spell_32 (by decide) ?_
  refine k_iadd (v := 18) hx hb (by decide) dX7_spell_36 ?_
  refine lv_istore_n (lv' := [(1, .int 18), (2, .int 0), (0, .ref (adK 5))]) hx hb dX7_spell_37 rfl hl (by decide) rfl (fun ls hl => ?_)
  refine lv_iinc (v := 1) (lv' := [(2, .int 1), (1, .int 18), (0, .ref (adK 5))]) hx hb dX7_spell_38 hl (k := 1) rfl (by decide) (by decide) rfl (fun ls hl => ?_)
  refine lv_goto (tgt := 4) hx hb dX7_spell_41 (by decide) ?_
  refine lv_iload_n hx hb dX7_spell_4 rfl (lv_at hl 0 rfl) ?_
  refine lv_bipush (v := 6) hx hb dX7_spell_5 (by decide) ?_
  refine lv_icmp_ge (tgt := 44) hx hb dX7_spell_7 (by decide) (fun c => absurd c (by decide)) (fun _ => ?_)
  refine lv_iload_n hx hb dX7_spell_10 rfl (lv_at hl 1 rfl) ?_
  refine lv_bipush (v := 27) hx hb dX7_spell_11 (by decide) ?_
  refine k_imul (v := 486) hx hb (by decide) dX7_spell_13 ?_
  refine lv_iload_n hx hb dX7_spell_14 rfl (lv_at hl 0 rfl) ?_
  refine lv_aload_n hx hb dX7_spell_15 rfl (lv_at hl 2 rfl) ?_
  have hFc : ∀ q : Nat, va_A [] H1.size q → A q := fun q h => by
    rcases h with ⟨k9, e9, h9⟩ | h9
    · simp at h9
    · exact hA q (Nat.le_trans hS.1 h9)
  refine va_calli (va_runV (As := []) (rest := [.int 1, .int 486]) ⟨hx, hb, hml, hown, hts⟩ (c_J0_length_8abf5 l adK adV z 5 H1.size (by decide)) (cwV 0 hts (gV t_440 t_441 t_442 t_142 t_443) rfl rfl rfl (by decide +kernel) ⟨Nat.le_of_ble_eq_true rfl, Nat.le_of_ble_eq_true rfl⟩) ⟨jBlind, vk_recv (i := 5) hE (by decide) hS, jGo hE0 hAz hS hz⟩ rfl rfl hl.1 rfl (lv_room (Nat.le_of_ble_eq_true rfl)) dX7_spell_16 ⟨Nat.le_of_ble_eq_true rfl, Nat.le_of_ble_eq_true rfl⟩) hS (fun q _ h => hFc q h) hFc (fun r9 u t H1 locs ht hvm hw hB hz1 hk1 hS => ?_)
  obtain rfl : r9 = 4 := hw.trans (by decide)
  refine lv_icmp_ge (tgt := 35) hx hb dX7_spell_19 (by decide) (fun c => absurd c (by decide)) (fun _ => ?_)
  refine lv_aload_n hx hb dX7_spell_22 rfl (lv_at hl 2 rfl) ?_
  refine lv_iload_n hx hb dX7_spell_23 rfl (lv_at hl 0 rfl) ?_
  have hFc : ∀ q : Nat, va_A [] H1.size q → A q := fun q h => by
    rcases h with ⟨k9, e9, h9⟩ | h9
    · simp at h9
    · exact hA q (Nat.le_trans hS.1 h9)
  refine va_calli (va_runV (As := [.int (nI 1)]) (rest := [.int 486]) ⟨hx, hb, hml, hown, hts⟩ (c_J0_charAt_5068e l adK adV z 5 1 H1.size (by decide) (by decide)) (cwV 1 hts (gV t_450 t_451 t_452 t_142 t_453) rfl rfl rfl (by decide +kernel) ⟨Nat.le_of_ble_eq_true rfl, Nat.le_of_ble_eq_true rfl⟩) ⟨jBlind, vk_recv (i := 5) hE (by decide) hS, jGo hE0 hAz hS hz⟩ rfl rfl hl.1 rfl (lv_room (Nat.le_of_ble_eq_true rfl)) dX7_spell_24 ⟨Nat.le_of_ble_eq_true rfl, Nat.le_of_ble_eq_true rfl⟩) hS (fun q _ h => hFc q h) hFc (fun r9 u t H1 locs ht hvm hw hB hz1 hk1 hS => ?_)
  obtain rfl : r9 = 117 := hw.trans (by decide)
  refine lv_bipush (v := 97) hx hb dX7_spell_27 (by decide) ?_
  refine k_isub (v := 20) hx hb (by decide) dX7_spell_29 ?_
  refine lv_iconst (v := 1) hx hb dX7_spell_30 (by decide) ?_
  refine k_iadd (v := 21) hx hb (by decide) dX7_spell_31 ?_
  refine lv_goto (tgt := 36) hx hb dX7_spell_32 (by decide) ?_
  refine k_iadd (v := 507) hx hb (by decide) dX7_spell_36 ?_
  refine lv_istore_n (lv' := [(1, .int 507), (2, .int 1), (0, .ref (adK 5))]) hx hb dX7_spell_37 rfl hl (by decide) rfl (fun ls hl => ?_)
  refine lv_iinc (v := 2) (lv' := [(2, .int 2), (1, .int 507), (0, .ref (adK 5))]) hx hb dX7_spell_38 hl (k := 1) rfl (by decide) (by decide) rfl (fun ls hl => ?_)
  refine lv_goto (tgt := 4) hx hb dX7_spell_41 (by decide) ?_
  refine lv_iload_n hx hb dX7_spell_4 rfl (lv_at hl 0 rfl) ?_
  refine lv_bipush (v := 6) hx hb dX7_spell_5 (by decide) ?_
  refine lv_icmp_ge (tgt := 44) hx hb dX7_spell_7 (by decide) (fun c => absurd c (by decide)) (fun _ => ?_)
  refine lv_iload_n hx hb dX7_spell_10 rfl (lv_at hl 1 rfl) ?_
  refine lv_bipush (v := 27) hx hb dX7_spell_11 (by decide) ?_
  refine k_imul (v := 13689) hx hb (by decide) dX7_spell_13 ?_
  refine lv_iload_n hx hb dX7_spell_14 rfl (lv_at hl 0 rfl) ?_
  refine lv_aload_n hx hb dX7_spell_15 rfl (lv_at hl 2 rfl) ?_
  have hFc : ∀ q : Nat, va_A [] H1.size q → A q := fun q h => by
    rcases h with ⟨k9, e9, h9⟩ | h9
    · simp at h9
    · exact hA q (Nat.le_trans hS.1 h9)
  refine va_calli (va_runV (As := []) (rest := [.int 2, .int 13689]) ⟨hx, hb, hml, hown, hts⟩ (c_J0_length_8abf5 l adK adV z 5 H1.size (by decide)) (cwV 0 hts (gV t_440 t_441 t_442 t_142 t_443) rfl rfl rfl (by decide +kernel) ⟨Nat.le_of_ble_eq_true rfl, Nat.le_of_ble_eq_true rfl⟩) ⟨jBlind, vk_recv (i := 5) hE (by decide) hS, jGo hE0 hAz hS hz⟩ rfl rfl hl.1 rfl (lv_room (Nat.le_of_ble_eq_true rfl)) dX7_spell_16 ⟨Nat.le_of_ble_eq_true rfl, Nat.le_of_ble_eq_true rfl⟩) hS (fun q _ h => hFc q h) hFc (fun r9 u t H1 locs ht hvm hw hB hz1 hk1 hS => ?_)
  obtain rfl : r9 = 4 := hw.trans (by decide)
  refine lv_icmp_ge (tgt := 35) hx hb dX7_spell_19 (by decide) (fun c => absurd c (by decide)) (fun _ => ?_)
  refine lv_aload_n hx hb dX7_spell_22 rfl (lv_at hl 2 rfl) ?_
  refine lv_iload_n hx hb dX7_spell_23 rfl (lv_at hl 0 rfl) ?_
  have hFc : ∀ q : Nat, va_A [] H1.size q → A q := fun q h => by
    rcases h with ⟨k9, e9, h9⟩ | h9
    · simp at h9
    · exact hA q (Nat.le_trans hS.1 h9)
  refine va_calli (va_runV (As := [.int (nI 2)]) (rest := [.int 13689]) ⟨hx, hb, hml, hown, hts⟩ (c_J0_charAt_5068e l adK adV z 5 2 H1.size (by decide) (by decide)) (cwV 1 hts (gV t_450 t_451 t_452 t_142 t_453) rfl rfl rfl (by decide +kernel) ⟨Nat.le_of_ble_eq_true rfl, Nat.le_of_ble_eq_true rfl⟩) ⟨jBlind, vk_recv (i := 5) hE (by decide) hS, jGo hE0 hAz hS hz⟩ rfl rfl hl.1 rfl (lv_room (Nat.le_of_ble_eq_true rfl)) dX7_spell_24 ⟨Nat.le_of_ble_eq_true rfl, Nat.le_of_ble_eq_true rfl⟩) hS (fun q _ h => hFc q h) hFc (fun r9 u t H1 locs ht hvm hw hB hz1 hk1 hS => ?_)
  obtain rfl : r9 = 108 := hw.trans (by decide)
  refine lv_bipush (v := 97) hx hb dX7_spell_27 (by decide) ?_
  refine k_isub (v := 11) hx hb (by decide) dX7_spell_29 ?_
  refine lv_iconst (v := 1) hx hb dX7_spell_30 (by decide) ?_
  refine k_iadd (v := 12) hx hb (by decide) dX7_spell_31 ?_
  refine lv_goto (tgt := 36) hx hb dX7_spell_32 (by decide) ?_
  refine k_iadd (v := 13701) hx hb (by decide) dX7_spell_36 ?_
  refine lv_istore_n (lv' := [(1, .int 13701), (2, .int 2), (0, .ref (adK 5))]) hx hb dX7_spell_37 rfl hl (by decide) rfl (fun ls hl => ?_)
  refine lv_iinc (v := 3) (lv' := [(2, .int 3), (1, .int 13701), (0, .ref (adK 5))]) hx hb dX7_spell_38 hl (k := 1) rfl (by decide) (by decide) rfl (fun ls hl => ?_)
  refine lv_goto (tgt := 4) hx hb dX7_spell_41 (by decide) ?_
  refine lv_iload_n hx hb dX7_spell_4 rfl (lv_at hl 0 rfl) ?_
  refine lv_bipush (v := 6) hx hb dX7_spell_5 (by decide) ?_
  refine lv_icmp_ge (tgt := 44) hx hb dX7_spell_7 (by decide) (fun c => absurd c (by decide)) (fun _ => ?_)
  refine lv_iload_n hx hb dX7_spell_10 rfl (lv_at hl 1 rfl) ?_
  refine lv_bipush (v := 27) hx hb dX7_spell_11 (by decide) ?_
  refine k_imul (v := 369927) hx hb (by decide) dX7_spell_13 ?_
  refine lv_iload_n hx hb dX7_spell_14 rfl (lv_at hl 0 rfl) ?_
  refine lv_aload_n hx hb dX7_spell_15 rfl (lv_at hl 2 rfl) ?_
  have hFc : ∀ q : Nat, va_A [] H1.size q → A q := fun q h => by
    rcases h with ⟨k9, e9, h9⟩ | h9
    · simp at h9
    · exact hA q (Nat.le_trans hS.1 h9)
  refine va_calli (va_runV (As := []) (rest := [.int 3, .int 369927]) ⟨hx, hb, hml, hown, hts⟩ (c_J0_length_8abf5 l adK adV z 5 H1.size (by decide)) (cwV 0 hts (gV t_440 t_441 t_442 t_142 t_443) rfl rfl rfl (by decide +kernel) ⟨Nat.le_of_ble_eq_true rfl, Nat.le_of_ble_eq_true rfl⟩) ⟨jBlind, vk_recv (i := 5) hE (by decide) hS, jGo hE0 hAz hS hz⟩ rfl rfl hl.1 rfl (lv_room (Nat.le_of_ble_eq_true rfl)) dX7_spell_16 ⟨Nat.le_of_ble_eq_true rfl, Nat.le_of_ble_eq_true rfl⟩) hS (fun q _ h => hFc q h) hFc (fun r9 u t H1 locs ht hvm hw hB hz1 hk1 hS => ?_)
  obtain rfl : r9 = 4 := hw.trans (by decide)
  refine lv_icmp_ge (tgt := 35) hx hb dX7_spell_19 (by decide) (fun c => absurd c (by decide)) (fun _ => ?_)
  refine lv_aload_n hx hb dX7_spell_22 rfl (lv_at hl 2 rfl) ?_
  refine lv_iload_n hx hb dX7_spell_23 rfl (lv_at hl 0 rfl) ?_
  have hFc : ∀ q : Nat, va_A [] H1.size q → A q := fun q h => by
    rcases h with ⟨k9, e9, h9⟩ | h9
    · simp at h9
    · exact hA q (Nat.le_trans hS.1 h9)
  refine va_calli (va_runV (As := [.int (nI 3)]) (rest := [.int 369927]) ⟨hx, hb, hml, hown, hts⟩ (c_J0_charAt_5068e l adK adV z 5 3 H1.size (by decide) (by decide)) (cwV 1 hts (gV t_450 t_451 t_452 t_142 t_453) rfl rfl rfl (by decide +kernel) ⟨Nat.le_of_ble_eq_true rfl, Nat.le_of_ble_eq_true rfl⟩) ⟨jBlind, vk_recv (i := 5) hE (by decide) hS, jGo hE0 hAz hS hz⟩ rfl rfl hl.1 rfl (lv_room (Nat.le_of_ble_eq_true rfl)) dX7_spell_24 ⟨Nat.le_of_ble_eq_true rfl, Nat.le_of_ble_eq_true rfl⟩) hS (fun q _ h => hFc q h) hFc (fun r9 u t H1 locs ht hvm hw hB hz1 hk1 hS => ?_)
  obtain rfl : r9 = 101 := hw.trans (by decide)
  refine lv_bipush (v := 97) hx hb dX7_spell_27 (by decide) ?_
  refine k_isub (v := 4) hx hb (by decide) dX7_spell_29 ?_
  refine lv_iconst (v := 1) hx hb dX7_spell_30 (by decide) ?_
  refine k_iadd (v := 5) hx hb (by decide) dX7_spell_31 ?_
  refine lv_goto (tgt := 36) hx hb dX7_spell_32 (by decide) ?_
  refine k_iadd (v := 369932) hx hb (by decide) dX7_spell_36 ?_
  refine lv_istore_n (lv' := [(1, .int 369932), (2, .int 3), (0, .ref (adK 5))]) hx hb dX7_spell_37 rfl hl (by decide) rfl (fun ls hl => ?_)
  refine lv_iinc (v := 4) (lv' := [(2, .int 4), (1, .int 369932), (0, .ref (adK 5))]) hx hb dX7_spell_38 hl (k := 1) rfl (by decide) (by decide) rfl (fun ls hl => ?_)
  refine lv_goto (tgt := 4) hx hb dX7_spell_41 (by decide) ?_
  refine lv_iload_n hx hb dX7_spell_4 rfl (lv_at hl 0 rfl) ?_
  refine lv_bipush (v := 6) hx hb dX7_spell_5 (by decide) ?_
  refine lv_icmp_ge (tgt := 44) hx hb dX7_spell_7 (by decide) (fun c => absurd c (by decide)) (fun _ => ?_)
  refine lv_iload_n hx hb dX7_spell_10 rfl (lv_at hl 1 rfl) ?_
  refine lv_bipush (v := 27) hx hb dX7_spell_11 (by decide) ?_
  refine k_imul (v := 9988164) hx hb (by decide) dX7_spell_13 ?_
  refine lv_iload_n hx hb dX7_spell_14 rfl (lv_at hl 0 rfl) ?_
  refine lv_aload_n hx hb dX7_spell_15 rfl (lv_at hl 2 rfl) ?_
  have hFc : ∀ q : Nat, va_A [] H1.size q → A q := fun q h => by
    rcases h with ⟨k9, e9, h9⟩ | h9
    · simp at h9
    · exact hA q (Nat.le_trans hS.1 h9)
  refine va_calli (va_runV (As := []) (rest := [.int 4, .int 9988164]) ⟨hx, hb, hml, hown, hts⟩ (c_J0_length_8abf5 l adK adV z 5 H1.size (by decide)) (cwV 0 hts (gV t_440 t_441 t_442 t_142 t_443) rfl rfl rfl (by decide +kernel) ⟨Nat.le_of_ble_eq_true rfl, Nat.le_of_ble_eq_true rfl⟩) ⟨jBlind, vk_recv (i := 5) hE (by decide) hS, jGo hE0 hAz hS hz⟩ rfl rfl hl.1 rfl (lv_room (Nat.le_of_ble_eq_true rfl)) dX7_spell_16 ⟨Nat.le_of_ble_eq_true rfl, Nat.le_of_ble_eq_true rfl⟩) hS (fun q _ h => hFc q h) hFc (fun r9 u t H1 locs ht hvm hw hB hz1 hk1 hS => ?_)
  obtain rfl : r9 = 4 := hw.trans (by decide)
  refine lv_icmp_ge (tgt := 35) hx hb dX7_spell_19 (by decide) (fun _ => ?_) (fun c => absurd (by decide) c)
  refine lv_iconst (v := 0) hx hb dX7_spell_35 (by decide) ?_
  refine k_iadd (v := 9988164) hx hb (by decide) dX7_spell_36 ?_
  refine lv_istore_n (lv' := [(1, .int 9988164), (2, .int 4), (0, .ref (adK 5))]) hx hb dX7_spell_37 rfl hl (by decide) rfl (fun ls hl => ?_)
  refine lv_iinc (v := 5) (lv' := [(2, .int 5), (1, .int 9988164), (0, .ref (adK 5))]) hx hb dX7_spell_38 hl (k := 1) rfl (by decide) (by decide) rfl (fun ls hl => ?_)
  refine lv_goto (tgt := 4) hx hb dX7_spell_41 (by decide) ?_
  refine lv_iload_n hx hb dX7_spell_4 rfl (lv_at hl 0 rfl) ?_
  refine lv_bipush (v := 6) hx hb dX7_spell_5 (by decide) ?_
  refine lv_icmp_ge (tgt := 44) hx hb dX7_spell_7 (by decide) (fun c => absurd c (by decide)) (fun _ => ?_)
  refine lv_iload_n hx hb dX7_spell_10 rfl (lv_at hl 1 rfl) ?_
  refine lv_bipush (v := 27) hx hb dX7_spell_11 (by decide) ?_
  refine k_imul (v := 269680428) hx hb (by decide) dX7_spell_13 ?_
  refine lv_iload_n hx hb dX7_spell_14 rfl (lv_at hl 0 rfl) ?_
  refine lv_aload_n hx hb dX7_spell_15 rfl (lv_at hl 2 rfl) ?_
  have hFc : ∀ q : Nat, va_A [] H1.size q → A q := fun q h => by
    rcases h with ⟨k9, e9, h9⟩ | h9
    · simp at h9
    · exact hA q (Nat.le_trans hS.1 h9)
  refine va_calli (va_runV (As := []) (rest := [.int 5, .int 269680428]) ⟨hx, hb, hml, hown, hts⟩ (c_J0_length_8abf5 l adK adV z 5 H1.size (by decide)) (cwV 0 hts (gV t_440 t_441 t_442 t_142 t_443) rfl rfl rfl (by decide +kernel) ⟨Nat.le_of_ble_eq_true rfl, Nat.le_of_ble_eq_true rfl⟩) ⟨jBlind, vk_recv (i := 5) hE (by decide) hS, jGo hE0 hAz hS hz⟩ rfl rfl hl.1 rfl (lv_room (Nat.le_of_ble_eq_true rfl)) dX7_spell_16 ⟨Nat.le_of_ble_eq_true rfl, Nat.le_of_ble_eq_true rfl⟩) hS (fun q _ h => hFc q h) hFc (fun r9 u t H1 locs ht hvm hw hB hz1 hk1 hS => ?_)
  obtain rfl : r9 = 4 := hw.trans (by decide)
  refine lv_icmp_ge (tgt := 35) hx hb dX7_spell_19 (by decide) (fun _ => ?_) (fun c => absurd (by decide) c)
  refine lv_iconst (v := 0) hx hb dX7_spell_35 (by decide) ?_
  refine k_iadd (v := 269680428) hx hb (by decide) dX7_spell_36 ?_
  refine lv_istore_n (lv' := [(1, .int 269680428), (2, .int 5), (0, .ref (adK 5))]) hx hb dX7_spell_37 rfl hl (by decide) rfl (fun ls hl => ?_)
  refine lv_iinc (v := 6) (lv' := [(2, .int 6), (1, .int 269680428), (0, .ref (adK 5))]) hx hb dX7_spell_38 hl (k := 1) rfl (by decide) (by decide) rfl (fun ls hl => ?_)
  refine lv_goto (tgt := 4) hx hb dX7_spell_41 (by decide) ?_
  refine lv_iload_n hx hb dX7_spell_4 rfl (lv_at hl 0 rfl) ?_
  refine lv_bipush (v := 6) hx hb dX7_spell_5 (by decide) ?_
  refine lv_icmp_ge (tgt := 44) hx hb dX7_spell_7 (by decide) (fun _ => ?_) (fun c => absurd (by decide) c)
  refine lv_iload_n hx hb dX7_spell_44 rfl (lv_at hl 1 rfl) ?_
  exact W.iret (v := 269680428) hx hb hr (fun t ht hW => ⟨⟨269680428, (), rfl, rfl, trivial⟩, hS.F ht⟩) hS.2.2 dX7_spell_45
set_option maxHeartbeats 4000000 in
set_option maxRecDepth 100000 in
theorem c_X7_spell_6 (l : Launch) (adK adV : Nat → Nat) (z : Nat) (sz : Nat) : Met l yX7_spell (.code yX7_spell cX7_spell 3 (some .int) :: WT) ({ frames := 8, cells := 0, slots := 0, locals := 700 }) (va_Pc [.ref (adK 6)] (jPre adK adV z sz)) (va_Qi (fun (r : Int32) (u : Unit) => r = 39942065) (fun _ _ => True) (va_A [] sz)) 0 0 (va_A [] sz) := by
  refine Met.ofW (cc := cX7_spell) (maxL := 3) (ret := (some .int)) (by decide) rfl ?_
  intro p e s m args below meth c s₁ B hml hv
  obtain ⟨rfl, hsz, hE0, hz⟩ := hv
  have hx := B.exec
  have hb := B.bytes
  have hr := B.returns
  have hts0 := atoms_spec (ws := .code yX7_spell cX7_spell 3 (some .int) :: WT) B.pre
  have hts : ∀ w ∈ WT, w.before _ s = true := fun w h => hts0 w (List.mem_cons_of_mem _ h)
  have hown : s.vm.findClass RX7 = some m.cls := findClass_of_methodNamed B.named
  have hlocks := B.notSynchronized
  subst hsz
  have hAz : ∀ q : Nat, va_A [] s.heap.size q → z ≤ q := fun q h => by
    rcases h with ⟨k9, e9, h9⟩ | h9
    · simp at h9
    · exact Nat.le_trans hz h9
  generalize hAe : va_A [] s.heap.size = A at hAz ⊢
  have hA : ∀ q : Nat, s.heap.size ≤ q → A q := fun q h => by rw [← hAe]; exact Or.inr h
  have hS : va_S A s.heap s.heap [] := va_S.rf
  have hE : vk_S 11 lenS bytS adK adV A s s.heap := hE0.1.narrow hAz
  have hZ : va_Z "java/lang/String" "COMPACT_STRINGS" "Z" (.int 1) A s s.heap := hE0.2.1.narrow hAz
  have hZq : va_Zq "jdk/internal/util/Preconditions" "SIOOBE_FORMATTER" "Ljava/util/function/BiFunction;" A s s.heap := hE0.2.2.1.narrow hAz
  have hl := lv_entry ([.ref (adK 6)]) (n := 3) (Nat.le_of_ble_eq_true rfl)
  rw [lg_entry_eq]
  generalize (lg_sl ([.ref (adK 6)]) ++ List.replicate (3 - (lg_sl ([.ref (adK 6)])).length) Slot.unset).toArray = ls at hl ⊢
  have hl : lv_has ls 3 [(0, .ref (adK 6))] := hl
  refine lv_iconst (v := 0) hx hb dX7_spell_0 (by decide) ?_
  refine lv_istore_n (lv' := [(1, .int 0), (0, .ref (adK 6))]) hx hb dX7_spell_1 rfl hl (by decide) rfl (fun ls hl => ?_)
  refine lv_iconst (v := 0) hx hb dX7_spell_2 (by decide) ?_
  refine lv_istore_n (lv' := [(2, .int 0), (1, .int 0), (0, .ref (adK 6))]) hx hb dX7_spell_3 rfl hl (by decide) rfl (fun ls hl => ?_)
  refine lv_iload_n hx hb dX7_spell_4 rfl (lv_at hl 0 rfl) ?_
  refine lv_bipush (v := 6) hx hb dX7_spell_5 (by decide) ?_
  refine lv_icmp_ge (tgt := 44) hx hb dX7_spell_7 (by decide) (fun c => absurd c (by decide)) (fun _ => ?_)
  refine lv_iload_n hx hb dX7_spell_10 rfl (lv_at hl 1 rfl) ?_
  refine lv_bipush (v := 27) hx hb dX7_spell_11 (by decide) ?_
  refine k_imul (v := 0) hx hb (by decide) dX7_spell_13 ?_
  refine lv_iload_n hx hb dX7_spell_14 rfl (lv_at hl 0 rfl) ?_
  refine lv_aload_n hx hb dX7_spell_15 rfl (lv_at hl 2 rfl) ?_
  have hFc : ∀ q : Nat, va_A [] s.heap.size q → A q := fun q h => by
    rcases h with ⟨k9, e9, h9⟩ | h9
    · simp at h9
    · exact hA q (Nat.le_trans hS.1 h9)
  refine va_calli (va_runV (As := []) (rest := [.int 0, .int 0]) ⟨hx, hb, hml, hown, hts⟩ (c_J0_length_8abf5 l adK adV z 6 s.heap.size (by decide)) (cwV 0 hts (gV t_440 t_441 t_442 t_142 t_443) rfl rfl rfl (by decide +kernel) ⟨Nat.le_of_ble_eq_true rfl, Nat.le_of_ble_eq_true rfl⟩) ⟨jBlind, vk_recv (i := 6) hE (by decide) hS, jGo hE0 hAz hS hz⟩ rfl rfl hl.1 rfl (lv_room (Nat.le_of_ble_eq_true rfl)) dX7_spell_16 ⟨Nat.le_of_ble_eq_true rfl, Nat.le_of_ble_eq_true rfl⟩) hS (fun q _ h => hFc q h) hFc (fun r9 u t H1 locs ht hvm hw hB hz1 hk1 hS => ?_)
  obtain rfl : r9 = 6 := hw.trans (by decide)
  refine lv_icmp_ge (tgt := 35) hx hb dX7_spell_19 (by decide) (fun c => absurd c (by decide)) (fun _ => ?_)
  refine lv_aload_n hx hb dX7_spell_22 rfl (lv_at hl 2 rfl) ?_
  refine lv_iload_n hx hb dX7_spell_23 rfl (lv_at hl 0 rfl) ?_
  have hFc : ∀ q : Nat, va_A [] H1.size q → A q := fun q h => by
    rcases h with ⟨k9, e9, h9⟩ | h9
    · simp at h9
    · exact hA q (Nat.le_trans hS.1 h9)
  refine va_calli (va_runV (As := [.int (nI 0)]) (rest := [.int 0]) ⟨hx, hb, hml, hown, hts⟩ (c_J0_charAt_5068e l adK adV z 6 0 H1.size (by decide) (by decide)) (cwV 1 hts (gV t_450 t_451 t_452 t_142 t_453) rfl rfl rfl (by decide +kernel) ⟨Nat.le_of_ble_eq_true rfl, Nat.le_of_ble_eq_true rfl⟩) ⟨jBlind, vk_recv (i := 6) hE (by decide) hS, jGo hE0 hAz hS hz⟩ rfl rfl hl.1 rfl (lv_room (Nat.le_of_ble_eq_true rfl)) dX7_spell_24 ⟨Nat.le_of_ble_eq_true rfl, Nat.le_of_ble_eq_true rfl⟩) hS (fun q _ h => hFc q h) hFc (fun r9 u t H1 locs ht hvm hw hB hz1 hk1 hS => ?_)
  obtain rfl : r9 = 98 := hw.trans (by decide)
  refine lv_bipush (v := 97) hx hb dX7_spell_27 (by decide) ?_
  refine k_isub (v := 1) hx hb (by decide) dX7_spell_29 ?_
  refine lv_iconst (v := 1) hx hb dX7_spell_30 (by decide) ?_
  refine k_iadd (v := 2) hx hb (by decide) dX7_spell_31 ?_
  refine lv_goto (tgt := 36) hx hb dX7_spell_32 (by decide) ?_
  refine k_iadd (v := 2) hx hb (by decide) dX7_spell_36 ?_
  refine lv_istore_n (lv' := [(1, .int 2), (2, .int 0), (0, .ref (adK 6))]) hx hb dX7_spell_37 rfl hl (by decide) rfl (fun ls hl => ?_)
  refine lv_iinc (v := 1) (lv' := [(2, .int 1), (1, .int 2), (0, .ref (adK 6))]) hx hb dX7_spell_38 hl (k := 1) rfl (by decide) (by decide) rfl (fun ls hl => ?_)
  refine lv_goto (tgt := 4) hx hb dX7_spell_41 (by decide) ?_
  refine lv_iload_n hx hb dX7_spell_4 rfl (lv_at hl 0 rfl) ?_
  refine lv_bipush (v := 6) hx hb dX7_spell_5 (by decide) ?_
  refine lv_icmp_ge (tgt := 44) hx hb dX7_spell_7 (by decide) (fun c => absurd c (by decide)) (fun _ => ?_)
  refine lv_iload_n hx hb dX7_spell_10 rfl (lv_at hl 1 rfl) ?_
  refine lv_bipush (v := 27) hx hb dX7_spell_11 (by decide) ?_
  refine k_imul (v := 54) hx hb (by decide) dX7_spell_13 ?_
  refine lv_iload_n hx hb dX7_spell_14 rfl (lv_at hl 0 rfl) ?_
  refine lv_aload_n hx hb dX7_spell_15 rfl (lv_at hl 2 rfl) ?_
  have hFc : ∀ q : Nat, va_A [] H1.size q → A q := fun q h => by
    rcases h with ⟨k9, e9, h9⟩ | h9
    · simp at h9
    · exact hA q (Nat.le_trans hS.1 h9)
  refine va_calli (va_runV (As := []) (rest := [.int 1, .int 54]) ⟨hx, hb, hml, hown, hts⟩ (c_J0_length_8abf5 l adK adV z 6 H1.size (by decide)) (cwV 0 hts (gV t_440 t_441 t_442 t_142 t_443) rfl rfl rfl (by decide +kernel) ⟨Nat.le_of_ble_eq_true rfl, Nat.le_of_ble_eq_true rfl⟩) ⟨jBlind, vk_recv (i := 6) hE (by decide) hS, jGo hE0 hAz hS hz⟩ rfl rfl hl.1 rfl (lv_room (Nat.le_of_ble_eq_true rfl)) dX7_spell_16 ⟨Nat.le_of_ble_eq_true rfl, Nat.le_of_ble_eq_true rfl⟩) hS (fun q _ h => hFc q h) hFc (fun r9 u t H1 locs ht hvm hw hB hz1 hk1 hS => ?_)
  obtain rfl : r9 = 6 := hw.trans (by decide)
  refine lv_icmp_ge (tgt := 35) hx hb dX7_spell_19 (by decide) (fun c => absurd c (by decide)) (fun _ => ?_)
  refine lv_aload_n hx hb dX7_spell_22 rfl (lv_at hl 2 rfl) ?_
  refine lv_iload_n hx hb dX7_spell_23 rfl (lv_at hl 0 rfl) ?_
  have hFc : ∀ q : Nat, va_A [] H1.size q → A q := fun q h => by
    rcases h with ⟨k9, e9, h9⟩ | h9
    · simp at h9
    · exact hA q (Nat.le_trans hS.1 h9)
  refine va_calli (va_runV (As := [.int (nI 1)]) (rest := [.int 54]) ⟨hx, hb, hml, hown, hts⟩ (c_J0_charAt_5068e l adK adV z 6 1 H1.size (by decide) (by decide)) (cwV 1 hts (gV t_450 t_451 t_452 t_142 t_453) rfl rfl rfl (by decide +kernel) ⟨Nat.le_of_ble_eq_true rfl, Nat.le_of_ble_eq_true rfl⟩) ⟨jBlind, vk_recv (i := 6) hE (by decide) hS, jGo hE0 hAz hS hz⟩ rfl rfl hl.1 rfl (lv_room (Nat.le_of_ble_eq_true rfl)) dX7_spell_24 ⟨Nat.le_of_ble_eq_true rfl, Nat.le_of_ble_eq_true rfl⟩) hS (fun q _ h => hFc q h) hFc (fun r9 u t H1 locs ht hvm hw hB hz1 hk1 hS => ?_)
  obtain rfl : r9 = 117 := hw.trans (by decide)
  refine lv_bipush (v := 97) hx hb dX7_spell_27 (by decide) ?_
  refine k_isub (v := 20) hx hb (by decide) dX7_spell_29 ?_
  refine lv_iconst (v := 1) hx hb dX7_spell_30 (by decide) ?_
  refine k_iadd (v := 21) hx hb (by decide) dX7_spell_31 ?_
  refine lv_goto (tgt := 36) hx hb dX7_spell_32 (by decide) ?_
  refine k_iadd (v := 75) hx hb (by decide) dX7_spell_36 ?_
  refine lv_istore_n (lv' := [(1, .int 75), (2, .int 1), (0, .ref (adK 6))]) hx hb dX7_spell_37 rfl hl (by decide) rfl (fun ls hl => ?_)
  refine lv_iinc (v := 2) (lv' := [(2, .int 2), (1, .int 75), (0, .ref (adK 6))]) hx hb dX7_spell_38 hl (k := 1) rfl (by decide) (by decide) rfl (fun ls hl => ?_)
  refine lv_goto (tgt := 4) hx hb dX7_spell_41 (by decide) ?_
  refine lv_iload_n hx hb dX7_spell_4 rfl (lv_at hl 0 rfl) ?_
  refine lv_bipush (v := 6) hx hb dX7_spell_5 (by decide) ?_
  refine lv_icmp_ge (tgt := 44) hx hb dX7_spell_7 (by decide) (fun c => absurd c (by decide)) (fun _ => ?_)
  refine lv_iload_n hx hb dX7_spell_10 rfl (lv_at hl 1 rfl) ?_
  refine lv_bipush (v := 27) hx hb dX7_spell_11 (by decide) ?_
  refine k_imul (v := 2025) hx hb (by decide) dX7_spell_13 ?_
  refine lv_iload_n hx hb dX7_spell_14 rfl (lv_at hl 0 rfl) ?_
  refine lv_aload_n hx hb dX7_spell_15 rfl (lv_at hl 2 rfl) ?_
  have hFc : ∀ q : Nat, va_A [] H1.size q → A q := fun q h => by
    rcases h with ⟨k9, e9, h9⟩ | h9
    · simp at h9
    · exact hA q (Nat.le_trans hS.1 h9)
  refine va_calli (va_runV (As := []) (rest := [.int 2, .int 2025]) ⟨hx, hb, hml, hown, hts⟩ (c_J0_length_8abf5 l adK adV z 6 H1.size (by decide)) (cwV 0 hts (gV t_440 t_441 t_442 t_142 t_443) rfl rfl rfl (by decide +kernel) ⟨Nat.le_of_ble_eq_true rfl, Nat.le_of_ble_eq_true rfl⟩) ⟨jBlind, vk_recv (i := 6) hE (by decide) hS, jGo hE0 hAz hS hz⟩ rfl rfl hl.1 rfl (lv_room (Nat.le_of_ble_eq_true rfl)) dX7_spell_16 ⟨Nat.le_of_ble_eq_true rfl, Nat.le_of_ble_eq_true rfl⟩) hS (fun q _ h => hFc q h) hFc (fun r9 u t H1 locs ht hvm hw hB hz1 hk1 hS => ?_)
  obtain rfl : r9 = 6 := hw.trans (by decide)
  refine lv_icmp_ge (tgt := 35) hx hb dX7_spell_19 (by decide) (fun c => absurd c (by decide)) (fun _ => ?_)
  refine lv_aload_n hx hb dX7_spell_22 rfl (lv_at hl 2 rfl) ?_
  refine lv_iload_n hx hb dX7_spell_23 rfl (lv_at hl 0 rfl) ?_
  have hFc : ∀ q : Nat, va_A [] H1.size q → A q := fun q h => by
    rcases h with ⟨k9, e9, h9⟩ | h9
    · simp at h9
    · exact hA q (Nat.le_trans hS.1 h9)
  refine va_calli (va_runV (As := [.int (nI 2)]) (rest := [.int 2025]) ⟨hx, hb, hml, hown, hts⟩ (c_J0_charAt_5068e l adK adV z 6 2 H1.size (by decide) (by decide)) (cwV 1 hts (gV t_450 t_451 t_452 t_142 t_453) rfl rfl rfl (by decide +kernel) ⟨Nat.le_of_ble_eq_true rfl, Nat.le_of_ble_eq_true rfl⟩) ⟨jBlind, vk_recv (i := 6) hE (by decide) hS, jGo hE0 hAz hS hz⟩ rfl rfl hl.1 rfl (lv_room (Nat.le_of_ble_eq_true rfl)) dX7_spell_24 ⟨Nat.le_of_ble_eq_true rfl, Nat.le_of_ble_eq_true rfl⟩) hS (fun q _ h => hFc q h) hFc (fun r9 u t H1 locs ht hvm hw hB hz1 hk1 hS => ?_)
  obtain rfl : r9 = 100 := hw.trans (by decide)
  refine lv_bipush (v := 97) hx hb dX7_spell_27 (by decide) ?_
  refine k_isub (v := 3) hx hb (by decide) dX7_spell_29 ?_
  refine lv_iconst (v := 1) hx hb dX7_spell_30 (by decide) ?_
  refine k_iadd (v := 4) hx hb (by decide) dX7_spell_31 ?_
  refine lv_goto (tgt := 36) hx hb dX7_spell_32 (by decide) ?_
  refine k_iadd (v := 2029) hx hb (by decide) dX7_spell_36 ?_
  refine lv_istore_n (lv' := [(1, .int 2029), (2, .int 2), (0, .ref (adK 6))]) hx hb dX7_spell_37 rfl hl (by decide) rfl (fun ls hl => ?_)
  refine lv_iinc (v := 3) (lv' := [(2, .int 3), (1, .int 2029), (0, .ref (adK 6))]) hx hb dX7_spell_38 hl (k := 1) rfl (by decide) (by decide) rfl (fun ls hl => ?_)
  refine lv_goto (tgt := 4) hx hb dX7_spell_41 (by decide) ?_
  refine lv_iload_n hx hb dX7_spell_4 rfl (lv_at hl 0 rfl) ?_
  refine lv_bipush (v := 6) hx hb dX7_spell_5 (by decide) ?_
  refine lv_icmp_ge (tgt := 44) hx hb dX7_spell_7 (by decide) (fun c => absurd c (by decide)) (fun _ => ?_)
  refine lv_iload_n hx hb dX7_spell_10 rfl (lv_at hl 1 rfl) ?_
  refine lv_bipush (v := 27) hx hb dX7_spell_11 (by decide) ?_
  refine k_imul (v := 54783) hx hb (by decide) dX7_spell_13 ?_
  refine lv_iload_n hx hb dX7_spell_14 rfl (lv_at hl 0 rfl) ?_
  refine lv_aload_n hx hb dX7_spell_15 rfl (lv_at hl 2 rfl) ?_
  have hFc : ∀ q : Nat, va_A [] H1.size q → A q := fun q h => by
    rcases h with ⟨k9, e9, h9⟩ | h9
    · simp at h9
    · exact hA q (Nat.le_trans hS.1 h9)
  refine va_calli (va_runV (As := []) (rest := [.int 3, .int 54783]) ⟨hx, hb, hml, hown, hts⟩ (c_J0_length_8abf5 l adK adV z 6 H1.size (by decide)) (cwV 0 hts (gV t_440 t_441 t_442 t_142 t_443) rfl rfl rfl (by decide +kernel) ⟨Nat.le_of_ble_eq_true rfl, Nat.le_of_ble_eq_true rfl⟩) ⟨jBlind, vk_recv (i := 6) hE (by decide) hS, jGo hE0 hAz hS hz⟩ rfl rfl hl.1 rfl (lv_room (Nat.le_of_ble_eq_true rfl)) dX7_spell_16 ⟨Nat.le_of_ble_eq_true rfl, Nat.le_of_ble_eq_true rfl⟩) hS (fun q _ h => hFc q h) hFc (fun r9 u t H1 locs ht hvm hw hB hz1 hk1 hS => ?_)
  obtain rfl : r9 = 6 := hw.trans (by decide)
  refine lv_icmp_ge (tgt := 35) hx hb dX7_spell_19 (by decide) (fun c => absurd c (by decide)) (fun _ => ?_)
  refine lv_aload_n hx hb dX7_spell_22 rfl (lv_at hl 2 rfl) ?_
  refine lv_iload_n hx hb dX7_spell_23 rfl (lv_at hl 0 rfl) ?_
  have hFc : ∀ q : Nat, va_A [] H1.size q → A q := fun q h => by
    rcases h with ⟨k9, e9, h9⟩ | h9
    · simp at h9
    · exact hA q (Nat.le_trans hS.1 h9)
  refine va_calli (va_runV (As := [.int (nI 3)]) (rest := [.int 54783]) ⟨hx, hb, hml, hown, hts⟩ (c_J0_charAt_5068e l adK adV z 6 3 H1.size (by decide) (by decide)) (cwV 1 hts (gV t_450 t_451 t_452 t_142 t_453) rfl rfl rfl (by decide +kernel) ⟨Nat.le_of_ble_eq_true rfl, Nat.le_of_ble_eq_true rfl⟩) ⟨jBlind, vk_recv (i := 6) hE (by decide) hS, jGo hE0 hAz hS hz⟩ rfl rfl hl.1 rfl (lv_room (Nat.le_of_ble_eq_true rfl)) dX7_spell_24 ⟨Nat.le_of_ble_eq_true rfl, Nat.le_of_ble_eq_true rfl⟩) hS (fun q _ h => hFc q h) hFc (fun r9 u t H1 locs ht hvm hw hB hz1 hk1 hS => ?_)
  obtain rfl : r9 = 103 := hw.trans (by decide)
  refine lv_bipush (v := 97) hx hb dX7_spell_27 (by decide) ?_
  refine k_isub (v := 6) hx hb (by decide) dX7_spell_29 ?_
  refine lv_iconst (v := 1) hx hb dX7_spell_30 (by decide) ?_
  refine k_iadd (v := 7) hx hb (by decide) dX7_spell_31 ?_
  refine lv_goto (tgt := 36) hx hb dX7_spell_32 (by decide) ?_
  refine k_iadd (v := 54790) hx hb (by decide) dX7_spell_36 ?_
  refine lv_istore_n (lv' := [(1, .int 54790), (2, .int 3), (0, .ref (adK 6))]) hx hb dX7_spell_37 rfl hl (by decide) rfl (fun ls hl => ?_)
  refine lv_iinc (v := 4) (lv' := [(2, .int 4), (1, .int 54790), (0, .ref (adK 6))]) hx hb dX7_spell_38 hl (k := 1) rfl (by decide) (by decide) rfl (fun ls hl => ?_)
  refine lv_goto (tgt := 4) hx hb dX7_spell_41 (by decide) ?_
  refine lv_iload_n hx hb dX7_spell_4 rfl (lv_at hl 0 rfl) ?_
  refine lv_bipush (v := 6) hx hb dX7_spell_5 (by decide) ?_
  refine lv_icmp_ge (tgt := 44) hx hb dX7_spell_7 (by decide) (fun c => absurd c (by decide)) (fun _ => ?_)
  refine lv_iload_n hx hb dX7_spell_10 rfl (lv_at hl 1 rfl) ?_
  refine lv_bipush (v := 27) hx hb dX7_spell_11 (by decide) ?_
  refine k_imul (v := 1479330) hx hb (by decide) dX7_spell_13 ?_
  refine lv_iload_n hx hb dX7_spell_14 rfl (lv_at hl 0 rfl) ?_
  refine lv_aload_n hx hb dX7_spell_15 rfl (lv_at hl 2 rfl) ?_
  have hFc : ∀ q : Nat, va_A [] H1.size q → A q := fun q h => by
    rcases h with ⟨k9, e9, h9⟩ | h9
    · simp at h9
    · exact hA q (Nat.le_trans hS.1 h9)
  refine va_calli (va_runV (As := []) (rest := [.int 4, .int 1479330]) ⟨hx, hb, hml, hown, hts⟩ (c_J0_length_8abf5 l adK adV z 6 H1.size (by decide)) (cwV 0 hts (gV t_440 t_441 t_442 t_142 t_443) rfl rfl rfl (by decide +kernel) ⟨Nat.le_of_ble_eq_true rfl, Nat.le_of_ble_eq_true rfl⟩) ⟨jBlind, vk_recv (i := 6) hE (by decide) hS, jGo hE0 hAz hS hz⟩ rfl rfl hl.1 rfl (lv_room (Nat.le_of_ble_eq_true rfl)) dX7_spell_16 ⟨Nat.le_of_ble_eq_true rfl, Nat.le_of_ble_eq_true rfl⟩) hS (fun q _ h => hFc q h) hFc (fun r9 u t H1 locs ht hvm hw hB hz1 hk1 hS => ?_)
  obtain rfl : r9 = 6 := hw.trans (by decide)
  refine lv_icmp_ge (tgt := 35) hx hb dX7_spell_19 (by decide) (fun c => absurd c (by decide)) (fun _ => ?_)
  refine lv_aload_n hx hb dX7_spell_22 rfl (lv_at hl 2 rfl) ?_
  refine lv_iload_n hx hb dX7_spell_23 rfl (lv_at hl 0 rfl) ?_
  have hFc : ∀ q : Nat, va_A [] H1.size q → A q := fun q h => by
    rcases h with ⟨k9, e9, h9⟩ | h9
    · simp at h9
    · exact hA q (Nat.le_trans hS.1 h9)
  refine va_calli (va_runV (As := [.int (nI 4)]) (rest := [.int 1479330]) ⟨hx, hb, hml, hown, hts⟩ (c_J0_charAt_5068e l adK adV z 6 4 H1.size (by decide) (by decide)) (cwV 1 hts (gV t_450 t_451 t_452 t_142 t_453) rfl rfl rfl (by decide +kernel) ⟨Nat.le_of_ble_eq_true rfl, Nat.le_of_ble_eq_true rfl⟩) ⟨jBlind, vk_recv (i := 6) hE (by decide) hS, jGo hE0 hAz hS hz⟩ rfl rfl hl.1 rfl (lv_room (Nat.le_of_ble_eq_true rfl)) dX7_spell_24 ⟨Nat.le_of_ble_eq_true rfl, Nat.le_of_ble_eq_true rfl⟩) hS (fun q _ h => hFc q h) hFc (fun r9 u t H1 locs ht hvm hw hB hz1 hk1 hS => ?_)
  obtain rfl : r9 = 101 := hw.trans (by decide)
  refine lv_bipush (v := 97) hx hb dX7_spell_27 (by decide) ?_
  refine k_isub (v := 4) hx hb (by decide) dX7_spell_29 ?_
  refine lv_iconst (v := 1) hx hb dX7_spell_30 (by decide) ?_
  refine k_iadd (v := 5) hx hb (by decide) dX7_spell_31 ?_
  refine lv_goto (tgt := 36) hx hb dX7_spell_32 (by decide) ?_
  refine k_iadd (v := 1479335) hx hb (by decide) dX7_spell_36 ?_
  refine lv_istore_n (lv' := [(1, .int 1479335), (2, .int 4), (0, .ref (adK 6))]) hx hb dX7_spell_37 rfl hl (by decide) rfl (fun ls hl => ?_)
  refine lv_iinc (v := 5) (lv' := [(2, .int 5), (1, .int 1479335), (0, .ref (adK 6))]) hx hb dX7_spell_38 hl (k := 1) rfl (by decide) (by decide) rfl (fun ls hl => ?_)
  refine lv_goto (tgt := 4) hx hb dX7_spell_41 (by decide) ?_
  refine lv_iload_n hx hb dX7_spell_4 rfl (lv_at hl 0 rfl) ?_
  refine lv_bipush (v := 6) hx hb dX7_spell_5 (by decide) ?_
  refine lv_icmp_ge (tgt := 44) hx hb dX7_spell_7 (by decide) (fun c => absurd c (by decide)) (fun _ => ?_)
  refine lv_iload_n hx hb dX7_spell_10 rfl (lv_at hl 1 rfl) ?_
  refine lv_bipush (v := 27) hx hb dX7_spell_11 (by decide) ?_
  refine k_imul (v := 39942045) hx hb (by decide) dX7_spell_13 ?_
  refine lv_iload_n hx hb dX7_spell_14 rfl (lv_at hl 0 rfl) ?_
  refine lv_aload_n hx hb dX7_spell_15 rfl (lv_at hl 2 rfl) ?_
  have hFc : ∀ q : Nat, va_A [] H1.size q → A q := fun q h => by
    rcases h with ⟨k9, e9, h9⟩ | h9
    · simp at h9
    · exact hA q (Nat.le_trans hS.1 h9)
  refine va_calli (va_runV (As := []) (rest := [.int 5, .int 39942045]) ⟨hx, hb, hml, hown, hts⟩ (c_J0_length_8abf5 l adK adV z 6 H1.size (by decide)) (cwV 0 hts (gV t_440 t_441 t_442 t_142 t_443) rfl rfl rfl (by decide +kernel) ⟨Nat.le_of_ble_eq_true rfl, Nat.le_of_ble_eq_true rfl⟩) ⟨jBlind, vk_recv (i := 6) hE (by decide) hS, jGo hE0 hAz hS hz⟩ rfl rfl hl.1 rfl (lv_room (Nat.le_of_ble_eq_true rfl)) dX7_spell_16 ⟨Nat.le_of_ble_eq_true rfl, Nat.le_of_ble_eq_true rfl⟩) hS (fun q _ h => hFc q h) hFc (fun r9 u t H1 locs ht hvm hw hB hz1 hk1 hS => ?_)
  obtain rfl : r9 = 6 := hw.trans (by decide)
  refine lv_icmp_ge (tgt := 35) hx hb dX7_spell_19 (by decide) (fun c => absurd c (by decide)) (fun _ => ?_)
  refine lv_aload_n hx hb dX7_spell_22 rfl (lv_at hl 2 rfl) ?_
  refine lv_iload_n hx hb dX7_spell_23 rfl (lv_at hl 0 rfl) ?_
  have hFc : ∀ q : Nat, va_A [] H1.size q → A q := fun q h => by
    rcases h with ⟨k9, e9, h9⟩ | h9
    · simp at h9
    · exact hA q (Nat.le_trans hS.1 h9)
  refine va_calli (va_runV (As := [.int (nI 5)]) (rest := [.int 39942045]) ⟨hx, hb, hml, hown, hts⟩ (c_J0_charAt_5068e l adK adV z 6 5 H1.size (by decide) (by decide)) (cwV 1 hts (gV t_450 t_451 t_452 t_142 t_453) rfl rfl rfl (by decide +kernel) ⟨Nat.le_of_ble_eq_true rfl, Nat.le_of_ble_eq_true rfl⟩) ⟨jBlind, vk_recv (i := 6) hE (by decide) hS, jGo hE0 hAz hS hz⟩ rfl rfl hl.1 rfl (lv_room (Nat.le_of_ble_eq_true rfl)) dX7_spell_24 ⟨Nat.le_of_ble_eq_true rfl, Nat.le_of_ble_eq_true rfl⟩) hS (fun q _ h => hFc q h) hFc (fun r9 u t H1 locs ht hvm hw hB hz1 hk1 hS => ?_)
  obtain rfl : r9 = 116 := hw.trans (by decide)
  refine lv_bipush (v := 97) hx hb dX7_spell_27 (by decide) ?_
  refine k_isub (v := 19) hx hb (by decide) dX7_spell_29 ?_
  refine lv_iconst (v := 1) hx hb dX7_spell_30 (by decide) ?_
  refine k_iadd (v := 20) hx hb (by decide) dX7_spell_31 ?_
  refine lv_goto (tgt := 36) hx hb dX7_spell_32 (by decide) ?_
  refine k_iadd (v := 39942065) hx hb (by decide) dX7_spell_36 ?_
  refine lv_istore_n (lv' := [(1, .int 39942065), (2, .int 5), (0, .ref (adK 6))]) hx hb dX7_spell_37 rfl hl (by decide) rfl (fun ls hl => ?_)
  refine lv_iinc (v := 6) (lv' := [(2, .int 6), (1, .int 39942065), (0, .ref (adK 6))]) hx hb dX7_spell_38 hl (k := 1) rfl (by decide) (by decide) rfl (fun ls hl => ?_)
  refine lv_goto (tgt := 4) hx hb dX7_spell_41 (by decide) ?_
  refine lv_iload_n hx hb dX7_spell_4 rfl (lv_at hl 0 rfl) ?_
  refine lv_bipush (v := 6) hx hb dX7_spell_5 (by decide) ?_
  refine lv_icmp_ge (tgt := 44) hx hb dX7_spell_7 (by decide) (fun _ => ?_) (fun c => absurd (by decide) c)
  refine lv_iload_n hx hb dX7_spell_44 rfl (lv_at hl 1 rfl) ?_
  exact W.iret (v := 39942065) hx hb hr (fun t ht hW => ⟨⟨39942065, (), rfl, rfl, trivial⟩, hS.F ht⟩) hS.2.2 dX7_spell_45
set_option maxHeartbeats 4000000 in
set_option maxRecDepth 100000 in
theorem c_X7_spell_7 (l : Launch) (adK adV : Nat → Nat) (z : Nat) (sz : Nat) : Met l yX7_spell (.code yX7_spell cX7_spell 3 (some .int) :: WT) ({ frames := 8, cells := 0, slots := 0, locals := 700 }) (va_Pc [.ref (adK 7)] (jPre adK adV z sz)) (va_Qi (fun (r : Int32) (u : Unit) => r = 212300838) (fun _ _ => True) (va_A [] sz)) 0 0 (va_A [] sz) := by
  refine Met.ofW (cc := cX7_spell) (maxL := 3) (ret := (some .int)) (by decide) rfl ?_
  intro p e s m args below meth c s₁ B hml hv
  obtain ⟨rfl, hsz, hE0, hz⟩ := hv
  have hx := B.exec
  have hb := B.bytes
  have hr := B.returns
  have hts0 := atoms_spec (ws := .code yX7_spell cX7_spell 3 (some .int) :: WT) B.pre
  have hts : ∀ w ∈ WT, w.before _ s = true := fun w h => hts0 w (List.mem_cons_of_mem _ h)
  have hown : s.vm.findClass RX7 = some m.cls := findClass_of_methodNamed B.named
  have hlocks := B.notSynchronized
  subst hsz
  have hAz : ∀ q : Nat, va_A [] s.heap.size q → z ≤ q := fun q h => by
    rcases h with ⟨k9, e9, h9⟩ | h9
    · simp at h9
    · exact Nat.le_trans hz h9
  generalize hAe : va_A [] s.heap.size = A at hAz ⊢
  have hA : ∀ q : Nat, s.heap.size ≤ q → A q := fun q h => by rw [← hAe]; exact Or.inr h
  have hS : va_S A s.heap s.heap [] := va_S.rf
  have hE : vk_S 11 lenS bytS adK adV A s s.heap := hE0.1.narrow hAz
  have hZ : va_Z "java/lang/String" "COMPACT_STRINGS" "Z" (.int 1) A s s.heap := hE0.2.1.narrow hAz
  have hZq : va_Zq "jdk/internal/util/Preconditions" "SIOOBE_FORMATTER" "Ljava/util/function/BiFunction;" A s s.heap := hE0.2.2.1.narrow hAz
  have hl := lv_entry ([.ref (adK 7)]) (n := 3) (Nat.le_of_ble_eq_true rfl)
  rw [lg_entry_eq]
  generalize (lg_sl ([.ref (adK 7)]) ++ List.replicate (3 - (lg_sl ([.ref (adK 7)])).length) Slot.unset).toArray = ls at hl ⊢
  have hl : lv_has ls 3 [(0, .ref (adK 7))] := hl
  refine lv_iconst (v := 0) hx hb dX7_spell_0 (by decide) ?_
  refine lv_istore_n (lv' := [(1, .int 0), (0, .ref (adK 7))]) hx hb dX7_spell_1 rfl hl (by decide) rfl (fun ls hl => ?_)
  refine lv_iconst (v := 0) hx hb dX7_spell_2 (by decide) ?_
  refine lv_istore_n (lv' := [(2, .int 0), (1, .int 0), (0, .ref (adK 7))]) hx hb dX7_spell_3 rfl hl (by decide) rfl (fun ls hl => ?_)
  refine lv_iload_n hx hb dX7_spell_4 rfl (lv_at hl 0 rfl) ?_
  refine lv_bipush (v := 6) hx hb dX7_spell_5 (by decide) ?_
  refine lv_icmp_ge (tgt := 44) hx hb dX7_spell_7 (by decide) (fun c => absurd c (by decide)) (fun _ => ?_)
  refine lv_iload_n hx hb dX7_spell_10 rfl (lv_at hl 1 rfl) ?_
  refine lv_bipush (v := 27) hx hb dX7_spell_11 (by decide) ?_
  refine k_imul (v := 0) hx hb (by decide) dX7_spell_13 ?_
  refine lv_iload_n hx hb dX7_spell_14 rfl (lv_at hl 0 rfl) ?_
  refine lv_aload_n hx hb dX7_spell_15 rfl (lv_at hl 2 rfl) ?_
  have hFc : ∀ q : Nat, va_A [] s.heap.size q → A q := fun q h => by
    rcases h with ⟨k9, e9, h9⟩ | h9
    · simp at h9
    · exact hA q (Nat.le_trans hS.1 h9)
  refine va_calli (va_runV (As := []) (rest := [.int 0, .int 0]) ⟨hx, hb, hml, hown, hts⟩ (c_J0_length_8abf5 l adK adV z 7 s.heap.size (by decide)) (cwV 0 hts (gV t_440 t_441 t_442 t_142 t_443) rfl rfl rfl (by decide +kernel) ⟨Nat.le_of_ble_eq_true rfl, Nat.le_of_ble_eq_true rfl⟩) ⟨jBlind, vk_recv (i := 7) hE (by decide) hS, jGo hE0 hAz hS hz⟩ rfl rfl hl.1 rfl (lv_room (Nat.le_of_ble_eq_true rfl)) dX7_spell_16 ⟨Nat.le_of_ble_eq_true rfl, Nat.le_of_ble_eq_true rfl⟩) hS (fun q _ h => hFc q h) hFc (fun r9 u t H1 locs ht hvm hw hB hz1 hk1 hS => ?_)
  obtain rfl : r9 = 3 := hw.trans (by decide)
  refine lv_icmp_ge (tgt := 35) hx hb dX7_spell_19 (by decide) (fun c => absurd c (by decide)) (fun _ => ?_)
  refine lv_aload_n hx hb dX7_spell_22 rfl (lv_at hl 2 rfl) ?_
  refine lv_iload_n hx hb dX7_spell_23 rfl (lv_at hl 0 rfl) ?_
  have hFc : ∀ q : Nat, va_A [] H1.size q → A q := fun q h => by
    rcases h with ⟨k9, e9, h9⟩ | h9
    · simp at h9
    · exact hA q (Nat.le_trans hS.1 h9)
  refine va_calli (va_runV (As := [.int (nI 0)]) (rest := [.int 0]) ⟨hx, hb, hml, hown, hts⟩ (c_J0_charAt_5068e l adK adV z 7 0 H1.size (by decide) (by decide)) (cwV 1 hts (gV t_450 t_451 t_452 t_142 t_453) rfl rfl rfl (by decide +kernel) ⟨Nat.le_of_ble_eq_true rfl, Nat.le_of_ble_eq_true rfl⟩) ⟨jBlind, vk_recv (i := 7) hE (by decide) hS, jGo hE0 hAz hS hz⟩ rfl rfl hl.1 rfl (lv_room (Nat.le_of_ble_eq_true rfl)) dX7_spell_24 ⟨Nat.le_of_ble_eq_true rfl, Nat.le_of_ble_eq_true rfl⟩) hS (fun q _ h => hFc q h) hFc (fun r9 u t H1 locs ht hvm hw hB hz1 hk1 hS => ?_)
  obtain rfl : r9 = 110 := hw.trans (by decide)
  refine lv_bipush (v := 97) hx hb dX7_spell_27 (by decide) ?_
  refine k_isub (v := 13) hx hb (by decide) dX7_spell_29 ?_
  refine lv_iconst (v := 1) hx hb dX7_spell_30 (by decide) ?_
  refine k_iadd (v := 14) hx hb (by decide) dX7_spell_31 ?_
  refine lv_goto (tgt := 36) hx hb dX7_spell_32 (by decide) ?_
  refine k_iadd (v := 14) hx hb (by decide) dX7_spell_36 ?_
  refine lv_istore_n (lv' := [(1, .int 14), (2, .int 0), (0, .ref (adK 7))]) hx hb dX7_spell_37 rfl hl (by decide) rfl (fun ls hl => ?_)
  refine lv_iinc (v := 1) (lv' := [(2, .int 1), (1, .int 14), (0, .ref (adK 7))]) hx hb dX7_spell_38 hl (k := 1) rfl (by decide) (by decide) rfl (fun ls hl => ?_)
  refine lv_goto (tgt := 4) hx hb dX7_spell_41 (by decide) ?_
  refine lv_iload_n hx hb dX7_spell_4 rfl (lv_at hl 0 rfl) ?_
  refine lv_bipush (v := 6) hx hb dX7_spell_5 (by decide) ?_
  refine lv_icmp_ge (tgt := 44) hx hb dX7_spell_7 (by decide) (fun c => absurd c (by decide)) (fun _ => ?_)
  refine lv_iload_n hx hb dX7_spell_10 rfl (lv_at hl 1 rfl) ?_
  refine lv_bipush (v := 27) hx hb dX7_spell_11 (by decide) ?_
  refine k_imul (v := 378) hx hb (by decide) dX7_spell_13 ?_
  refine lv_iload_n hx hb dX7_spell_14 rfl (lv_at hl 0 rfl) ?_
  refine lv_aload_n hx hb dX7_spell_15 rfl (lv_at hl 2 rfl) ?_
  have hFc : ∀ q : Nat, va_A [] H1.size q → A q := fun q h => by
    rcases h with ⟨k9, e9, h9⟩ | h9
    · simp at h9
    · exact hA q (Nat.le_trans hS.1 h9)
  refine va_calli (va_runV (As := []) (rest := [.int 1, .int 378]) ⟨hx, hb, hml, hown, hts⟩ (c_J0_length_8abf5 l adK adV z 7 H1.size (by decide)) (cwV 0 hts (gV t_440 t_441 t_442 t_142 t_443) rfl rfl rfl (by decide +kernel) ⟨Nat.le_of_ble_eq_true rfl, Nat.le_of_ble_eq_true rfl⟩) ⟨jBlind, vk_recv (i := 7) hE (by decide) hS, jGo hE0 hAz hS hz⟩ rfl rfl hl.1 rfl (lv_room (Nat.le_of_ble_eq_true rfl)) dX7_spell_16 ⟨Nat.le_of_ble_eq_true rfl, Nat.le_of_ble_eq_true rfl⟩) hS (fun q _ h => hFc q h) hFc (fun r9 u t H1 locs ht hvm hw hB hz1 hk1 hS => ?_)
  obtain rfl : r9 = 3 := hw.trans (by decide)
  refine lv_icmp_ge (tgt := 35) hx hb dX7_spell_19 (by decide) (fun c => absurd c (by decide)) (fun _ => ?_)
  refine lv_aload_n hx hb dX7_spell_22 rfl (lv_at hl 2 rfl) ?_
  refine lv_iload_n hx hb dX7_spell_23 rfl (lv_at hl 0 rfl) ?_
  have hFc : ∀ q : Nat, va_A [] H1.size q → A q := fun q h => by
    rcases h with ⟨k9, e9, h9⟩ | h9
    · simp at h9
    · exact hA q (Nat.le_trans hS.1 h9)
  refine va_calli (va_runV (As := [.int (nI 1)]) (rest := [.int 378]) ⟨hx, hb, hml, hown, hts⟩ (c_J0_charAt_5068e l adK adV z 7 1 H1.size (by decide) (by decide)) (cwV 1 hts (gV t_450 t_451 t_452 t_142 t_453) rfl rfl rfl (by decide +kernel) ⟨Nat.le_of_ble_eq_true rfl, Nat.le_of_ble_eq_true rfl⟩) ⟨jBlind, vk_recv (i := 7) hE (by decide) hS, jGo hE0 hAz hS hz⟩ rfl rfl hl.1 rfl (lv_room (Nat.le_of_ble_eq_true rfl)) dX7_spell_24 ⟨Nat.le_of_ble_eq_true rfl, Nat.le_of_ble_eq_true rfl⟩) hS (fun q _ h => hFc q h) hFc (fun r9 u t H1 locs ht hvm hw hB hz1 hk1 hS => ?_)
  obtain rfl : r9 = 117 := hw.trans (by decide)
  refine lv_bipush (v := 97) hx hb dX7_spell_27 (by decide) ?_
  refine k_isub (v := 20) hx hb (by decide) dX7_spell_29 ?_
  refine lv_iconst (v := 1) hx hb dX7_spell_30 (by decide) ?_
  refine k_iadd (v := 21) hx hb (by decide) dX7_spell_31 ?_
  refine lv_goto (tgt := 36) hx hb dX7_spell_32 (by decide) ?_
  refine k_iadd (v := 399) hx hb (by decide) dX7_spell_36 ?_
  refine lv_istore_n (lv' := [(1, .int 399), (2, .int 1), (0, .ref (adK 7))]) hx hb dX7_spell_37 rfl hl (by decide) rfl (fun ls hl => ?_)
  refine lv_iinc (v := 2) (lv' := [(2, .int 2), (1, .int 399), (0, .ref (adK 7))]) hx hb dX7_spell_38 hl (k := 1) rfl (by decide) (by decide) rfl (fun ls hl => ?_)
  refine lv_goto (tgt := 4) hx hb dX7_spell_41 (by decide) ?_
  refine lv_iload_n hx hb dX7_spell_4 rfl (lv_at hl 0 rfl) ?_
  refine lv_bipush (v := 6) hx hb dX7_spell_5 (by decide) ?_
  refine lv_icmp_ge (tgt := 44) hx hb dX7_spell_7 (by decide) (fun c => absurd c (by decide)) (fun _ => ?_)
  refine lv_iload_n hx hb dX7_spell_10 rfl (lv_at hl 1 rfl) ?_
  refine lv_bipush (v := 27) hx hb dX7_spell_11 (by decide) ?_
  refine k_imul (v := 10773) hx hb (by decide) dX7_spell_13 ?_
  refine lv_iload_n hx hb dX7_spell_14 rfl (lv_at hl 0 rfl) ?_
  refine lv_aload_n hx hb dX7_spell_15 rfl (lv_at hl 2 rfl) ?_
  have hFc : ∀ q : Nat, va_A [] H1.size q → A q := fun q h => by
    rcases h with ⟨k9, e9, h9⟩ | h9
    · simp at h9
    · exact hA q (Nat.le_trans hS.1 h9)
  refine va_calli (va_runV (As := []) (rest := [.int 2, .int 10773]) ⟨hx, hb, hml, hown, hts⟩ (c_J0_length_8abf5 l adK adV z 7 H1.size (by decide)) (cwV 0 hts (gV t_440 t_441 t_442 t_142 t_443) rfl rfl rfl (by decide +kernel) ⟨Nat.le_of_ble_eq_true rfl, Nat.le_of_ble_eq_true rfl⟩) ⟨jBlind, vk_recv (i := 7) hE (by decide) hS, jGo hE0 hAz hS hz⟩ rfl rfl hl.1 rfl (lv_room (Nat.le_of_ble_eq_true rfl)) dX7_spell_16 ⟨Nat.le_of_ble_eq_true rfl, Nat.le_of_ble_eq_true rfl⟩) hS (fun q _ h => hFc q h) hFc (fun r9 u t H1 locs ht hvm hw hB hz1 hk1 hS => ?_)
  obtain rfl : r9 = 3 := hw.trans (by decide)
  refine lv_icmp_ge (tgt := 35) hx hb dX7_spell_19 (by decide) (fun c => absurd c (by decide)) (fun _ => ?_)
  refine lv_aload_n hx hb dX7_spell_22 rfl (lv_at hl 2 rfl) ?_
  refine lv_iload_n hx hb dX7_spell_23 rfl (lv_at hl 0 rfl) ?_
  have hFc : ∀ q : Nat, va_A [] H1.size q → A q := fun q h => by
    rcases h with ⟨k9, e9, h9⟩ | h9
    · simp at h9
    · exact hA q (Nat.le_trans hS.1 h9)
  refine va_calli (va_runV (As := [.int (nI 2)]) (rest := [.int 10773]) ⟨hx, hb, hml, hown, hts⟩ (c_J0_charAt_5068e l adK adV z 7 2 H1.size (by decide) (by decide)) (cwV 1 hts (gV t_450 t_451 t_452 t_142 t_453) rfl rfl rfl (by decide +kernel) ⟨Nat.le_of_ble_eq_true rfl, Nat.le_of_ble_eq_true rfl⟩) ⟨jBlind, vk_recv (i := 7) hE (by decide) hS, jGo hE0 hAz hS hz⟩ rfl rfl hl.1 rfl (lv_room (Nat.le_of_ble_eq_true rfl)) dX7_spell_24 ⟨Nat.le_of_ble_eq_true rfl, Nat.le_of_ble_eq_true rfl⟩) hS (fun q _ h => hFc q h) hFc (fun r9 u t H1 locs ht hvm hw hB hz1 hk1 hS => ?_)
  obtain rfl : r9 = 109 := hw.trans (by decide)
  refine lv_bipush (v := 97) hx hb dX7_spell_27 (by decide) ?_
  refine k_isub (v := 12) hx hb (by decide) dX7_spell_29 ?_
  refine lv_iconst (v := 1) hx hb dX7_spell_30 (by decide) ?_
  refine k_iadd (v := 13) hx hb (by decide) dX7_spell_31 ?_
  refine lv_goto (tgt := 36) hx hb dX7_spell_32 (by decide) ?_
  refine k_iadd (v := 10786) hx hb (by decide) dX7_spell_36 ?_
  refine lv_istore_n (lv' := [(1, .int 10786), (2, .int 2), (0, .ref (adK 7))]) hx hb dX7_spell_37 rfl hl (by decide) rfl (fun ls hl => ?_)
  refine lv_iinc (v := 3) (lv' := [(2, .int 3), (1, .int 10786), (0, .ref (adK 7))]) hx hb dX7_spell_38 hl (k := 1) rfl (by decide) (by decide) rfl (fun ls hl => ?_)
  refine lv_goto (tgt := 4) hx hb dX7_spell_41 (by decide) ?_
  refine lv_iload_n hx hb dX7_spell_4 rfl (lv_at hl 0 rfl) ?_
  refine lv_bipush (v := 6) hx hb dX7_spell_5 (by decide) ?_
  refine lv_icmp_ge (tgt := 44) hx hb dX7_spell_7 (by decide) (fun c => absurd c (by decide)) (fun _ => ?_)
  refine lv_iload_n hx hb dX7_spell_10 rfl (lv_at hl 1 rfl) ?_
  refine lv_bipush (v := 27) hx hb dX7_spell_11 (by decide) ?_
  refine k_imul (v := 291222) hx hb (by decide) dX7_spell_13 ?_
  refine lv_iload_n hx hb dX7_spell_14 rfl (lv_at hl 0 rfl) ?_
  refine lv_aload_n hx hb dX7_spell_15 rfl (lv_at hl 2 rfl) ?_
  have hFc : ∀ q : Nat, va_A [] H1.size q → A q := fun q h => by
    rcases h with ⟨k9, e9, h9⟩ | h9
    · simp at h9
    · exact hA q (Nat.le_trans hS.1 h9)
  refine va_calli (va_runV (As := []) (rest := [.int 3, .int 291222]) ⟨hx, hb, hml, hown, hts⟩ (c_J0_length_8abf5 l adK adV z 7 H1.size (by decide)) (cwV 0 hts (gV t_440 t_441 t_442 t_142 t_443) rfl rfl rfl (by decide +kernel) ⟨Nat.le_of_ble_eq_true rfl, Nat.le_of_ble_eq_true rfl⟩) ⟨jBlind, vk_recv (i := 7) hE (by decide) hS, jGo hE0 hAz hS hz⟩ rfl rfl hl.1 rfl (lv_room (Nat.le_of_ble_eq_true rfl)) dX7_spell_16 ⟨Nat.le_of_ble_eq_true rfl, Nat.le_of_ble_eq_true rfl⟩) hS (fun q _ h => hFc q h) hFc (fun r9 u t H1 locs ht hvm hw hB hz1 hk1 hS => ?_)
  obtain rfl : r9 = 3 := hw.trans (by decide)
  refine lv_icmp_ge (tgt := 35) hx hb dX7_spell_19 (by decide) (fun _ => ?_) (fun c => absurd (by decide) c)
  refine lv_iconst (v := 0) hx hb dX7_spell_35 (by decide) ?_
  refine k_iadd (v := 291222) hx hb (by decide) dX7_spell_36 ?_
  refine lv_istore_n (lv' := [(1, .int 291222), (2, .int 3), (0, .ref (adK 7))]) hx hb dX7_spell_37 rfl hl (by decide) rfl (fun ls hl => ?_)
  refine lv_iinc (v := 4) (lv' := [(2, .int 4), (1, .int 291222), (0, .ref (adK 7))]) hx hb dX7_spell_38 hl (k := 1) rfl (by decide) (by decide) rfl (fun ls hl => ?_)
  refine lv_goto (tgt := 4) hx hb dX7_spell_41 (by decide) ?_
  refine lv_iload_n hx hb dX7_spell_4 rfl (lv_at hl 0 rfl) ?_
  refine lv_bipush (v := 6) hx hb dX7_spell_5 (by decide) ?_
  refine lv_icmp_ge (tgt := 44) hx hb dX7_spell_7 (by decide) (fun c => absurd c (by decide)) (fun _ => ?_)
  refine lv_iload_n hx hb dX7_spell_10 rfl (lv_at hl 1 rfl) ?_
  refine lv_bipush (v := 27) hx hb dX7_spell_11 (by decide) ?_
  refine k_imul (v := 7862994) hx hb (by decide) dX7_spell_13 ?_
  refine lv_iload_n hx hb dX7_spell_14 rfl (lv_at hl 0 rfl) ?_
  refine lv_aload_n hx hb dX7_spell_15 rfl (lv_at hl 2 rfl) ?_
  have hFc : ∀ q : Nat, va_A [] H1.size q → A q := fun q h => by
    rcases h with ⟨k9, e9, h9⟩ | h9
    · simp at h9
    · exact hA q (Nat.le_trans hS.1 h9)
  refine va_calli (va_runV (As := []) (rest := [.int 4, .int 7862994]) ⟨hx, hb, hml, hown, hts⟩ (c_J0_length_8abf5 l adK adV z 7 H1.size (by decide)) (cwV 0 hts (gV t_440 t_441 t_442 t_142 t_443) rfl rfl rfl (by decide +kernel) ⟨Nat.le_of_ble_eq_true rfl, Nat.le_of_ble_eq_true rfl⟩) ⟨jBlind, vk_recv (i := 7) hE (by decide) hS, jGo hE0 hAz hS hz⟩ rfl rfl hl.1 rfl (lv_room (Nat.le_of_ble_eq_true rfl)) dX7_spell_16 ⟨Nat.le_of_ble_eq_true rfl, Nat.le_of_ble_eq_true rfl⟩) hS (fun q _ h => hFc q h) hFc (fun r9 u t H1 locs ht hvm hw hB hz1 hk1 hS => ?_)
  obtain rfl : r9 = 3 := hw.trans (by decide)
  refine lv_icmp_ge (tgt := 35) hx hb dX7_spell_19 (by decide) (fun _ => ?_) (fun c => absurd (by decide) c)
  refine lv_iconst (v := 0) hx hb dX7_spell_35 (by decide) ?_
  refine k_iadd (v := 7862994) hx hb (by decide) dX7_spell_36 ?_
  refine lv_istore_n (lv' := [(1, .int 7862994), (2, .int 4), (0, .ref (adK 7))]) hx hb dX7_spell_37 rfl hl (by decide) rfl (fun ls hl => ?_)
  refine lv_iinc (v := 5) (lv' := [(2, .int 5), (1, .int 7862994), (0, .ref (adK 7))]) hx hb dX7_spell_38 hl (k := 1) rfl (by decide) (by decide) rfl (fun ls hl => ?_)
  refine lv_goto (tgt := 4) hx hb dX7_spell_41 (by decide) ?_
  refine lv_iload_n hx hb dX7_spell_4 rfl (lv_at hl 0 rfl) ?_
  refine lv_bipush (v := 6) hx hb dX7_spell_5 (by decide) ?_
  refine lv_icmp_ge (tgt := 44) hx hb dX7_spell_7 (by decide) (fun c => absurd c (by decide)) (fun _ => ?_)
  refine lv_iload_n hx hb dX7_spell_10 rfl (lv_at hl 1 rfl) ?_
  refine lv_bipush (v := 27) hx hb dX7_spell_11 (by decide) ?_
  refine k_imul (v := 212300838) hx hb (by decide) dX7_spell_13 ?_
  refine lv_iload_n hx hb dX7_spell_14 rfl (lv_at hl 0 rfl) ?_
  refine lv_aload_n hx hb dX7_spell_15 rfl (lv_at hl 2 rfl) ?_
  have hFc : ∀ q : Nat, va_A [] H1.size q → A q := fun q h => by
    rcases h with ⟨k9, e9, h9⟩ | h9
    · simp at h9
    · exact hA q (Nat.le_trans hS.1 h9)
  refine va_calli (va_runV (As := []) (rest := [.int 5, .int 212300838]) ⟨hx, hb, hml, hown, hts⟩ (c_J0_length_8abf5 l adK adV z 7 H1.size (by decide)) (cwV 0 hts (gV t_440 t_441 t_442 t_142 t_443) rfl rfl rfl (by decide +kernel) ⟨Nat.le_of_ble_eq_true rfl, Nat.le_of_ble_eq_true rfl⟩) ⟨jBlind, vk_recv (i := 7) hE (by decide) hS, jGo hE0 hAz hS hz⟩ rfl rfl hl.1 rfl (lv_room (Nat.le_of_ble_eq_true rfl)) dX7_spell_16 ⟨Nat.le_of_ble_eq_true rfl, Nat.le_of_ble_eq_true rfl⟩) hS (fun q _ h => hFc q h) hFc (fun r9 u t H1 locs ht hvm hw hB hz1 hk1 hS => ?_)
  obtain rfl : r9 = 3 := hw.trans (by decide)
  refine lv_icmp_ge (tgt := 35) hx hb dX7_spell_19 (by decide) (fun _ => ?_) (fun c => absurd (by decide) c)
  refine lv_iconst (v := 0) hx hb dX7_spell_35 (by decide) ?_
  refine k_iadd (v := 212300838) hx hb (by decide) dX7_spell_36 ?_
  refine lv_istore_n (lv' := [(1, .int 212300838), (2, .int 5), (0, .ref (adK 7))]) hx hb dX7_spell_37 rfl hl (by decide) rfl (fun ls hl => ?_)
  refine lv_iinc (v := 6) (lv' := [(2, .int 6), (1, .int 212300838), (0, .ref (adK 7))]) hx hb dX7_spell_38 hl (k := 1) rfl (by decide) (by decide) rfl (fun ls hl => ?_)
  refine lv_goto (tgt := 4) hx hb dX7_spell_41 (by decide) ?_
  refine lv_iload_n hx hb dX7_spell_4 rfl (lv_at hl 0 rfl) ?_
  refine lv_bipush (v := 6) hx hb dX7_spell_5 (by decide) ?_
  refine lv_icmp_ge (tgt := 44) hx hb dX7_spell_7 (by decide) (fun _ => ?_) (fun c => absurd (by decide) c)
  refine lv_iload_n hx hb dX7_spell_44 rfl (lv_at hl 1 rfl) ?_
  exact W.iret (v := 212300838) hx hb hr (fun t ht hW => ⟨⟨212300838, (), rfl, rfl, trivial⟩, hS.F ht⟩) hS.2.2 dX7_spell_45
set_option maxHeartbeats 4000000 in
set_option maxRecDepth 100000 in
theorem c_X7_spell_8 (l : Launch) (adK adV : Nat → Nat) (z : Nat) (sz : Nat) : Met l yX7_spell (.code yX7_spell cX7_spell 3 (some .int) :: WT) ({ frames := 8, cells := 0, slots := 0, locals := 700 }) (va_Pc [.ref (adK 8)] (jPre adK adV z sz)) (va_Qi (fun (r : Int32) (u : Unit) => r = 22281156) (fun _ _ => True) (va_A [] sz)) 0 0 (va_A [] sz) := by
  refine Met.ofW (cc := cX7_spell) (maxL := 3) (ret := (some .int)) (by decide) rfl ?_
  intro p e s m args below meth c s₁ B hml hv
  obtain ⟨rfl, hsz, hE0, hz⟩ := hv
  have hx := B.exec
  have hb := B.bytes
  have hr := B.returns
  have hts0 := atoms_spec (ws := .code yX7_spell cX7_spell 3 (some .int) :: WT) B.pre
  have hts : ∀ w ∈ WT, w.before _ s = true := fun w h => hts0 w (List.mem_cons_of_mem _ h)
  have hown : s.vm.findClass RX7 = some m.cls := findClass_of_methodNamed B.named
  have hlocks := B.notSynchronized
  subst hsz
  have hAz : ∀ q : Nat, va_A [] s.heap.size q → z ≤ q := fun q h => by
    rcases h with ⟨k9, e9, h9⟩ | h9
    · simp at h9
    · exact Nat.le_trans hz h9
  generalize hAe : va_A [] s.heap.size = A at hAz ⊢
  have hA : ∀ q : Nat, s.heap.size ≤ q → A q := fun q h => by rw [← hAe]; exact Or.inr h
  have hS : va_S A s.heap s.heap [] := va_S.rf
  have hE : vk_S 11 lenS bytS adK adV A s s.heap := hE0.1.narrow hAz
  have hZ : va_Z "java/lang/String" "COMPACT_STRINGS" "Z" (.int 1) A s s.heap := hE0.2.1.narrow hAz
  have hZq : va_Zq "jdk/internal/util/Preconditions" "SIOOBE_FORMATTER" "Ljava/util/function/BiFunction;" A s s.heap := hE0.2.2.1.narrow hAz
  have hl := lv_entry ([.ref (adK 8)]) (n := 3) (Nat.le_of_ble_eq_true rfl)
  rw [lg_entry_eq]
  generalize (lg_sl ([.ref (adK 8)]) ++ List.replicate (3 - (lg_sl ([.ref (adK 8)])).length) Slot.unset).toArray = ls at hl ⊢
  have hl : lv_has ls 3 [(0, .ref (adK 8))] := hl
  refine lv_iconst (v := 0) hx hb dX7_spell_0 (by decide) ?_
  refine lv_istore_n (lv' := [(1, .int 0), (0, .ref (adK 8))]) hx hb dX7_spell_1 rfl hl (by decide) rfl (fun ls hl => ?_)
  refine lv_iconst (v := 0) hx hb dX7_spell_2 (by decide) ?_
  refine lv_istore_n (lv' := [(2, .int 0), (1, .int 0), (0, .ref (adK 8))]) hx hb dX7_spell_3 rfl hl (by decide) rfl (fun ls hl => ?_)
  refine lv_iload_n hx hb dX7_spell_4 rfl (lv_at hl 0 rfl) ?_
  refine lv_bipush (v := 6) hx hb dX7_spell_5 (by decide) ?_
  refine lv_icmp_ge (tgt := 44) hx hb dX7_spell_7 (by decide) (fun c => absurd c (by decide)) (fun _ => ?_)
  refine lv_iload_n hx hb dX7_spell_10 rfl (lv_at hl 1 rfl) ?_
  refine lv_bipush (v := 27) hx hb dX7_spell_11 (by decide) ?_
  refine k_imul (v := 0) hx hb (by decide) dX7_spell_13 ?_
  refine lv_iload_n hx hb dX7_spell_14 rfl (lv_at hl 0 rfl) ?_
  refine lv_aload_n hx hb dX7_spell_15 rfl (lv_at hl 2 rfl) ?_
  have hFc : ∀ q : Nat, va_A [] s.heap.size q → A q := fun q h => by
    rcases h with ⟨k9, e9, h9⟩ | h9
    · simp at h9
    · exact hA q (Nat.le_trans hS.1 h9)
  refine va_calli (va_runV (As := []) (rest := [.int 0, .int 0]) ⟨hx, hb, hml, hown, hts⟩ (c_J0_length_8abf5 l adK adV z 8 s.heap.size (by decide)) (cwV 0 hts (gV t_440 t_441 t_442 t_142 t_443) rfl rfl rfl (by decide +kernel) ⟨Nat.le_of_ble_eq_true rfl, Nat.le_of_ble_eq_true rfl⟩) ⟨jBlind, vk_recv (i := 8) hE (by decide) hS, jGo hE0 hAz hS hz⟩ rfl rfl hl.1 rfl (lv_room (Nat.le_of_ble_eq_true rfl)) dX7_spell_16 ⟨Nat.le_of_ble_eq_true rfl, Nat.le_of_ble_eq_true rfl⟩) hS (fun q _ h => hFc q h) hFc (fun r9 u t H1 locs ht hvm hw hB hz1 hk1 hS => ?_)
  obtain rfl : r9 = 3 := hw.trans (by decide)
  refine lv_icmp_ge (tgt := 35) hx hb dX7_spell_19 (by decide) (fun c => absurd c (by decide)) (fun _ => ?_)
  refine lv_aload_n hx hb dX7_spell_22 rfl (lv_at hl 2 rfl) ?_
  refine lv_iload_n hx hb dX7_spell_23 rfl (lv_at hl 0 rfl) ?_
  have hFc : ∀ q : Nat, va_A [] H1.size q → A q := fun q h => by
    rcases h with ⟨k9, e9, h9⟩ | h9
    · simp at h9
    · exact hA q (Nat.le_trans hS.1 h9)
  refine va_calli (va_runV (As := [.int (nI 0)]) (rest := [.int 0]) ⟨hx, hb, hml, hown, hts⟩ (c_J0_charAt_5068e l adK adV z 8 0 H1.size (by decide) (by decide)) (cwV 1 hts (gV t_450 t_451 t_452 t_142 t_453) rfl rfl rfl (by decide +kernel) ⟨Nat.le_of_ble_eq_true rfl, Nat.le_of_ble_eq_true rfl⟩) ⟨jBlind, vk_recv (i := 8) hE (by decide) hS, jGo hE0 hAz hS hz⟩ rfl rfl hl.1 rfl (lv_room (Nat.le_of_ble_eq_true rfl)) dX7_spell_24 ⟨Nat.le_of_ble_eq_true rfl, Nat.le_of_ble_eq_true rfl⟩) hS (fun q _ h => hFc q h) hFc (fun r9 u t H1 locs ht hvm hw hB hz1 hk1 hS => ?_)
  obtain rfl : r9 = 97 := hw.trans (by decide)
  refine lv_bipush (v := 97) hx hb dX7_spell_27 (by decide) ?_
  refine k_isub (v := 0) hx hb (by decide) dX7_spell_29 ?_
  refine lv_iconst (v := 1) hx hb dX7_spell_30 (by decide) ?_
  refine k_iadd (v := 1) hx hb (by decide) dX7_spell_31 ?_
  refine lv_goto (tgt := 36) hx hb dX7_spell_32 (by decide) ?_
  refine k_iadd (v := 1) hx hb (by decide) dX7_spell_36 ?_
  refine lv_istore_n (lv' := [(1, .int 1), (2, .int 0), (0, .ref (adK 8))]) hx hb dX7_spell_37 rfl hl (by decide) rfl (fun ls hl => ?_)
  refine lv_iinc (v := 1) (lv' := [(2, .int 1), (1, .int 1), (0, .ref (adK 8))]) hx hb dX7_spell_38 hl (k := 1) rfl (by decide) (by decide) rfl (fun ls hl => ?_)
  refine lv_goto (tgt := 4) hx hb dX7_spell_41 (by decide) ?_
  refine lv_iload_n hx hb dX7_spell_4 rfl (lv_at hl 0 rfl) ?_
  refine lv_bipush (v := 6) hx hb dX7_spell_5 (by decide) ?_
  refine lv_icmp_ge (tgt := 44) hx hb dX7_spell_7 (by decide) (fun c => absurd c (by decide)) (fun _ => ?_)
  refine lv_iload_n hx hb dX7_spell_10 rfl (lv_at hl 1 rfl) ?_
  refine lv_bipush (v := 27) hx hb dX7_spell_11 (by decide) ?_
  refine k_imul (v := 27) hx hb (by decide) dX7_spell_13 ?_
  refine lv_iload_n hx hb dX7_spell_14 rfl (lv_at hl 0 rfl) ?_
  refine lv_aload_n hx hb dX7_spell_15 rfl (lv_at hl 2 rfl) ?_
  have hFc : ∀ q : Nat, va_A [] H1.size q → A q := fun q h => by
    rcases h with ⟨k9, e9, h9⟩ | h9
    · simp at h9
    · exact hA q (Nat.le_trans hS.1 h9)
  refine va_calli (va_runV (As := []) (rest := [.int 1, .int 27]) ⟨hx, hb, hml, hown, hts⟩ (c_J0_length_8abf5 l adK adV z 8 H1.size (by decide)) (cwV 0 hts (gV t_440 t_441 t_442 t_142 t_443) rfl rfl rfl (by decide +kernel) ⟨Nat.le_of_ble_eq_true rfl, Nat.le_of_ble_eq_true rfl⟩) ⟨jBlind, vk_recv (i := 8) hE (by decide) hS, jGo hE0 hAz hS hz⟩ rfl rfl hl.1 rfl (lv_room (Nat.le_of_ble_eq_true rfl)) dX7_spell_16 ⟨Nat.le_of_ble_eq_true rfl, Nat.le_of_ble_eq_true rfl⟩) hS (fun q _ h => hFc q h) hFc (fun r9 u t H1 locs ht hvm hw hB hz1 hk1 hS => ?_)
  obtain rfl : r9 = 3 := hw.trans (by decide)
  refine lv_icmp_ge (tgt := 35) hx hb dX7_spell_19 (by decide) (fun c => absurd c (by decide)) (fun _ => ?_)
  refine lv_aload_n hx hb dX7_spell_22 rfl (lv_at hl 2 rfl) ?_
  refine lv_iload_n hx hb dX7_spell_23 rfl (lv_at hl 0 rfl) ?_
  have hFc : ∀ q : Nat, va_A [] H1.size q → A q := fun q h => by
    rcases h with ⟨k9, e9, h9⟩ | h9
    · simp at h9
    · exact hA q (Nat.le_trans hS.1 h9)
  refine va_calli (va_runV (As := [.int (nI 1)]) (rest := [.int 27]) ⟨hx, hb, hml, hown, hts⟩ (c_J0_charAt_5068e l adK adV z 8 1 H1.size (by decide) (by decide)) (cwV 1 hts (gV t_450 t_451 t_452 t_142 t_453) rfl rfl rfl (by decide +kernel) ⟨Nat.le_of_ble_eq_true rfl, Nat.le_of_ble_eq_true rfl⟩) ⟨jBlind, vk_recv (i := 8) hE (by decide) hS, jGo hE0 hAz hS hz⟩ rfl rfl hl.1 rfl (lv_room (Nat.le_of_ble_eq_true rfl)) dX7_spell_24 ⟨Nat.le_of_ble_eq_true rfl, Nat.le_of_ble_eq_true rfl⟩) hS (fun q _ h => hFc q h) hFc (fun r9 u t H1 locs ht hvm hw hB hz1 hk1 hS => ?_)
  obtain rfl : r9 = 110 := hw.trans (by decide)
  refine lv_bipush (v := 97) hx hb dX7_spell_27 (by decide) ?_
  refine k_isub (v := 13) hx hb (by decide) dX7_spell_29 ?_
  refine lv_iconst (v := 1) hx hb dX7_spell_30 (by decide) ?_
  refine k_iadd (v := 14) hx hb (by decide) dX7_spell_31 ?_
  refine lv_goto (tgt := 36) hx hb dX7_spell_32 (by decide) ?_
  refine k_iadd (v := 41) hx hb (by decide) dX7_spell_36 ?_
  refine lv_istore_n (lv' := [(1, .int 41), (2, .int 1), (0, .ref (adK 8))]) hx hb dX7_spell_37 rfl hl (by decide) rfl (fun ls hl => ?_)
  refine lv_iinc (v := 2) (lv' := [(2, .int 2), (1, .int 41), (0, .ref (adK 8))]) hx hb dX7_spell_38 hl (k := 1) rfl (by decide) (by decide) rfl (fun ls hl => ?_)
  refine lv_goto (tgt := 4) hx hb dX7_spell_41 (by decide) ?_
  refine lv_iload_n hx hb dX7_spell_4 rfl (lv_at hl 0 rfl) ?_
  refine lv_bipush (v := 6) hx hb dX7_spell_5 (by decide) ?_
  refine lv_icmp_ge (tgt := 44) hx hb dX7_spell_7 (by decide) (fun c => absurd c (by decide)) (fun _ => ?_)
  refine lv_iload_n hx hb dX7_spell_10 rfl (lv_at hl 1 rfl) ?_
  refine lv_bipush (v := 27) hx hb dX7_spell_11 (by decide) ?_
  refine k_imul (v := 1107) hx hb (by decide) dX7_spell_13 ?_
  refine lv_iload_n hx hb dX7_spell_14 rfl (lv_at hl 0 rfl) ?_
  refine lv_aload_n hx hb dX7_spell_15 rfl (lv_at hl 2 rfl) ?_
  have hFc : ∀ q : Nat, va_A [] H1.size q → A q := fun q h => by
    rcases h with ⟨k9, e9, h9⟩ | h9
    · simp at h9
    · exact hA q (Nat.le_trans hS.1 h9)
  refine va_calli (va_runV (As := []) (rest := [.int 2, .int 1107]) ⟨hx, hb, hml, hown, hts⟩ (c_J0_length_8abf5 l adK adV z 8 H1.size (by decide)) (cwV 0 hts (gV t_440 t_441 t_442 t_142 t_443) rfl rfl rfl (by decide +kernel) ⟨Nat.le_of_ble_eq_true rfl, Nat.le_of_ble_eq_true rfl⟩) ⟨jBlind, vk_recv (i := 8) hE (by decide) hS, jGo hE0 hAz hS hz⟩ rfl rfl hl.1 rfl (lv_room (Nat.le_of_ble_eq_true rfl)) dX7_spell_16 ⟨Nat.le_of_ble_eq_true rfl, Nat.le_of_ble_eq_true rfl⟩) hS (fun q _ h => hFc q h) hFc (fun r9 u t H1 locs ht hvm hw hB hz1 hk1 hS => ?_)
  obtain rfl : r9 = 3 := hw.trans (by decide)
  refine lv_icmp_ge (tgt := 35) hx hb dX7_spell_19 (by decide) (fun c => absurd c (by decide)) (fun _ => ?_)
  refine lv_aload_n hx hb dX7_spell_22 rfl (lv_at hl 2 rfl) ?_
  refine lv_iload_n hx hb dX7_spell_23 rfl (lv_at hl 0 rfl) ?_
  have hFc : ∀ q : Nat, va_A [] H1.size q → A q := fun q h => by
    rcases h with ⟨k9, e9, h9⟩ | h9
    · simp at h9
    · exact hA q (Nat.le_trans hS.1 h9)
  refine va_calli (va_runV (As := [.int (nI 2)]) (rest := [.int 1107]) ⟨hx, hb, hml, hown, hts⟩ (c_J0_charAt_5068e l adK adV z 8 2 H1.size (by decide) (by decide)) (cwV 1 hts (gV t_450 t_451 t_452 t_142 t_453) rfl rfl rfl (by decide +kernel) ⟨Nat.le_of_ble_eq_true rfl, Nat.le_of_ble_eq_true rfl⟩) ⟨jBlind, vk_recv (i := 8) hE (by decide) hS, jGo hE0 hAz hS hz⟩ rfl rfl hl.1 rfl (lv_room (Nat.le_of_ble_eq_true rfl)) dX7_spell_24 ⟨Nat.le_of_ble_eq_true rfl, Nat.le_of_ble_eq_true rfl⟩) hS (fun q _ h => hFc q h) hFc (fun r9 u t H1 locs ht hvm hw hB hz1 hk1 hS => ?_)
  obtain rfl : r9 = 121 := hw.trans (by decide)
  refine lv_bipush (v := 97) hx hb dX7_spell_27 (by decide) ?_
  refine k_isub (v := 24) hx hb (by decide) dX7_spell_29 ?_
  refine lv_iconst (v := 1) hx hb dX7_spell_30 (by decide) ?_
  refine k_iadd (v := 25) hx hb (by decide) dX7_spell_31 ?_
  refine lv_goto (tgt := 36) hx hb dX7_spell_32 (by decide) ?_
  refine k_iadd (v := 1132) hx hb (by decide) dX7_spell_36 ?_
  refine lv_istore_n (lv' := [(1, .int 1132), (2, .int 2), (0, .ref (adK 8))]) hx hb dX7_spell_37 rfl hl (by decide) rfl (fun ls hl => ?_)
  refine lv_iinc (v := 3) (lv' := [(2, .int 3), (1, .int 1132), (0, .ref (adK 8))]) hx hb dX7_spell_38 hl (k := 1) rfl (by decide) (by decide) rfl (fun ls hl => ?_)
  refine lv_goto (tgt := 4) hx hb dX7_spell_41 (by decide) ?_
  refine lv_iload_n hx hb dX7_spell_4 rfl (lv_at hl 0 rfl) ?_
  refine lv_bipush (v := 6) hx hb dX7_spell_5 (by decide) ?_
  refine lv_icmp_ge (tgt := 44) hx hb dX7_spell_7 (by decide) (fun c => absurd c (by decide)) (fun _ => ?_)
  refine lv_iload_n hx hb dX7_spell_10 rfl (lv_at hl 1 rfl) ?_
  refine lv_bipush (v := 27) hx hb dX7_spell_11 (by decide) ?_
  refine k_imul (v := 30564) hx hb (by decide) dX7_spell_13 ?_
  refine lv_iload_n hx hb dX7_spell_14 rfl (lv_at hl 0 rfl) ?_
  refine lv_aload_n hx hb dX7_spell_15 rfl (lv_at hl 2 rfl) ?_
  have hFc : ∀ q : Nat, va_A [] H1.size q → A q := fun q h => by
    rcases h with ⟨k9, e9, h9⟩ | h9
    · simp at h9
    · exact hA q (Nat.le_trans hS.1 h9)
  refine va_calli (va_runV (As := []) (rest := [.int 3, .int 30564]) ⟨hx, hb, hml, hown, hts⟩ (c_J0_length_8abf5 l adK adV z 8 H1.size (by decide)) (cwV 0 hts (gV t_440 t_441 t_442 t_142 t_443) rfl rfl rfl (by decide +kernel) ⟨Nat.le_of_ble_eq_true rfl, Nat.le_of_ble_eq_true rfl⟩) ⟨jBlind, vk_recv (i := 8) hE (by decide) hS, jGo hE0 hAz hS hz⟩ rfl rfl hl.1 rfl (lv_room (Nat.le_of_ble_eq_true rfl)) dX7_spell_16 ⟨Nat.le_of_ble_eq_true rfl, Nat.le_of_ble_eq_true rfl⟩) hS (fun q _ h => hFc q h) hFc (fun r9 u t H1 locs ht hvm hw hB hz1 hk1 hS => ?_)
  obtain rfl : r9 = 3 := hw.trans (by decide)
  refine lv_icmp_ge (tgt := 35) hx hb dX7_spell_19 (by decide) (fun _ => ?_) (fun c => absurd (by decide) c)
  refine lv_iconst (v := 0) hx hb dX7_spell_35 (by decide) ?_
  refine k_iadd (v := 30564) hx hb (by decide) dX7_spell_36 ?_
  refine lv_istore_n (lv' := [(1, .int 30564), (2, .int 3), (0, .ref (adK 8))]) hx hb dX7_spell_37 rfl hl (by decide) rfl (fun ls hl => ?_)
  refine lv_iinc (v := 4) (lv' := [(2, .int 4), (1, .int 30564), (0, .ref (adK 8))]) hx hb dX7_spell_38 hl (k := 1) rfl (by decide) (by decide) rfl (fun ls hl => ?_)
  refine lv_goto (tgt := 4) hx hb dX7_spell_41 (by decide) ?_
  refine lv_iload_n hx hb dX7_spell_4 rfl (lv_at hl 0 rfl) ?_
  refine lv_bipush (v := 6) hx hb dX7_spell_5 (by decide) ?_
  refine lv_icmp_ge (tgt := 44) hx hb dX7_spell_7 (by decide) (fun c => absurd c (by decide)) (fun _ => ?_)
  refine lv_iload_n hx hb dX7_spell_10 rfl (lv_at hl 1 rfl) ?_
  refine lv_bipush (v := 27) hx hb dX7_spell_11 (by decide) ?_
  refine k_imul (v := 825228) hx hb (by decide) dX7_spell_13 ?_
  refine lv_iload_n hx hb dX7_spell_14 rfl (lv_at hl 0 rfl) ?_
  refine lv_aload_n hx hb dX7_spell_15 rfl (lv_at hl 2 rfl) ?_
  have hFc : ∀ q : Nat, va_A [] H1.size q → A q := fun q h => by
    rcases h with ⟨k9, e9, h9⟩ | h9
    · simp at h9
    · exact hA q (Nat.le_trans hS.1 h9)
  refine va_calli (va_runV (As := []) (rest := [.int 4, .int 825228]) ⟨hx, hb, hml, hown, hts⟩ (c_J0_length_8abf5 l adK adV z 8 H1.size (by decide)) (cwV 0 hts (gV t_440 t_441 t_442 t_142 t_443) rfl rfl rfl (by decide +kernel) ⟨Nat.le_of_ble_eq_true rfl, Nat.le_of_ble_eq_true rfl⟩) ⟨jBlind, vk_recv (i := 8) hE (by decide) hS, jGo hE0 hAz hS hz⟩ rfl rfl hl.1 rfl (lv_room (Nat.le_of_ble_eq_true rfl)) dX7_spell_16 ⟨Nat.le_of_ble_eq_true rfl, Nat.le_of_ble_eq_true rfl⟩) hS (fun q _ h => hFc q h) hFc (fun r9 u t H1 locs ht hvm hw hB hz1 hk1 hS => ?_)
  obtain rfl : r9 = 3 := hw.trans (by decide)
  refine lv_icmp_ge (tgt := 35) hx hb dX7_spell_19 (by decide) (fun _ => ?_) (fun c => absurd (by decide) c)
  refine lv_iconst (v := 0) hx hb dX7_spell_35 (by decide) ?_
  refine k_iadd (v := 825228) hx hb (by decide) dX7_spell_36 ?_
  refine lv_istore_n (lv' := [(1, .int 825228), (2, .int 4), (0, .ref (adK 8))]) hx hb dX7_spell_37 rfl hl (by decide) rfl (fun ls hl => ?_)
  refine lv_iinc (v := 5) (lv' := [(2, .int 5), (1, .int 825228), (0, .ref (adK 8))]) hx hb dX7_spell_38 hl (k := 1) rfl (by decide) (by decide) rfl (fun ls hl => ?_)
  refine lv_goto (tgt := 4) hx hb dX7_spell_41 (by decide) ?_
  refine lv_iload_n hx hb dX7_spell_4 rfl (lv_at hl 0 rfl) ?_
  refine lv_bipush (v := 6) hx hb dX7_spell_5 (by decide) ?_
  refine lv_icmp_ge (tgt := 44) hx hb dX7_spell_7 (by decide) (fun c => absurd c (by decide)) (fun _ => ?_)
  refine lv_iload_n hx hb dX7_spell_10 rfl (lv_at hl 1 rfl) ?_
  refine lv_bipush (v := 27) hx hb dX7_spell_11 (by decide) ?_
  refine k_imul (v := 22281156) hx hb (by decide) dX7_spell_13 ?_
  refine lv_iload_n hx hb dX7_spell_14 rfl (lv_at hl 0 rfl) ?_
  refine lv_aload_n hx hb dX7_spell_15 rfl (lv_at hl 2 rfl) ?_
  have hFc : ∀ q : Nat, va_A [] H1.size q → A q := fun q h => by
    rcases h with ⟨k9, e9, h9⟩ | h9
    · simp at h9
    · exact hA q (Nat.le_trans hS.1 h9)
  refine va_calli (va_runV (As := []) (rest := [.int 5, .int 22281156]) ⟨hx, hb, hml, hown, hts⟩ (c_J0_length_8abf5 l adK adV z 8 H1.size (by decide)) (cwV 0 hts (gV t_440 t_441 t_442 t_142 t_443) rfl rfl rfl (by decide +kernel) ⟨Nat.le_of_ble_eq_true rfl, Nat.le_of_ble_eq_true rfl⟩) ⟨jBlind, vk_recv (i := 8) hE (by decide) hS, jGo hE0 hAz hS hz⟩ rfl rfl hl.1 rfl (lv_room (Nat.le_of_ble_eq_true rfl)) dX7_spell_16 ⟨Nat.le_of_ble_eq_true rfl, Nat.le_of_ble_eq_true rfl⟩) hS (fun q _ h => hFc q h) hFc (fun r9 u t H1 locs ht hvm hw hB hz1 hk1 hS => ?_)
  obtain rfl : r9 = 3 := hw.trans (by decide)
  refine lv_icmp_ge (tgt := 35) hx hb dX7_spell_19 (by decide) (fun _ => ?_) (fun c => absurd (by decide) c)
  refine lv_iconst (v := 0) hx hb dX7_spell_35 (by decide) ?_
  refine k_iadd (v := 22281156) hx hb (by decide) dX7_spell_36 ?_
  refine lv_istore_n (lv' := [(1, .int 22281156), (2, .int 5), (0, .ref (adK 8))]) hx hb dX7_spell_37 rfl hl (by decide) rfl (fun ls hl => ?_)
  refine lv_iinc (v := 6) (lv' := [(2, .int 6), (1, .int 22281156), (0, .ref (adK 8))]) hx hb dX7_spell_38 hl (k := 1) rfl (by decide) (by decide) rfl (fun ls hl => ?_)
  refine lv_goto (tgt := 4) hx hb dX7_spell_41 (by decide) ?_
  refine lv_iload_n hx hb dX7_spell_4 rfl (lv_at hl 0 rfl) ?_
  refine lv_bipush (v := 6) hx hb dX7_spell_5 (by decide) ?_
  refine lv_icmp_ge (tgt := 44) hx hb dX7_spell_7 (by decide) (fun _ => ?_) (fun c => absurd (by decide) c)
  refine lv_iload_n hx hb dX7_spell_44 rfl (lv_at hl 1 rfl) ?_
  exact W.iret (v := 22281156) hx hb hr (fun t ht hW => ⟨⟨22281156, (), rfl, rfl, trivial⟩, hS.F ht⟩) hS.2.2 dX7_spell_45
set_option maxHeartbeats 4000000 in
set_option maxRecDepth 100000 in
theorem c_X7_spell_9 (l : Launch) (adK adV : Nat → Nat) (z : Nat) (sz : Nat) : Met l yX7_spell (.code yX7_spell cX7_spell 3 (some .int) :: WT) ({ frames := 8, cells := 0, slots := 0, locals := 700 }) (va_Pc [.ref (adK 9)] (jPre adK adV z sz)) (va_Qi (fun (r : Int32) (u : Unit) => r = 224799543) (fun _ _ => True) (va_A [] sz)) 0 0 (va_A [] sz) := by
  refine Met.ofW (cc := cX7_spell) (maxL := 3) (ret := (some .int)) (by decide) rfl ?_
  intro p e s m args below meth c s₁ B hml hv
  obtain ⟨rfl, hsz, hE0, hz⟩ := hv
  have hx := B.exec
  have hb := B.bytes
  have hr := B.returns
  have hts0 := atoms_spec (ws := .code yX7_spell cX7_spell 3 (some .int) :: WT) B.pre
  have hts : ∀ w ∈ WT, w.before _ s = true := fun w h => hts0 w (List.mem_cons_of_mem _ h)
  have hown : s.vm.findClass RX7 = some m.cls := findClass_of_methodNamed B.named
  have hlocks := B.notSynchronized
  subst hsz
  have hAz : ∀ q : Nat, va_A [] s.heap.size q → z ≤ q := fun q h => by
    rcases h with ⟨k9, e9, h9⟩ | h9
    · simp at h9
    · exact Nat.le_trans hz h9
  generalize hAe : va_A [] s.heap.size = A at hAz ⊢
  have hA : ∀ q : Nat, s.heap.size ≤ q → A q := fun q h => by rw [← hAe]; exact Or.inr h
  have hS : va_S A s.heap s.heap [] := va_S.rf
  have hE : vk_S 11 lenS bytS adK adV A s s.heap := hE0.1.narrow hAz
  have hZ : va_Z "java/lang/String" "COMPACT_STRINGS" "Z" (.int 1) A s s.heap := hE0.2.1.narrow hAz
  have hZq : va_Zq "jdk/internal/util/Preconditions" "SIOOBE_FORMATTER" "Ljava/util/function/BiFunction;" A s s.heap := hE0.2.2.1.narrow hAz
  have hl := lv_entry ([.ref (adK 9)]) (n := 3) (Nat.le_of_ble_eq_true rfl)
  rw [lg_entry_eq]
  generalize (lg_sl ([.ref (adK 9)]) ++ List.replicate (3 - (lg_sl ([.ref (adK 9)])).length) Slot.unset).toArray = ls at hl ⊢
  have hl : lv_has ls 3 [(0, .ref (adK 9))] := hl
  refine lv_iconst (v := 0) hx hb dX7_spell_0 (by decide) ?_
  refine lv_istore_n (lv' := [(1, .int 0), (0, .ref (adK 9))]) hx hb dX7_spell_1 rfl hl (by decide) rfl (fun ls hl => ?_)
  refine lv_iconst (v := 0) hx hb dX7_spell_2 (by decide) ?_
  refine lv_istore_n (lv' := [(2, .int 0), (1, .int 0), (0, .ref (adK 9))]) hx hb dX7_spell_3 rfl hl (by decide) rfl (fun ls hl => ?_)
  refine lv_iload_n hx hb dX7_spell_4 rfl (lv_at hl 0 rfl) ?_
  refine lv_bipush (v := 6) hx hb dX7_spell_5 (by decide) ?_
  refine lv_icmp_ge (tgt := 44) hx hb dX7_spell_7 (by decide) (fun c => absurd c (by decide)) (fun _ => ?_)
  refine lv_iload_n hx hb dX7_spell_10 rfl (lv_at hl 1 rfl) ?_
  refine lv_bipush (v := 27) hx hb dX7_spell_11 (by decide) ?_
  refine k_imul (v := 0) hx hb (by decide) dX7_spell_13 ?_
  refine lv_iload_n hx hb dX7_spell_14 rfl (lv_at hl 0 rfl) ?_
  refine lv_aload_n hx hb dX7_spell_15 rfl (lv_at hl 2 rfl) ?_
  have hFc : ∀ q : Nat, va_A [] s.heap.size q → A q := fun q h => by
    rcases h with ⟨k9, e9, h9⟩ | h9
    · simp at h9
    · exact hA q (Nat.le_trans hS.1 h9)
  refine va_calli (va_runV (As := []) (rest := [.int 0, .int 0]) ⟨hx, hb, hml, hown, hts⟩ (c_J0_length_8abf5 l adK adV z 9 s.heap.size (by decide)) (cwV 0 hts (gV t_440 t_441 t_442 t_142 t_443) rfl rfl rfl (by decide +kernel) ⟨Nat.le_of_ble_eq_true rfl, Nat.le_of_ble_eq_true rfl⟩) ⟨jBlind, vk_recv (i := 9) hE (by decide) hS, jGo hE0 hAz hS hz⟩ rfl rfl hl.1 rfl (lv_room (Nat.le_of_ble_eq_true rfl)) dX7_spell_16 ⟨Nat.le_of_ble_eq_true rfl, Nat.le_of_ble_eq_true rfl⟩) hS (fun q _ h => hFc q h) hFc (fun r9 u t H1 locs ht hvm hw hB hz1 hk1 hS => ?_)
  obtain rfl : r9 = 2 := hw.trans (by decide)
  refine lv_icmp_ge (tgt := 35) hx hb dX7_spell_19 (by decide) (fun c => absurd c (by decide)) (fun _ => ?_)
  refine lv_aload_n hx hb dX7_spell_22 rfl (lv_at hl 2 rfl) ?_
  refine lv_iload_n hx hb dX7_spell_23 rfl (lv_at hl 0 rfl) ?_
  have hFc : ∀ q : Nat, va_A [] H1.size q → A q := fun q h => by
    rcases h with ⟨k9, e9, h9⟩ | h9
    · simp at h9
    · exact hA q (Nat.le_trans hS.1 h9)
  refine va_calli (va_runV (As := [.int (nI 0)]) (rest := [.int 0]) ⟨hx, hb, hml, hown, hts⟩ (c_J0_charAt_5068e l adK adV z 9 0 H1.size (by decide) (by decide)) (cwV 1 hts (gV t_450 t_451 t_452 t_142 t_453) rfl rfl rfl (by decide +kernel) ⟨Nat.le_of_ble_eq_true rfl, Nat.le_of_ble_eq_true rfl⟩) ⟨jBlind, vk_recv (i := 9) hE (by decide) hS, jGo hE0 hAz hS hz⟩ rfl rfl hl.1 rfl (lv_room (Nat.le_of_ble_eq_true rfl)) dX7_spell_24 ⟨Nat.le_of_ble_eq_true rfl, Nat.le_of_ble_eq_true rfl⟩) hS (fun q _ h => hFc q h) hFc (fun r9 u t H1 locs ht hvm hw hB hz1 hk1 hS => ?_)
  obtain rfl : r9 = 111 := hw.trans (by decide)
  refine lv_bipush (v := 97) hx hb dX7_spell_27 (by decide) ?_
  refine k_isub (v := 14) hx hb (by decide) dX7_spell_29 ?_
  refine lv_iconst (v := 1) hx hb dX7_spell_30 (by decide) ?_
  refine k_iadd (v := 15) hx hb (by decide) dX7_spell_31 ?_
  refine lv_goto (tgt := 36) hx hb dX7_spell_32 (by decide) ?_
  refine k_iadd (v := 15) hx hb (by decide) dX7_spell_36 ?_
  refine lv_istore_n (lv' := [(1, .int 15), (2, .int 0), (0, .ref (adK 9))]) hx hb dX7_spell_37 rfl hl (by decide) rfl (fun ls hl => ?_)
  refine lv_iinc (v := 1) (lv' := [(2, .int 1), (1, .int 15), (0, .ref (adK 9))]) hx hb dX7_spell_38 hl (k := 1) rfl (by decide) (by decide) rfl (fun ls hl => ?_)
  refine lv_goto (tgt := 4) hx hb dX7_spell_41 (by decide) ?_
  refine lv_iload_n hx hb dX7_spell_4 rfl (lv_at hl 0 rfl) ?_
  refine lv_bipush (v := 6) hx hb dX7_spell_5 (by decide) ?_
  refine lv_icmp_ge (tgt := 44) hx hb dX7_spell_7 (by decide) (fun c => absurd c (by decide)) (fun _ => ?_)
  refine lv_iload_n hx hb dX7_spell_10 rfl (lv_at hl 1 rfl) ?_
  refine lv_bipush (v := 27) hx hb dX7_spell_11 (by decide) ?_
  refine k_imul (v := 405) hx hb (by decide) dX7_spell_13 ?_
  refine lv_iload_n hx hb dX7_spell_14 rfl (lv_at hl 0 rfl) ?_
  refine lv_aload_n hx hb dX7_spell_15 rfl (lv_at hl 2 rfl) ?_
  have hFc : ∀ q : Nat, va_A [] H1.size q → A q := fun q h => by
    rcases h with ⟨k9, e9, h9⟩ | h9
    · simp at h9
    · exact hA q (Nat.le_trans hS.1 h9)
  refine va_calli (va_runV (As := []) (rest := [.int 1, .int 405]) ⟨hx, hb, hml, hown, hts⟩ (c_J0_length_8abf5 l adK adV z 9 H1.size (by decide)) (cwV 0 hts (gV t_440 t_441 t_442 t_142 t_443) rfl rfl rfl (by decide +kernel) ⟨Nat.le_of_ble_eq_true rfl, Nat.le_of_ble_eq_true rfl⟩) ⟨jBlind, vk_recv (i := 9) hE (by decide) hS, jGo hE0 hAz hS hz⟩ rfl rfl hl.1 rfl (lv_room (Nat.le_of_ble_eq_true rfl)) dX7_spell_16 ⟨Nat.le_of_ble_eq_true rfl, Nat.le_of_ble_eq_true rfl⟩) hS (fun q _ h => hFc q h) hFc (fun r9 u t H1 locs ht hvm hw hB hz1 hk1 hS => ?_)
  obtain rfl : r9 = 2 := hw.trans (by decide)
  refine lv_icmp_ge (tgt := 35) hx hb dX7_spell_19 (by decide) (fun c => absurd c (by decide)) (fun _ => ?_)
  refine lv_aload_n hx hb dX7_spell_22 rfl (lv_at hl 2 rfl) ?_
  refine lv_iload_n hx hb dX7_spell_23 rfl (lv_at hl 0 rfl) ?_
  have hFc : ∀ q : Nat, va_A [] H1.size q → A q := fun q h => by
    rcases h with ⟨k9, e9, h9⟩ | h9
    · simp at h9
    · exact hA q (Nat.le_trans hS.1 h9)
  refine va_calli (va_runV (As := [.int (nI 1)]) (rest := [.int 405]) ⟨hx, hb, hml, hown, hts⟩ (c_J0_charAt_5068e l adK adV z 9 1 H1.size (by decide) (by decide)) (cwV 1 hts (gV t_450 t_451 t_452 t_142 t_453) rfl rfl rfl (by decide +kernel) ⟨Nat.le_of_ble_eq_true rfl, Nat.le_of_ble_eq_true rfl⟩) ⟨jBlind, vk_recv (i := 9) hE (by decide) hS, jGo hE0 hAz hS hz⟩ rfl rfl hl.1 rfl (lv_room (Nat.le_of_ble_eq_true rfl)) dX7_spell_24 ⟨Nat.le_of_ble_eq_true rfl, Nat.le_of_ble_eq_true rfl⟩) hS (fun q _ h => hFc q h) hFc (fun r9 u t H1 locs ht hvm hw hB hz1 hk1 hS => ?_)
  obtain rfl : r9 = 114 := hw.trans (by decide)
  refine lv_bipush (v := 97) hx hb dX7_spell_27 (by decide) ?_
  refine k_isub (v := 17) hx hb (by decide) dX7_spell_29 ?_
  refine lv_iconst (v := 1) hx hb dX7_spell_30 (by decide) ?_
  refine k_iadd (v := 18) hx hb (by decide) dX7_spell_31 ?_
  refine lv_goto (tgt := 36) hx hb dX7_spell_32 (by decide) ?_
  refine k_iadd (v := 423) hx hb (by decide) dX7_spell_36 ?_
  refine lv_istore_n (lv' := [(1, .int 423), (2, .int 1), (0, .ref (adK 9))]) hx hb dX7_spell_37 rfl hl (by decide) rfl (fun ls hl => ?_)
  refine lv_iinc (v := 2) (lv' := [(2, .int 2), (1, .int 423), (0, .ref (adK 9))]) hx hb dX7_spell_38 hl (k := 1) rfl (by decide) (by decide) rfl (fun ls hl => ?_)
  refine lv_goto (tgt := 4) hx hb dX7_spell_41 (by decide) ?_
  refine lv_iload_n hx hb dX7_spell_4 rfl (lv_at hl 0 rfl) ?_
  refine lv_bipush (v := 6) hx hb dX7_spell_5 (by decide) ?_
  refine lv_icmp_ge (tgt := 44) hx hb dX7_spell_7 (by decide) (fun c => absurd c (by decide)) (fun _ => ?_)
  refine lv_iload_n hx hb dX7_spell_10 rfl (lv_at hl 1 rfl) ?_
  refine lv_bipush (v := 27) hx hb dX7_spell_11 (by decide) ?_
  refine k_imul (v := 11421) hx hb (by decide) dX7_spell_13 ?_
  refine lv_iload_n hx hb dX7_spell_14 rfl (lv_at hl 0 rfl) ?_
  refine lv_aload_n hx hb dX7_spell_15 rfl (lv_at hl 2 rfl) ?_
  have hFc : ∀ q : Nat, va_A [] H1.size q → A q := fun q h => by
    rcases h with ⟨k9, e9, h9⟩ | h9
    · simp at h9
    · exact hA q (Nat.le_trans hS.1 h9)
  refine va_calli (va_runV (As := []) (rest := [.int 2, .int 11421]) ⟨hx, hb, hml, hown, hts⟩ (c_J0_length_8abf5 l adK adV z 9 H1.size (by decide)) (cwV 0 hts (gV t_440 t_441 t_442 t_142 t_443) rfl rfl rfl (by decide +kernel) ⟨Nat.le_of_ble_eq_true rfl, Nat.le_of_ble_eq_true rfl⟩) ⟨jBlind, vk_recv (i := 9) hE (by decide) hS, jGo hE0 hAz hS hz⟩ rfl rfl hl.1 rfl (lv_room (Nat.le_of_ble_eq_true rfl)) dX7_spell_16 ⟨Nat.le_of_ble_eq_true rfl, Nat.le_of_ble_eq_true rfl⟩) hS (fun q _ h => hFc q h) hFc (fun r9 u t H1 locs ht hvm hw hB hz1 hk1 hS => ?_)
  obtain rfl : r9 = 2 := hw.trans (by decide)
  refine lv_icmp_ge (tgt := 35) hx hb dX7_spell_19 (by decide) (fun _ => ?_) (fun c => absurd (by decide) c)
  refine lv_iconst (v := 0) hx hb dX7_spell_35 (by decide) ?_
  refine k_iadd (v := 11421) hx hb (by decide) dX7_spell_36 ?_
  refine lv_istore_n (lv' := [(1, .int 11421), (2, .int 2), (0, .ref (adK 9))]) hx hb dX7_spell_37 rfl hl (by decide) rfl (fun ls hl => ?_)
  refine lv_iinc (v := 3) (lv' := [(2, .int 3), (1, .int 11421), (0, .ref (adK 9))]) hx hb dX7_spell_38 hl (k := 1) rfl (by decide) (by decide) rfl (fun ls hl => ?_)
  refine lv_goto (tgt := 4) hx hb dX7_spell_41 (by decide) ?_
  refine lv_iload_n hx hb dX7_spell_4 rfl (lv_at hl 0 rfl) ?_
  refine lv_bipush (v := 6) hx hb dX7_spell_5 (by decide) ?_
  refine lv_icmp_ge (tgt := 44) hx hb dX7_spell_7 (by decide) (fun c => absurd c (by decide)) (fun _ => ?_)
  refine lv_iload_n hx hb dX7_spell_10 rfl (lv_at hl 1 rfl) ?_
  refine lv_bipush (v := 27) hx hb dX7_spell_11 (by decide) ?_
  refine k_imul (v := 308367) hx hb (by decide) dX7_spell_13 ?_
  refine lv_iload_n hx hb dX7_spell_14 rfl (lv_at hl 0 rfl) ?_
  refine lv_aload_n hx hb dX7_spell_15 rfl (lv_at hl 2 rfl) ?_
  have hFc : ∀ q : Nat, va_A [] H1.size q → A q := fun q h => by
    rcases h with ⟨k9, e9, h9⟩ | h9
    · simp at h9
    · exact hA q (Nat.le_trans hS.1 h9)
  refine va_calli (va_runV (As := []) (rest := [.int 3, .int 308367]) ⟨hx, hb, hml, hown, hts⟩ (c_J0_length_8abf5 l adK adV z 9 H1.size (by decide)) (cwV 0 hts (gV t_440 t_441 t_442 t_142 t_443) rfl rfl rfl (by decide +kernel) ⟨Nat.le_of_ble_eq_true rfl, Nat.le_of_ble_eq_true rfl⟩) ⟨jBlind, vk_recv (i := 9) hE (by decide) hS, jGo hE0 hAz hS hz⟩ rfl rfl hl.1 rfl (lv_room (Nat.le_of_ble_eq_true rfl)) dX7_spell_16 ⟨Nat.le_of_ble_eq_true rfl, Nat.le_of_ble_eq_true rfl⟩) hS (fun q _ h => hFc q h) hFc (fun r9 u t H1 locs ht hvm hw hB hz1 hk1 hS => ?_)
  obtain rfl : r9 = 2 := hw.trans (by decide)
  refine lv_icmp_ge (tgt := 35) hx hb dX7_spell_19 (by decide) (fun _ => ?_) (fun c => absurd (by decide) c)
  refine lv_iconst (v := 0) hx hb dX7_spell_35 (by decide) ?_
  refine k_iadd (v := 308367) hx hb (by decide) dX7_spell_36 ?_
  refine lv_istore_n (lv' := [(1, .int 308367), (2, .int 3), (0, .ref (adK 9))]) hx hb dX7_spell_37 rfl hl (by decide) rfl (fun ls hl => ?_)
  refine lv_iinc (v := 4) (lv' := [(2, .int 4), (1, .int 308367), (0, .ref (adK 9))]) hx hb dX7_spell_38 hl (k := 1) rfl (by decide) (by decide) rfl (fun ls hl => ?_)
  refine lv_goto (tgt := 4) hx hb dX7_spell_41 (by decide) ?_
  refine lv_iload_n hx hb dX7_spell_4 rfl (lv_at hl 0 rfl) ?_
  refine lv_bipush (v := 6) hx hb dX7_spell_5 (by decide) ?_
  refine lv_icmp_ge (tgt := 44) hx hb dX7_spell_7 (by decide) (fun c => absurd c (by decide)) (fun _ => ?_)
  refine lv_iload_n hx hb dX7_spell_10 rfl (lv_at hl 1 rfl) ?_
  refine lv_bipush (v := 27) hx hb dX7_spell_11 (by decide) ?_
  refine k_imul (v := 8325909) hx hb (by decide) dX7_spell_13 ?_
  refine lv_iload_n hx hb dX7_spell_14 rfl (lv_at hl 0 rfl) ?_
  refine lv_aload_n hx hb dX7_spell_15 rfl (lv_at hl 2 rfl) ?_
  have hFc : ∀ q : Nat, va_A [] H1.size q → A q := fun q h => by
    rcases h with ⟨k9, e9, h9⟩ | h9
    · simp at h9
    · exact hA q (Nat.le_trans hS.1 h9)
  refine va_calli (va_runV (As := []) (rest := [.int 4, .int 8325909]) ⟨hx, hb, hml, hown, hts⟩ (c_J0_length_8abf5 l adK adV z 9 H1.size (by decide)) (cwV 0 hts (gV t_440 t_441 t_442 t_142 t_443) rfl rfl rfl (by decide +kernel) ⟨Nat.le_of_ble_eq_true rfl, Nat.le_of_ble_eq_true rfl⟩) ⟨jBlind, vk_recv (i := 9) hE (by decide) hS, jGo hE0 hAz hS hz⟩ rfl rfl hl.1 rfl (lv_room (Nat.le_of_ble_eq_true rfl)) dX7_spell_16 ⟨Nat.le_of_ble_eq_true rfl, Nat.le_of_ble_eq_true rfl⟩) hS (fun q _ h => hFc q h) hFc (fun r9 u t H1 locs ht hvm hw hB hz1 hk1 hS => ?_)
  obtain rfl : r9 = 2 := hw.trans (by decide)
  refine lv_icmp_ge (tgt := 35) hx hb dX7_spell_19 (by decide) (fun _ => ?_) (fun c => absurd (by decide) c)
  refine lv_iconst (v := 0) hx hb dX7_spell_35 (by decide) ?_
  refine k_iadd (v := 8325909) hx hb (by decide) dX7_spell_36 ?_
  refine lv_istore_n (lv' := [(1, .int 8325909), (2, .int 4), (0, .ref (adK 9))]) hx hb dX7_spell_37 rfl hl (by decide) rfl (fun ls hl => ?_)
  refine lv_iinc (v := 5) (lv' := [(2, .int 5), (1, .int 8325909), (0, .ref (adK 9))]) hx hb dX7_spell_38 hl (k := 1) rfl (by decide) (by decide) rfl (fun ls hl => ?_)
  refine lv_goto (tgt := 4) hx hb dX7_spell_41 (by decide) ?_
  refine lv_iload_n hx hb dX7_spell_4 rfl (lv_at hl 0 rfl) ?_
  refine lv_bipush (v := 6) hx hb dX7_spell_5 (by decide) ?_
  refine lv_icmp_ge (tgt := 44) hx hb dX7_spell_7 (by decide) (fun c => absurd c (by decide)) (fun _ => ?_)
  refine lv_iload_n hx hb dX7_spell_10 rfl (lv_at hl 1 rfl) ?_
  refine lv_bipush (v := 27) hx hb dX7_spell_11 (by decide) ?_
  refine k_imul (v := 224799543) hx hb (by decide) dX7_spell_13 ?_
  refine lv_iload_n hx hb dX7_spell_14 rfl (lv_at hl 0 rfl) ?_
  refine lv_aload_n hx hb dX7_spell_15 rfl (lv_at hl 2 rfl) ?_
  have hFc : ∀ q : Nat, va_A [] H1.size q → A q := fun q h => by
    rcases h with ⟨k9, e9, h9⟩ | h9
    · simp at h9
    · exact hA q (Nat.le_trans hS.1 h9)
  refine va_calli (va_runV (As := []) (rest := [.int 5, .int 224799543]) ⟨hx, hb, hml, hown, hts⟩ (c_J0_length_8abf5 l adK adV z 9 H1.size (by decide)) (cwV 0 hts (gV t_440 t_441 t_442 t_142 t_443) rfl rfl rfl (by decide +kernel) ⟨Nat.le_of_ble_eq_true rfl, Nat.le_of_ble_eq_true rfl⟩) ⟨jBlind, vk_recv (i := 9) hE (by decide) hS, jGo hE0 hAz hS hz⟩ rfl rfl hl.1 rfl (lv_room (Nat.le_of_ble_eq_true rfl)) dX7_spell_16 ⟨Nat.le_of_ble_eq_true rfl, Nat.le_of_ble_eq_true rfl⟩) hS (fun q _ h => hFc q h) hFc (fun r9 u t H1 locs ht hvm hw hB hz1 hk1 hS => ?_)
  obtain rfl : r9 = 2 := hw.trans (by decide)
  refine lv_icmp_ge (tgt := 35) hx hb dX7_spell_19 (by decide) (fun _ => ?_) (fun c => absurd (by decide) c)
  refine lv_iconst (v := 0) hx hb dX7_spell_35 (by decide) ?_
  refine k_iadd (v := 224799543) hx hb (by decide) dX7_spell_36 ?_
  refine lv_istore_n (lv' := [(1, .int 224799543), (2, .int 5), (0, .ref (adK 9))]) hx hb dX7_spell_37 rfl hl (by decide) rfl (fun ls hl => ?_)
  refine lv_iinc (v := 6) (lv' := [(2, .int 6), (1, .int 224799543), (0, .ref (adK 9))]) hx hb dX7_spell_38 hl (k := 1) rfl (by decide) (by decide) rfl (fun ls hl => ?_)
  refine lv_goto (tgt := 4) hx hb dX7_spell_41 (by decide) ?_
  refine lv_iload_n hx hb dX7_spell_4 rfl (lv_at hl 0 rfl) ?_
  refine lv_bipush (v := 6) hx hb dX7_spell_5 (by decide) ?_
  refine lv_icmp_ge (tgt := 44) hx hb dX7_spell_7 (by decide) (fun _ => ?_) (fun c => absurd (by decide) c)
  refine lv_iload_n hx hb dX7_spell_44 rfl (lv_at hl 1 rfl) ?_
  exact W.iret (v := 224799543) hx hb hr (fun t ht hW => ⟨⟨224799543, (), rfl, rfl, trivial⟩, hS.F ht⟩) hS.2.2 dX7_spell_45
set_option maxHeartbeats 4000000 in
set_option maxRecDepth 100000 in
theorem c_X7_spell_10 (l : Launch) (adK adV : Nat → Nat) (z : Nat) (sz : Nat) : Met l yX7_spell (.code yX7_spell cX7_spell 3 (some .int) :: WT) ({ frames := 8, cells := 0, slots := 0, locals := 700 }) (va_Pc [.ref (adK 10)] (jPre adK adV z sz)) (va_Qi (fun (r : Int32) (u : Unit) => r = 294949755) (fun _ _ => True) (va_A [] sz)) 0 0 (va_A [] sz) := by
  refine Met.ofW (cc := cX7_spell) (maxL := 3) (ret := (some .int)) (by decide) rfl ?_
  intro p e s m args below meth c s₁ B hml hv
  obtain ⟨rfl, hsz, hE0, hz⟩ := hv
  have hx := B.exec
  have hb := B.bytes
  have hr := B.returns
  have hts0 := atoms_spec (ws := .code yX7_spell cX7_spell 3 (some .int) :: WT) B.pre
  have hts : ∀ w ∈ WT, w.before _ s = true := fun w h => hts0 w (List.mem_cons_of_mem _ h)
  have hown : s.vm.findClass RX7 = some m.cls := findClass_of_methodNamed B.named
  have hlocks := B.notSynchronized
  subst hsz
  have hAz : ∀ q : Nat, va_A [] s.heap.size q → z ≤ q := fun q h => by
    rcases h with ⟨k9, e9, h9⟩ | h9
    · simp at h9
    · exact Nat.le_trans hz h9
  generalize hAe : va_A [] s.heap.size = A at hAz ⊢
  have hA : ∀ q : Nat, s.heap.size ≤ q → A q := fun q h => by rw [← hAe]; exact Or.inr h
  have hS : va_S A s.heap s.heap [] := va_S.rf
  have hE : vk_S 11 lenS bytS adK adV A s s.heap := hE0.1.narrow hAz
  have hZ : va_Z "java/lang/String" "COMPACT_STRINGS" "Z" (.int 1) A s s.heap := hE0.2.1.narrow hAz
  have hZq : va_Zq "jdk/internal/util/Preconditions" "SIOOBE_FORMATTER" "Ljava/util/function/BiFunction;" A s s.heap := hE0.2.2.1.narrow hAz
  have hl := lv_entry ([.ref (adK 10)]) (n := 3) (Nat.le_of_ble_eq_true rfl)
  rw [lg_entry_eq]
  generalize (lg_sl ([.ref (adK 10)]) ++ List.replicate (3 - (lg_sl ([.ref (adK 10)])).length) Slot.unset).toArray = ls at hl ⊢
  have hl : lv_has ls 3 [(0, .ref (adK 10))] := hl
  refine lv_iconst (v := 0) hx hb dX7_spell_0 (by decide) ?_
  refine lv_istore_n (lv' := [(1, .int 0), (0, .ref (adK 10))]) hx hb dX7_spell_1 rfl hl (by decide) rfl (fun ls hl => ?_)
  refine lv_iconst (v := 0) hx hb dX7_spell_2 (by decide) ?_
  refine lv_istore_n (lv' := [(2, .int 0), (1, .int 0), (0, .ref (adK 10))]) hx hb dX7_spell_3 rfl hl (by decide) rfl (fun ls hl => ?_)
  refine lv_iload_n hx hb dX7_spell_4 rfl (lv_at hl 0 rfl) ?_
  refine lv_bipush (v := 6) hx hb dX7_spell_5 (by decide) ?_
  refine lv_icmp_ge (tgt := 44) hx hb dX7_spell_7 (by decide) (fun c => absurd c (by decide)) (fun _ => ?_)
  refine lv_iload_n hx hb dX7_spell_10 rfl (lv_at hl 1 rfl) ?_
  refine lv_bipush (v := 27) hx hb dX7_spell_11 (by decide) ?_
  refine k_imul (v := 0) hx hb (by decide) dX7_spell_13 ?_
  refine lv_iload_n hx hb dX7_spell_14 rfl (lv_at hl 0 rfl) ?_
  refine lv_aload_n hx hb dX7_spell_15 rfl (lv_at hl 2 rfl) ?_
  have hFc : ∀ q : Nat, va_A [] s.heap.size q → A q := fun q h => by
    rcases h with ⟨k9, e9, h9⟩ | h9
    · simp at h9
    · exact hA q (Nat.le_trans hS.1 h9)
  refine va_calli (va_runV (As := []) (rest := [.int 0, .int 0]) ⟨hx, hb, hml, hown, hts⟩ (c_J0_length_8abf5 l adK adV z 10 s.heap.size (by decide)) (cwV 0 hts (gV t_440 t_441 t_442 t_142 t_443) rfl rfl rfl (by decide +kernel) ⟨Nat.le_of_ble_eq_true rfl, Nat.le_of_ble_eq_true rfl⟩) ⟨jBlind, vk_recv (i := 10) hE (by decide) hS, jGo hE0 hAz hS hz⟩ rfl rfl hl.1 rfl (lv_room (Nat.le_of_ble_eq_true rfl)) dX7_spell_16 ⟨Nat.le_of_ble_eq_true rfl, Nat.le_of_ble_eq_true rfl⟩) hS (fun q _ h => hFc q h) hFc (fun r9 u t H1 locs ht hvm hw hB hz1 hk1 hS => ?_)
  obtain rfl : r9 = 2 := hw.trans (by decide)
  refine lv_icmp_ge (tgt := 35) hx hb dX7_spell_19 (by decide) (fun c => absurd c (by decide)) (fun _ => ?_)
  refine lv_aload_n hx hb dX7_spell_22 rfl (lv_at hl 2 rfl) ?_
  refine lv_iload_n hx hb dX7_spell_23 rfl (lv_at hl 0 rfl) ?_
  have hFc : ∀ q : Nat, va_A [] H1.size q → A q := fun q h => by
    rcases h with ⟨k9, e9, h9⟩ | h9
    · simp at h9
    · exact hA q (Nat.le_trans hS.1 h9)
  refine va_calli (va_runV (As := [.int (nI 0)]) (rest := [.int 0]) ⟨hx, hb, hml, hown, hts⟩ (c_J0_charAt_5068e l adK adV z 10 0 H1.size (by decide) (by decide)) (cwV 1 hts (gV t_450 t_451 t_452 t_142 t_453) rfl rfl rfl (by decide +kernel) ⟨Nat.le_of_ble_eq_true rfl, Nat.le_of_ble_eq_true rfl⟩) ⟨jBlind, vk_recv (i := 10) hE (by decide) hS, jGo hE0 hAz hS hz⟩ rfl rfl hl.1 rfl (lv_room (Nat.le_of_ble_eq_true rfl)) dX7_spell_24 ⟨Nat.le_of_ble_eq_true rfl, Nat.le_of_ble_eq_true rfl⟩) hS (fun q _ h => hFc q h) hFc (fun r9 u t H1 locs ht hvm hw hB hz1 hk1 hS => ?_)
  obtain rfl : r9 = 116 := hw.trans (by decide)
  refine lv_bipush (v := 97) hx hb dX7_spell_27 (by decide) ?_
  refine k_isub (v := 19) hx hb (by decide) dX7_spell_29 ?_
  refine lv_iconst (v := 1) hx hb dX7_spell_30 (by decide) ?_
  refine k_iadd (v := 20) hx hb (by decide) dX7_spell_31 ?_
  refine lv_goto (tgt := 36) hx hb dX7_spell_32 (by decide) ?_
  refine k_iadd (v := 20) hx hb (by decide) dX7_spell_36 ?_
  refine lv_istore_n (lv' := [(1, .int 20), (2, .int 0), (0, .ref (adK 10))]) hx hb dX7_spell_37 rfl hl (by decide) rfl (fun ls hl => ?_)
  refine lv_iinc (v := 1) (lv' := [(2, .int 1), (1, .int 20), (0, .ref (adK 10))]) hx hb dX7_spell_38 hl (k := 1) rfl (by decide) (by decide) rfl (fun ls hl => ?_)
  refine lv_goto (tgt := 4) hx hb dX7_spell_41 (by decide) ?_
  refine lv_iload_n hx hb dX7_spell_4 rfl (lv_at hl 0 rfl) ?_
  refine lv_bipush (v := 6) hx hb dX7_spell_5 (by decide) ?_
  refine lv_icmp_ge (tgt := 44) hx hb dX7_spell_7 (by decide) (fun c => absurd c (by decide)) (fun _ => ?_)
  refine lv_iload_n hx hb dX7_spell_10 rfl (lv_at hl 1 rfl) ?_
  refine lv_bipush (v := 27) hx hb dX7_spell_11 (by decide) ?_
  refine k_imul (v := 540) hx hb (by decide) dX7_spell_13 ?_
  refine lv_iload_n hx hb dX7_spell_14 rfl (lv_at hl 0 rfl) ?_
  refine lv_aload_n hx hb dX7_spell_15 rfl (lv_at hl 2 rfl) ?_
  have hFc : ∀ q : Nat, va_A [] H1.size q → A q := fun q h => by
    rcases h with ⟨k9, e9, h9⟩ | h9
    · simp at h9
    · exact hA q (Nat.le_trans hS.1 h9)
  refine va_calli (va_runV (As := []) (rest := [.int 1, .int 540]) ⟨hx, hb, hml, hown, hts⟩ (c_J0_length_8abf5 l adK adV z 10 H1.size (by decide)) (cwV 0 hts (gV t_440 t_441 t_442 t_142 t_443) rfl rfl rfl (by decide +kernel) ⟨Nat.le_of_ble_eq_true rfl, Nat.le_of_ble_eq_true rfl⟩) ⟨jBlind, vk_recv (i := 10) hE (by decide) hS, jGo hE0 hAz hS hz⟩ rfl rfl hl.1 rfl (lv_room (Nat.le_of_ble_eq_true rfl)) dX7_spell_16 ⟨Nat.le_of_ble_eq_true rfl, Nat.le_of_ble_eq_true rfl⟩) hS (fun q _ h => hFc q h) hFc (fun r9 u t H1 locs ht hvm hw hB hz1 hk1 hS => ?_)
  obtain rfl : r9 = 2 := hw.trans (by decide)
  refine lv_icmp_ge (tgt := 35) hx hb dX7_spell_19 (by decide) (fun c => absurd c (by decide)) (fun _ => ?_)
  refine lv_aload_n hx hb dX7_spell_22 rfl (lv_at hl 2 rfl) ?_
  refine lv_iload_n hx hb dX7_spell_23 rfl (lv_at hl 0 rfl) ?_
  have hFc : ∀ q : Nat, va_A [] H1.size q → A q := fun q h => by
    rcases h with ⟨k9, e9, h9⟩ | h9
    · simp at h9
    · exact hA q (Nat.le_trans hS.1 h9)
  refine va_calli (va_runV (As := [.int (nI 1)]) (rest := [.int 540]) ⟨hx, hb, hml, hown, hts⟩ (c_J0_charAt_5068e l adK adV z 10 1 H1.size (by decide) (by decide)) (cwV 1 hts (gV t_450 t_451 t_452 t_142 t_453) rfl rfl rfl (by decide +kernel) ⟨Nat.le_of_ble_eq_true rfl, Nat.le_of_ble_eq_true rfl⟩) ⟨jBlind, vk_recv (i := 10) hE (by decide) hS, jGo hE0 hAz hS hz⟩ rfl rfl hl.1 rfl (lv_room (Nat.le_of_ble_eq_true rfl)) dX7_spell_24 ⟨Nat.le_of_ble_eq_true rfl, Nat.le_of_ble_eq_true rfl⟩) hS (fun q _ h => hFc q h) hFc (fun r9 u t H1 locs ht hvm hw hB hz1 hk1 hS => ?_)
  obtain rfl : r9 = 111 := hw.trans (by decide)
  refine lv_bipush (v := 97) hx hb dX7_spell_27 (by decide) ?_
  refine k_isub (v := 14) hx hb (by decide) dX7_spell_29 ?_
  refine lv_iconst (v := 1) hx hb dX7_spell_30 (by decide) ?_
  refine k_iadd (v := 15) hx hb (by decide) dX7_spell_31 ?_
  refine lv_goto (tgt := 36) hx hb dX7_spell_32 (by decide) ?_
  refine k_iadd (v := 555) hx hb (by decide) dX7_spell_36 ?_
  refine lv_istore_n (lv' := [(1, .int 555), (2, .int 1), (0, .ref (adK 10))]) hx hb dX7_spell_37 rfl hl (by decide) rfl (fun ls hl => ?_)
  refine lv_iinc (v := 2) (lv' := [(2, .int 2), (1, .int 555), (0, .ref (adK 10))]) hx hb dX7_spell_38 hl (k := 1) rfl (by decide) (by decide) rfl (fun ls hl => ?_)
  refine lv_goto (tgt := 4) hx hb dX7_spell_41 (by decide) ?_
  refine lv_iload_n hx hb dX7_spell_4 rfl (lv_at hl 0 rfl) ?_
  refine lv_bipush (v := 6) hx hb dX7_spell_5 (by decide) ?_
  refine lv_icmp_ge (tgt := 44) hx hb dX7_spell_7 (by decide) (fun c => absurd c (by decide)) (fun _ => ?_)
  refine lv_iload_n hx hb dX7_spell_10 rfl (lv_at hl 1 rfl) ?_
  refine lv_bipush (v := 27) hx hb dX7_spell_11 (by decide) ?_
  refine k_imul (v := 14985) hx hb (by decide) dX7_spell_13 ?_
  refine lv_iload_n hx hb dX7_spell_14 rfl (lv_at hl 0 rfl) ?_
  refine lv_aload_n hx hb dX7_spell_15 rfl (lv_at hl 2 rfl) ?_
  have hFc : ∀ q : Nat, va_A [] H1.size q → A q := fun q h => by
    rcases h with ⟨k9, e9, h9⟩ | h9
    · simp at h9
    · exact hA q (Nat.le_trans hS.1 h9)
  refine va_calli (va_runV (As := []) (rest := [.int 2, .int 14985]) ⟨hx, hb, hml, hown, hts⟩ (c_J0_length_8abf5 l adK adV z 10 H1.size (by decide)) (cwV 0 hts (gV t_440 t_441 t_442 t_142 t_443) rfl rfl rfl (by decide +kernel) ⟨Nat.le_of_ble_eq_true rfl, Nat.le_of_ble_eq_true rfl⟩) ⟨jBlind, vk_recv (i := 10) hE (by decide) hS, jGo hE0 hAz hS hz⟩ rfl rfl hl.1 rfl (lv_room (Nat.le_of_ble_eq_true rfl)) dX7_spell_16 ⟨Nat.le_of_ble_eq_true rfl, Nat.le_of_ble_eq_true rfl⟩) hS (fun q _ h => hFc q h) hFc (fun r9 u t H1 locs ht hvm hw hB hz1 hk1 hS => ?_)
  obtain rfl : r9 = 2 := hw.trans (by decide)
  refine lv_icmp_ge (tgt := 35) hx hb dX7_spell_19 (by decide) (fun _ => ?_) (fun c => absurd (by decide) c)
  refine lv_iconst (v := 0) hx hb dX7_spell_35 (by decide) ?_
  refine k_iadd (v := 14985) hx hb (by decide) dX7_spell_36 ?_
  refine lv_istore_n (lv' := [(1, .int 14985), (2, .int 2), (0, .ref (adK 10))]) hx hb dX7_spell_37 rfl hl (by decide) rfl (fun ls hl => ?_)
  refine lv_iinc (v := 3) (lv' := [(2, .int 3), (1, .int 14985), (0, .ref (adK 10))]) hx hb dX7_spell_38 hl (k := 1) rfl (by decide) (by decide) rfl (fun ls hl => ?_)
  refine lv_goto (tgt := 4) hx hb dX7_spell_41 (by decide) ?_
  refine lv_iload_n hx hb dX7_spell_4 rfl (lv_at hl 0 rfl) ?_
  refine lv_bipush (v := 6) hx hb dX7_spell_5 (by decide) ?_
  refine lv_icmp_ge (tgt := 44) hx hb dX7_spell_7 (by decide) (fun c => absurd c (by decide)) (fun _ => ?_)
  refine lv_iload_n hx hb dX7_spell_10 rfl (lv_at hl 1 rfl) ?_
  refine lv_bipush (v := 27) hx hb dX7_spell_11 (by decide) ?_
  refine k_imul (v := 404595) hx hb (by decide) dX7_spell_13 ?_
  refine lv_iload_n hx hb dX7_spell_14 rfl (lv_at hl 0 rfl) ?_
  refine lv_aload_n hx hb dX7_spell_15 rfl (lv_at hl 2 rfl) ?_
  have hFc : ∀ q : Nat, va_A [] H1.size q → A q := fun q h => by
    rcases h with ⟨k9, e9, h9⟩ | h9
    · simp at h9
    · exact hA q (Nat.le_trans hS.1 h9)
  refine va_calli (va_runV (As := []) (rest := [.int 3, .int 404595]) ⟨hx, hb, hml, hown, hts⟩ (c_J0_length_8abf5 l adK adV z 10 H1.size (by decide)) (cwV 0 hts (gV t_440 t_441 t_442 t_142 t_443) rfl rfl rfl (by decide +kernel) ⟨Nat.le_of_ble_eq_true rfl, Nat.le_of_ble_eq_true rfl⟩) ⟨jBlind, vk_recv (i := 10) hE (by decide) hS, jGo hE0 hAz hS hz⟩ rfl rfl hl.1 rfl (lv_room (Nat.le_of_ble_eq_true rfl)) dX7_spell_16 ⟨Nat.le_of_ble_eq_true rfl, Nat.le_of_ble_eq_true rfl⟩) hS (fun q _ h => hFc q h) hFc (fun r9 u t H1 locs ht hvm hw hB hz1 hk1 hS => ?_)
  obtain rfl : r9 = 2 := hw.trans (by decide)
  refine lv_icmp_ge (tgt := 35) hx hb dX7_spell_19 (by decide) (fun _ => ?_) (fun c => absurd (by decide) c)
  refine lv_iconst (v := 0) hx hb dX7_spell_35 (by decide) ?_
  refine k_iadd (v := 404595) hx hb (by decide) dX7_spell_36 ?_
  refine lv_istore_n (lv' := [(1, .int 404595), (2, .int 3), (0, .ref (adK 10))]) hx hb dX7_spell_37 rfl hl (by decide) rfl (fun ls hl => ?_)
  refine lv_iinc (v := 4) (lv' := [(2, .int 4), (1, .int 404595), (0, .ref (adK 10))]) hx hb dX7_spell_38 hl (k := 1) rfl (by decide) (by decide) rfl (fun ls hl => ?_)
  refine lv_goto (tgt := 4) hx hb dX7_spell_41 (by decide) ?_
  refine lv_iload_n hx hb dX7_spell_4 rfl (lv_at hl 0 rfl) ?_
  refine lv_bipush (v := 6) hx hb dX7_spell_5 (by decide) ?_
  refine lv_icmp_ge (tgt := 44) hx hb dX7_spell_7 (by decide) (fun c => absurd c (by decide)) (fun _ => ?_)
  refine lv_iload_n hx hb dX7_spell_10 rfl (lv_at hl 1 rfl) ?_
  refine lv_bipush (v := 27) hx hb dX7_spell_11 (by decide) ?_
  refine k_imul (v := 10924065) hx hb (by decide) dX7_spell_13 ?_
  refine lv_iload_n hx hb dX7_spell_14 rfl (lv_at hl 0 rfl) ?_
  refine lv_aload_n hx hb dX7_spell_15 rfl (lv_at hl 2 rfl) ?_
  have hFc : ∀ q : Nat, va_A [] H1.size q → A q := fun q h => by
    rcases h with ⟨k9, e9, h9⟩ | h9
    · simp at h9
    · exact hA q (Nat.le_trans hS.1 h9)
  refine va_calli (va_runV (As := []) (rest := [.int 4, .int 10924065]) ⟨hx, hb, hml, hown, hts⟩ (c_J0_length_8abf5 l adK adV z 10 H1.size (by decide)) (cwV 0 hts (gV t_440 t_441 t_442 t_142 t_443) rfl rfl rfl (by decide +kernel) ⟨Nat.le_of_ble_eq_true rfl, Nat.le_of_ble_eq_true rfl⟩) ⟨jBlind, vk_recv (i := 10) hE (by decide) hS, jGo hE0 hAz hS hz⟩ rfl rfl hl.1 rfl (lv_room (Nat.le_of_ble_eq_true rfl)) dX7_spell_16 ⟨Nat.le_of_ble_eq_true rfl, Nat.le_of_ble_eq_true rfl⟩) hS (fun q _ h => hFc q h) hFc (fun r9 u t H1 locs ht hvm hw hB hz1 hk1 hS => ?_)
  obtain rfl : r9 = 2 := hw.trans (by decide)
  refine lv_icmp_ge (tgt := 35) hx hb dX7_spell_19 (by decide) (fun _ => ?_) (fun c => absurd (by decide) c)
  refine lv_iconst (v := 0) hx hb dX7_spell_35 (by decide) ?_
  refine k_iadd (v := 10924065) hx hb (by decide) dX7_spell_36 ?_
  refine lv_istore_n (lv' := [(1, .int 10924065), (2, .int 4), (0, .ref (adK 10))]) hx hb dX7_spell_37 rfl hl (by decide) rfl (fun ls hl => ?_)
  refine lv_iinc (v := 5) (lv' := [(2, .int 5), (1, .int 10924065), (0, .ref (adK 10))]) hx hb dX7_spell_38 hl (k := 1) rfl (by decide) (by decide) rfl (fun ls hl => ?_)
  refine lv_goto (tgt := 4) hx hb dX7_spell_41 (by decide) ?_
  refine lv_iload_n hx hb dX7_spell_4 rfl (lv_at hl 0 rfl) ?_
  refine lv_bipush (v := 6) hx hb dX7_spell_5 (by decide) ?_
  refine lv_icmp_ge (tgt := 44) hx hb dX7_spell_7 (by decide) (fun c => absurd c (by decide)) (fun _ => ?_)
  refine lv_iload_n hx hb dX7_spell_10 rfl (lv_at hl 1 rfl) ?_
  refine lv_bipush (v := 27) hx hb dX7_spell_11 (by decide) ?_
  refine k_imul (v := 294949755) hx hb (by decide) dX7_spell_13 ?_
  refine lv_iload_n hx hb dX7_spell_14 rfl (lv_at hl 0 rfl) ?_
  refine lv_aload_n hx hb dX7_spell_15 rfl (lv_at hl 2 rfl) ?_
  have hFc : ∀ q : Nat, va_A [] H1.size q → A q := fun q h => by
    rcases h with ⟨k9, e9, h9⟩ | h9
    · simp at h9
    · exact hA q (Nat.le_trans hS.1 h9)
  refine va_calli (va_runV (As := []) (rest := [.int 5, .int 294949755]) ⟨hx, hb, hml, hown, hts⟩ (c_J0_length_8abf5 l adK adV z 10 H1.size (by decide)) (cwV 0 hts (gV t_440 t_441 t_442 t_142 t_443) rfl rfl rfl (by decide +kernel) ⟨Nat.le_of_ble_eq_true rfl, Nat.le_of_ble_eq_true rfl⟩) ⟨jBlind, vk_recv (i := 10) hE (by decide) hS, jGo hE0 hAz hS hz⟩ rfl rfl hl.1 rfl (lv_room (Nat.le_of_ble_eq_true rfl)) dX7_spell_16 ⟨Nat.le_of_ble_eq_true rfl, Nat.le_of_ble_eq_true rfl⟩) hS (fun q _ h => hFc q h) hFc (fun r9 u t H1 locs ht hvm hw hB hz1 hk1 hS => ?_)
  obtain rfl : r9 = 2 := hw.trans (by decide)
  refine lv_icmp_ge (tgt := 35) hx hb dX7_spell_19 (by decide) (fun _ => ?_) (fun c => absurd (by decide) c)
  refine lv_iconst (v := 0) hx hb dX7_spell_35 (by decide) ?_
  refine k_iadd (v := 294949755) hx hb (by decide) dX7_spell_36 ?_
  refine lv_istore_n (lv' := [(1, .int 294949755), (2, .int 5), (0, .ref (adK 10))]) hx hb dX7_spell_37 rfl hl (by decide) rfl (fun ls hl => ?_)
  refine lv_iinc (v := 6) (lv' := [(2, .int 6), (1, .int 294949755), (0, .ref (adK 10))]) hx hb dX7_spell_38 hl (k := 1) rfl (by decide) (by decide) rfl (fun ls hl => ?_)
  refine lv_goto (tgt := 4) hx hb dX7_spell_41 (by decide) ?_
  refine lv_iload_n hx hb dX7_spell_4 rfl (lv_at hl 0 rfl) ?_
  refine lv_bipush (v := 6) hx hb dX7_spell_5 (by decide) ?_
  refine lv_icmp_ge (tgt := 44) hx hb dX7_spell_7 (by decide) (fun _ => ?_) (fun c => absurd (by decide) c)
  refine lv_iload_n hx hb dX7_spell_44 rfl (lv_at hl 1 rfl) ?_
  exact W.iret (v := 294949755) hx hb hr (fun t ht hW => ⟨⟨294949755, (), rfl, rfl, trivial⟩, hS.F ht⟩) hS.2.2 dX7_spell_45
