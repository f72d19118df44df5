/-! The law from its start. -/
abbrev tmS (i : Nat) : Term := .string RX7 (idxS.getD i 0)
abbrev flN : List Cond := flatC (Jvm.Cond.and given_1 narrow_1)
set_option maxRecDepth 20000 in
theorem st_ex : ∀ i, i < 11 → Cond.exactly (tmS i) "java/lang/String" ∈ flN := by decide +kernel
set_option maxRecDepth 20000 in
theorem st_co : ∀ i, i < 11 → Cond.eq (.field (tmS i) "java/lang/String" "coder" "B") (.int 0) ∈ flN := by decide +kernel
set_option maxRecDepth 20000 in
theorem st_ar : ∀ i, i < 11 → Cond.arrayOf (.field (tmS i) "java/lang/String" "value" "[B") .byte ∈ flN := by decide +kernel
set_option maxRecDepth 20000 in
theorem st_le : ∀ i, i < 11 → Cond.eq (.length (.field (tmS i) "java/lang/String" "value" "[B")) (.int (Int32.ofNat (lenS.getD i 0))) ∈ flN := by decide +kernel
set_option maxRecDepth 20000 in
theorem st_el : ∀ i, i < 11 → ∀ j, j < lenS.getD i 0 → Cond.eq (.elem (.field (tmS i) "java/lang/String" "value" "[B") (.int (Int32.ofNat j))) (.int ((bytS.getD i []).getD j 0)) ∈ flN := by decide +kernel
set_option maxRecDepth 20000 in
theorem st_ne : ∀ i, i < 11 → ∀ j, j < 11 → i ≠ j → Cond.not (Cond.eq (tmS i) (tmS j)) ∈ flN ∨ Cond.not (Cond.eq (tmS j) (tmS i)) ∈ flN := by decide +kernel
set_option maxRecDepth 20000 in
theorem st_rf : ∀ i, i < 11 → Cond.stringRef RX7 (idxS.getD i 0) (txtS.getD i "") ∈ lw_tbl := by
  intro i hi
  rcases (show i = 0 ∨ i = 1 ∨ i = 2 ∨ i = 3 ∨ i = 4 ∨ i = 5 ∨ i = 6 ∨ i = 7 ∨ i = 8 ∨ i = 9 ∨ i = 10 by omega) with rfl | rfl | rfl | rfl | rfl | rfl | rfl | rfl | rfl | rfl | rfl
  · exact (sub_tables_1_2 _ (List.mem_of_getElem? (i := 67) (by decide +kernel)))
  · exact (sub_tables_1_2 _ (List.mem_of_getElem? (i := 119) (by decide +kernel)))
  · exact (sub_tables_1_2 _ (List.mem_of_getElem? (i := 120) (by decide +kernel)))
  · exact (sub_tables_1_2 _ (List.mem_of_getElem? (i := 121) (by decide +kernel)))
  · exact (sub_tables_1_2 _ (List.mem_of_getElem? (i := 122) (by decide +kernel)))
  · exact (sub_tables_1_2 _ (List.mem_of_getElem? (i := 123) (by decide +kernel)))
  · exact (sub_tables_1_2 _ (List.mem_of_getElem? (i := 124) (by decide +kernel)))
  · exact (sub_tables_1_2 _ (List.mem_of_getElem? (i := 125) (by decide +kernel)))
  · exact (sub_tables_1_2 _ (List.mem_of_getElem? (i := 126) (by decide +kernel)))
  · exact (sub_tables_1_2 _ (List.mem_of_getElem? (i := 127) (by decide +kernel)))
  · exact (sub_tables_1_2 _ (List.mem_of_getElem? (i := 128) (by decide +kernel)))
set_option maxRecDepth 20000 in
theorem vS_start {s : State} {b : Nat} (hgv : (Jvm.Cond.and given_1 narrow_1).before #[Value.ref b] s = true) (hts : ∀ w ∈ lw_tbl, w.before #[Value.ref b] s = true) : ∃ adK adV : Nat → Nat, vS adK adV s.heap.size s := by
  have hf := flat_of_before _ hgv
  obtain ⟨adK, adV, hE, hk⟩ := vk_Sof (N := 11) (tm := tmS) (len := lenS) (byt := bytS) (A := fun q => s.heap.size ≤ q) (args := #[Value.ref b]) (s := s) (fun i hi => by have := lenS_ok i hi; omega) (fun i hi => hf _ (st_ex i hi)) (fun i hi => hf _ (st_co i hi)) (fun i hi => hf _ (st_ar i hi)) (fun i hi => hf _ (st_le i hi)) (fun i hi j hj => hf _ (st_el i hi j hj)) (fun i j hi hj hn => (st_ne i hi j hj hn).imp (hf _) (hf _)) (fun a ha => Nat.not_le.mpr ha)
  refine ⟨adK, adV, hE, ?_, ?_, fun i hi => vk_R.of (hts _ (st_rf i hi)) (hk i hi)⟩
  · exact va_Zof (hts (.laysStatic "java/lang/String" "COMPACT_STRINGS" "Z") (sub_tables_1_2 _ (List.mem_of_getElem? (i := 80) (by decide +kernel)))) (hts (.initialized "java/lang/String") (sub_tables_1_1 _ (List.mem_of_getElem? (i := 13) (by decide +kernel)))) (va_eqi (hf (.eq (.static "java/lang/String" "COMPACT_STRINGS" "Z") (.int 1)) (by decide +kernel))) (fun a ha => Nat.not_le.mpr ha)
  · exact va_Zqof (hts (.laysStatic "jdk/internal/util/Preconditions" "SIOOBE_FORMATTER" "Ljava/util/function/BiFunction;") (sub_tables_1_2 _ (List.mem_of_getElem? (i := 96) (by decide +kernel)))) (hts (.initialized "jdk/internal/util/Preconditions") (sub_tables_1_1 _ (List.mem_of_getElem? (i := 15) (by decide +kernel)))) (hf (.isRef (.static "jdk/internal/util/Preconditions" "SIOOBE_FORMATTER" "Ljava/util/function/BiFunction;")) (by decide +kernel)) (fun a ha => Nat.not_le.mpr ha)
set_option maxRecDepth 20000 in
theorem gN_start {s : State} {b : Nat} (hts : ∀ w ∈ lw_tbl, w.before #[Value.ref b] s = true) : gN s :=
  ⟨va_Nw.of rfl (hts (.methodLinkNest RX11 23 yX4_init RX11) (sub_tables_1_1 _ (List.mem_of_getElem? (i := 51) (by decide +kernel)))), va_Nw.of rfl (hts (.methodLinkNest RX11 42 yX5_init RX11) (sub_tables_1_1 _ (List.mem_of_getElem? (i := 94) (by decide +kernel)))), va_Nw.of rfl (hts (.methodLinkNest RX11 59 yX8_init RX11) (sub_tables_1_1 _ (List.mem_of_getElem? (i := 156) (by decide +kernel)))), va_Nw.of rfl (hts (.methodLinkNest RX11 70 yX9_init RX11) (sub_tables_1_1 _ (List.mem_of_getElem? (i := 184) (by decide +kernel)))), va_Nw.of rfl (hts (.methodLinkNest RX0 30 yX5_init RX11) (sub_tables_1_1 _ (List.mem_of_getElem? (i := 127) (by decide +kernel)))), va_Nw.of rfl (hts (.methodLinkNest RX6 11 yX7_init RX11) (sub_tables_1_2 _ (List.mem_of_getElem? (i := 63) (by decide +kernel)))), va_Nw.of rfl (hts (.methodLinkNest RX9 11 yX3_init RX11) (sub_tables_1_1 _ (List.mem_of_getElem? (i := 190) (by decide +kernel)))), va_AO.of (hts (.arrayOver (.object RX2)) (sub_tables_1_2 _ (List.mem_of_getElem? (i := 189) (by decide +kernel)))), va_AO.of (hts (.arrayOver (.object RX5)) (sub_tables_1_1 _ (List.mem_of_getElem? (i := 126) (by decide +kernel)))), hts (.arrayOver (.array .int)) (sub_tables_1_2 _ (List.mem_of_getElem? (i := 2) (by decide +kernel)))⟩
set_option maxRecDepth 20000 in
theorem nX_start {s : State} {b : Nat} (hts : ∀ w ∈ lw_tbl, w.before #[Value.ref b] s = true) : nX s := ⟨va_Nw.of rfl (hts (.methodLinkNest RX1 29 yX11_letterOf RX11) (sub_tables_1_4 _ (List.mem_of_getElem? (i := 204) (by decide +kernel)))), va_Nw.of rfl (hts (.methodLinkNest RX5 38 yX11_isIn RX11) (sub_tables_1_4 _ (List.mem_of_getElem? (i := 133) (by decide +kernel)))), va_Nw.of rfl (hts (.methodLinkNest RX10 70 yX11_isIn RX11) (sub_tables_1_5 _ (List.mem_of_getElem? (i := 4) (by decide +kernel))))⟩
theorem ty_start5 {s : State} (h1 : ∃ args, (Cond.arrayClass .int).before args s = true) (h2 : ∃ args, (Cond.arrayClass .long).before args s = true) (hN : gN s) : ∃ K : Nat → ClassId, ∀ (k : Nat) (q : ClassId × FieldType), (ty5 K)[k]? = some q → ArrOfT s q.1 q.2 ∧ va_RA s q.1 q.2 := by
  obtain ⟨_, h1⟩ := h1
  obtain ⟨_, h2⟩ := h2
  obtain ⟨cI, kI, c1, i1, i2, i3⟩ := Cond.arrayClass_spec h1
  obtain ⟨cJ, kJ, c2, j1, j2, j3⟩ := Cond.arrayClass_spec h2
  obtain ⟨g1, cG, kG, g2, -, g4, g5, g6⟩ := Cond.arrayOver_spec hN.2.2.2.2.2.2.2.1
  obtain ⟨o1, cO, kO, o2, -, o4, o5, o6⟩ := Cond.arrayOver_spec hN.2.2.2.2.2.2.2.2.1
  obtain ⟨t1, cT, kT, t2, -, t4, t5, t6⟩ := arrayOverA_spec hN.2.2.2.2.2.2.2.2.2
  refine ⟨fun k => [cI, cJ, cG, cO, cT].getD k 0, fun k q h => ?_⟩
  match k, h with
  | 0, h => cases h; exact ⟨fun n z => ⟨fun k h => (by cases h), kI, i2, c1, i3⟩, i1⟩
  | 1, h => cases h; exact ⟨fun n z => ⟨fun k h => (by cases h), kJ, j2, c2, j3⟩, j1⟩
  | 2, h => cases h; exact ⟨fun n z => ⟨fun k h => (by cases h), kG, g4, g1, g5⟩, kG, g1, g4, g5, g2, g6⟩
  | 3, h => cases h; exact ⟨fun n z => ⟨fun k h => (by cases h), kO, o4, o1, o5⟩, kO, o1, o4, o5, o2, o6⟩
  | 4, h => cases h; exact ⟨fun n z => ⟨fun k h => (by cases h), kT, t4, t1, t5⟩, t6⟩
  | k + 5, h => simp at h
theorem va_D.dropL {A : Nat → Prop} {w1 w2 : va_W} (h : va_D A (w1 ++ w2)) : va_D A w1 := by
  have key : ∀ (k : Nat) (q : Nat × va_E), w1[k]? = some q → (w1 ++ w2)[k]? = some q := fun k q hk => by rw [List.getElem?_append_left (List.getElem?_eq_some_iff.mp hk).1]; exact hk
  exact ⟨fun i j p q hi hj he => h.1 i j p q (key i p hi) (key j q hj) he, fun k q hk => h.2 k q (key k q hk)⟩
theorem va_D.apart {A : Nat → Prop} {w1 w2 : va_W} (h : va_D A (w1 ++ w2)) {i j : Nat} {p q : Nat × va_E} (hi : w1[i]? = some p) (hj : w2[j]? = some q) : p.1 ≠ q.1 := by
  intro e
  have hl := (List.getElem?_eq_some_iff.mp hi).1
  have h1 : (w1 ++ w2)[i]? = some p := by rw [List.getElem?_append_left hl]; exact hi
  have h2 : (w1 ++ w2)[w1.length + j]? = some q := by rw [List.getElem?_append_right (by omega), show w1.length + j - w1.length = j by omega]; exact hj
  have := h.1 i (w1.length + j) p q h1 h2 e
  omega
set_option maxHeartbeats 16000000 in
set_option maxRecDepth 100000 in
theorem whole_start {p : Program} {e : Env} {s : State} {m : MethodId} {below : List Frame} {meth : Method} {c : Code} (l : Launch) (hflags : l.flags = flags0) {b L : Nat} {xs : Nat → Int32} (hL : L ≤ 3072) (C0 : lw_At p s m meth c b L xs) : W p l e room_1 s m #[Value.ref b] below meth c s.heap [] 0 0 (lw_Z below #[Value.ref b] s) (entryFrame m ([Value.ref b] : List Value).toArray 4) := by
  obtain ⟨hx, hb, hr, hml, hown, hts0, hXs, hbl, hlocks, hgv⟩ := C0
  have hown : s.vm.findClass RL = some m.cls := hown
  have hts : ∀ w ∈ WT, w.before #[Value.ref b] s = true := fun w h => hts0 w (WT_tbl h)
  obtain ⟨adK, adV, hE0⟩ := vS_start hgv hts0
  have hN := gN_start hts0
  have hX := nX_start hts0
  obtain ⟨K, hty⟩ := ty_start5 ⟨_, hts _ t_177⟩ ⟨_, hts _ t_612⟩ hN
  obtain ⟨A, hAe⟩ : ∃ A : Nat → Prop, A = fun q => s.heap.size ≤ q := ⟨_, rfl⟩
  have hA : ∀ q : Nat, s.heap.size ≤ q → A q := fun q h => by rw [hAe]; exact h
  have hAz : ∀ q : Nat, A q → s.heap.size ≤ q := fun q h => by rw [hAe] at h; exact h
  obtain ⟨cc0, is0, hk0⟩ := u_known (C := RX0) (T := TX0) (N := 8) (n := 8) hts hiX0 (hts _ t_249)
  obtain ⟨cc1, is1, hk1⟩ := u_known (C := RX1) (T := TX1) (N := 2) (n := 2) hts hiX1 (hts _ t_158)
  obtain ⟨cc2, is2, hk2⟩ := u_known (C := RX2) (T := TX2) (N := 4) (n := 4) hts hiX2 (hts _ t_196)
  obtain ⟨cc3, is3, hk3⟩ := u_known (C := RX3) (T := TX3) (N := 11) (n := 11) hts hiX3 (hts _ t_318)
  obtain ⟨cc4, is4, hk4⟩ := u_known (C := RX4) (T := TX4) (N := 3) (n := 3) hts hiX4 (hts _ t_179)
  obtain ⟨cc5, is5, hk5⟩ := u_known (C := RX5) (T := TX5) (N := 4) (n := 4) hts hiX5 (hts _ t_222)
  obtain ⟨cc6, is6, hk6⟩ := u_known (C := RX6) (T := TX6) (N := 5) (n := 5) hts hiX6 (hts _ t_425)
  obtain ⟨cc7, is7, hk7⟩ := u_known (C := RX7) (T := TX7) (N := 9) (n := 9) hts hiX7 (hts _ t_431)
  obtain ⟨cc8, is8, hk8⟩ := u_known (C := RX8) (T := TX8) (N := 6) (n := 6) hts hiX8 (hts _ t_284)
  obtain ⟨cc9, is9, hk9⟩ := u_known (C := RX9) (T := TX9) (N := 11) (n := 11) hts hiX9 (hts _ t_312)
  obtain ⟨cc10, is10, hk10⟩ := u_known (C := RX10) (T := TX10) (N := 15) (n := 15) hts hiX10 (hts _ t_552)
  obtain ⟨cc11, is11, hk11⟩ := u_known (C := RX11) (T := TX11) (N := 15) (n := 15) hts hiX11 (hts _ t_150)
  obtain ⟨cc12, is12, hk12⟩ := u_known (C := RX12) (T := TX12) (N := 98) (n := 98) hts hiM (hts _ t_1358)
  obtain ⟨dC, dI, hKc⟩ : ∃ (dC : Nat → ClassId) (dI : Nat → Nat → Nat), ∀ (k : Nat) (q : vw_C), vwCl[k]? = some q → u_Kn s q.1 q.2.1 q.2.2 (dC k) (dI k) := by
    refine ⟨fun k => [cc0, cc1, cc2, cc3, cc4, cc5, cc6, cc7, cc8, cc9, cc10, cc11, cc12].getD k 0, fun k => [is0, is1, is2, is3, is4, is5, is6, is7, is8, is9, is10, is11, is12].getD k (fun _ => 0), ?_⟩
    intro k q hq
    match k, hq with
    | 0, hq => cases hq; exact hk0
    | 1, hq => cases hq; exact hk1
    | 2, hq => cases hq; exact hk2
    | 3, hq => cases hq; exact hk3
    | 4, hq => cases hq; exact hk4
    | 5, hq => cases hq; exact hk5
    | 6, hq => cases hq; exact hk6
    | 7, hq => cases hq; exact hk7
    | 8, hq => cases hq; exact hk8
    | 9, hq => cases hq; exact hk9
    | 10, hq => cases hq; exact hk10
    | 11, hq => cases hq; exact hk11
    | 12, hq => cases hq; exact hk12
    | k + 13, hq => simp [vwCl] at hq
  have hK : va_K (dC, dI) vwCl (ty5 K) s := ⟨hKc, hty⟩
  have hS : va_S A s.heap s.heap [] := va_S.rf
  have hP : va_P (dC, dI) vwCl [] s.heap := va_P0
  have hD : va_D A [] := va_D0
  have hl := lv_entry ([.ref b]) (n := 4) (Nat.le_of_ble_eq_true rfl)
  rw [lg_entry_eq]
  generalize (lg_sl ([.ref b]) ++ List.replicate (4 - (lg_sl ([.ref b])).length) Slot.unset).toArray = ls at hl ⊢
  have hl : lv_has ls 4 [(0, .ref b)] := hl
  refine va_new (ci := 11) (fs := [.null, .null, .null, .null, .null, .null, .null, .null, .null, .null, .null, .null, .null, .null, .int 0]) (C := RX11) (T := TX11) (N := 15) hx hb hts hiX11 tyX11 tyX11_ok hown (hts _ t_149) (hts _ t_150) (hts _ t_130) hK hP hD hS hA rfl (fun j hj => by rcases (show j = 0 ∨ j = 1 ∨ j = 2 ∨ j = 3 ∨ j = 4 ∨ j = 5 ∨ j = 6 ∨ j = 7 ∨ j = 8 ∨ j = 9 ∨ j = 10 ∨ j = 11 ∨ j = 12 ∨ j = 13 ∨ j = 14 by omega) with rfl | rfl | rfl | rfl | rfl | rfl | rfl | rfl | rfl | rfl | rfl | rfl | rfl | rfl | rfl <;> rfl) (Nat.le_of_ble_eq_true rfl) (Nat.le_of_ble_eq_true rfl) dL_law_0 (fun q1 H hP hD hS => ?_)
  have hP : va_P (dC, dI) vwCl [(q1, .inr (11, [.null, .null, .null, .null, .null, .null, .null, .null, .null, .null, .null, .null, .null, .null, .int 0]))] H := hP
  have hD : va_D A [(q1, .inr (11, [.null, .null, .null, .null, .null, .null, .null, .null, .null, .null, .null, .null, .null, .null, .int 0]))] := hD
  refine W.widen (k := 1) (n := 15) (Nat.le_of_ble_eq_true rfl) (Nat.le_of_ble_eq_true rfl) ?_
  refine lv_dup hx hb dL_law_3 rfl ?_
  have hFc := va_free (wc := [(q1, .inr (11, [.null, .null, .null, .null, .null, .null, .null, .null, .null, .null, .null, .null, .null, .null, .int 0]))]) hD hS hA [0] rfl
  refine va_callv (va_runI (As := []) (rest := [.ref q1]) ⟨hx, hb, hml, hown, hts⟩ (n_X11_init l dC dI K q1 adK adV s.heap.size H.size (fun q h => hAz q (hFc q h))) (cwI 0 hts (gI t_153) rfl rfl rfl (hts _ t_130) (hts _ t_151) (hts _ t_152) rfl (by decide +kernel) ⟨Nat.le_of_ble_eq_true rfl, Nat.le_of_ble_eq_true rfl⟩) ⟨nBlindS, nGoS hP hK hD hN hX hE0 hAz hS⟩ rfl rfl hl.1 rfl (lv_room (Nat.le_of_ble_eq_true rfl)) dL_law_4 ⟨Nat.le_of_ble_eq_true rfl, Nat.le_of_ble_eq_true rfl⟩) hS (fun q _ h => hFc q h) hFc (fun u t H1 locs ht hvm hw hB hz1 hk1 hS => ?_)
  obtain ⟨rk, ff, hokF, hP1, hD1⟩ := hB
  rw [ht] at hP1
  obtain ⟨hP, hD⟩ := va_join (wr := []) (w1 := WX1 K q1 rk ff) hP hD [0] [] rfl rfl (by decide) (by decide) hk1 hFc hP1 hD1
  generalize H1 = H at hP hS ⊢
  have hP : va_P (dC, dI) vwCl (WX1 K q1 rk ff) H := hP
  have hD : va_D A (WX1 K q1 rk ff) := hD
  refine W.widen (k := 154) (n := 167644) (Nat.le_of_ble_eq_true rfl) (Nat.le_of_ble_eq_true rfl) ?_
  refine lv_astore_n (lv' := [(1, .ref q1), (0, .ref b)]) hx hb dL_law_7 rfl hl (by decide) rfl (fun ls hl => ?_)
  refine va_new (ci := 12) (fs := [.null, .int 0, .int 0, .int 0, .int 0, .int 0, .int 0, .long 0, .int 0, .int 0, .int 0, .int 0, .int 0, .int 0, .null, .null, .null, .null, .null, .null, .null, .null, .null, .null, .null, .null, .null, .null, .null, .null, .null, .null, .null, .null, .null, .null, .int 0, .int 0, .int 0, .null, .null, .null, .null, .int 0, .int 0, .null, .null, .null, .null, .null, .null, .null, .int 0, .null, .null, .null, .null, .null, .null, .int 0, .int 0, .long 0, .int 0, .null, .null, .null, .int 0, .null, .null, .null, .int 0, .null, .null, .int 0, .int 0, .null, .int 0, .null, .int 0, .null, .null, .int 0, .null, .null, .null, .null, .null, .int 0, .int 0, .int 0, .int 0, .null, .int 0, .null, .null, .null, .null, .null]) (C := RX12) (T := TX12) (N := 98) hx hb hts hiM tyX12 tyX12_ok hown (hts _ t_1357) (hts _ t_1358) (hts _ t_147) hK hP hD hS hA rfl (fun j hj => by rcases (show j = 0 ∨ j = 1 ∨ j = 2 ∨ j = 3 ∨ j = 4 ∨ j = 5 ∨ j = 6 ∨ j = 7 ∨ j = 8 ∨ j = 9 ∨ j = 10 ∨ j = 11 ∨ j = 12 ∨ j = 13 ∨ j = 14 ∨ j = 15 ∨ j = 16 ∨ j = 17 ∨ j = 18 ∨ j = 19 ∨ j = 20 ∨ j = 21 ∨ j = 22 ∨ j = 23 ∨ j = 24 ∨ j = 25 ∨ j = 26 ∨ j = 27 ∨ j = 28 ∨ j = 29 ∨ j = 30 ∨ j = 31 ∨ j = 32 ∨ j = 33 ∨ j = 34 ∨ j = 35 ∨ j = 36 ∨ j = 37 ∨ j = 38 ∨ j = 39 ∨ j = 40 ∨ j = 41 ∨ j = 42 ∨ j = 43 ∨ j = 44 ∨ j = 45 ∨ j = 46 ∨ j = 47 ∨ j = 48 ∨ j = 49 ∨ j = 50 ∨ j = 51 ∨ j = 52 ∨ j = 53 ∨ j = 54 ∨ j = 55 ∨ j = 56 ∨ j = 57 ∨ j = 58 ∨ j = 59 ∨ j = 60 ∨ j = 61 ∨ j = 62 ∨ j = 63 ∨ j = 64 ∨ j = 65 ∨ j = 66 ∨ j = 67 ∨ j = 68 ∨ j = 69 ∨ j = 70 ∨ j = 71 ∨ j = 72 ∨ j = 73 ∨ j = 74 ∨ j = 75 ∨ j = 76 ∨ j = 77 ∨ j = 78 ∨ j = 79 ∨ j = 80 ∨ j = 81 ∨ j = 82 ∨ j = 83 ∨ j = 84 ∨ j = 85 ∨ j = 86 ∨ j = 87 ∨ j = 88 ∨ j = 89 ∨ j = 90 ∨ j = 91 ∨ j = 92 ∨ j = 93 ∨ j = 94 ∨ j = 95 ∨ j = 96 ∨ j = 97 by omega) with rfl | rfl | rfl | rfl | rfl | rfl | rfl | rfl | rfl | rfl | rfl | rfl | rfl | rfl | rfl | rfl | rfl | rfl | rfl | rfl | rfl | rfl | rfl | rfl | rfl | rfl | rfl | rfl | rfl | rfl | rfl | rfl | rfl | rfl | rfl | rfl | rfl | rfl | rfl | rfl | rfl | rfl | rfl | rfl | rfl | rfl | rfl | rfl | rfl | rfl | rfl | rfl | rfl | rfl | rfl | rfl | rfl | rfl | rfl | rfl | rfl | rfl | rfl | rfl | rfl | rfl | rfl | rfl | rfl | rfl | rfl | rfl | rfl | rfl | rfl | rfl | rfl | rfl | rfl | rfl | rfl | rfl | rfl | rfl | rfl | rfl | rfl | rfl | rfl | rfl | rfl | rfl | rfl | rfl | rfl | rfl | rfl | rfl <;> rfl) (Nat.le_of_ble_eq_true rfl) (Nat.le_of_ble_eq_true rfl) dL_law_8 (fun q2 H hP hD hS => ?_)
  obtain ⟨ptX, hiX, haX⟩ := X_made (l := l) (va_P.dropL hP) (va_D.dropL hD)
  have hPn : va_P (dC, dI) vwCl [(q2, .inr (12, [.null, .int 0, .int 0, .int 0, .int 0, .int 0, .int 0, .long 0, .int 0, .int 0, .int 0, .int 0, .int 0, .int 0, .null, .null, .null, .null, .null, .null, .null, .null, .null, .null, .null, .null, .null, .null, .null, .null, .null, .null, .null, .null, .null, .null, .int 0, .int 0, .int 0, .null, .null, .null, .null, .int 0, .int 0, .null, .null, .null, .null, .null, .null, .null, .int 0, .null, .null, .null, .null, .null, .null, .int 0, .int 0, .long 0, .int 0, .null, .null, .null, .int 0, .null, .null, .null, .int 0, .null, .null, .int 0, .int 0, .null, .int 0, .null, .int 0, .null, .null, .int 0, .null, .null, .null, .null, .null, .int 0, .int 0, .int 0, .int 0, .null, .int 0, .null, .null, .null, .null, .null]))] H := fun k q hk => hP (154 + k) q (by rw [List.getElem?_append_right (by show 154 ≤ 154 + k; omega), show 154 + k - (WX1 K q1 rk ff).length = k by show 154 + k - 154 = k; omega]; exact hk)
  have hDn : va_D A [(q2, .inr (12, [.null, .int 0, .int 0, .int 0, .int 0, .int 0, .int 0, .long 0, .int 0, .int 0, .int 0, .int 0, .int 0, .int 0, .null, .null, .null, .null, .null, .null, .null, .null, .null, .null, .null, .null, .null, .null, .null, .null, .null, .null, .null, .null, .null, .null, .int 0, .int 0, .int 0, .null, .null, .null, .null, .int 0, .int 0, .null, .null, .null, .null, .null, .null, .null, .int 0, .null, .null, .null, .null, .null, .null, .int 0, .int 0, .long 0, .int 0, .null, .null, .null, .int 0, .null, .null, .null, .int 0, .null, .null, .int 0, .int 0, .null, .int 0, .null, .int 0, .null, .null, .int 0, .null, .null, .null, .null, .null, .int 0, .int 0, .int 0, .int 0, .null, .int 0, .null, .null, .null, .null, .null]))] := ⟨fun i j p q hi hj _ => by
    cases i with
    | zero => cases j with
      | zero => rfl
      | succ j => simp at hj
    | succ i => simp at hi, fun k q hk => hD.2 (154 + k) q (by rw [List.getElem?_append_right (by show 154 ≤ 154 + k; omega), show 154 + k - (WX1 K q1 rk ff).length = k by show 154 + k - 154 = k; omega]; exact hk)⟩
  have hne : ∀ q, AA WSX (l, dC, dI, K, adX q1 rk) q → q ≠ q2 := fun q hq h => by
    obtain ⟨o, ho, rfl⟩ := hq
    obtain ⟨x, hx1, hx2⟩ := xpos (K := K) (h0 := q1) (r := rk) (ff := ff) o ho
    exact va_D.apart hD (j := 0) (q := (q2, .inr (12, [.null, .int 0, .int 0, .int 0, .int 0, .int 0, .int 0, .long 0, .int 0, .int 0, .int 0, .int 0, .int 0, .int 0, .null, .null, .null, .null, .null, .null, .null, .null, .null, .null, .null, .null, .null, .null, .null, .null, .null, .null, .null, .null, .null, .null, .int 0, .int 0, .int 0, .null, .null, .null, .null, .int 0, .int 0, .null, .null, .null, .null, .null, .null, .null, .int 0, .null, .null, .null, .null, .null, .null, .int 0, .int 0, .long 0, .int 0, .null, .null, .null, .int 0, .null, .null, .null, .int 0, .null, .null, .int 0, .int 0, .null, .int 0, .null, .int 0, .null, .null, .int 0, .null, .null, .null, .null, .null, .int 0, .int 0, .int 0, .int 0, .null, .int 0, .null, .null, .null, .null, .null]))) hx1 rfl (hx2.trans h)
  have hltX : ∀ q, AA WSX (l, dC, dI, K, adX q1 rk) q → q < H.size := fun q hq => by
    obtain ⟨o, ho, rfl⟩ := hq
    exact (ptX o _ (WL_get ho)).lt
  refine W.widen (k := 155) (n := 167742) (Nat.le_of_ble_eq_true rfl) (Nat.le_of_ble_eq_true rfl) ?_
  refine lv_dup hx hb dL_law_11 rfl ?_
  have hFc := va_free (wc := [(q2, .inr (12, [.null, .int 0, .int 0, .int 0, .int 0, .int 0, .int 0, .long 0, .int 0, .int 0, .int 0, .int 0, .int 0, .int 0, .null, .null, .null, .null, .null, .null, .null, .null, .null, .null, .null, .null, .null, .null, .null, .null, .null, .null, .null, .null, .null, .null, .int 0, .int 0, .int 0, .null, .null, .null, .null, .int 0, .int 0, .null, .null, .null, .null, .null, .null, .null, .int 0, .null, .null, .null, .null, .null, .null, .int 0, .int 0, .long 0, .int 0, .null, .null, .null, .int 0, .null, .null, .null, .int 0, .null, .null, .int 0, .int 0, .null, .int 0, .null, .int 0, .null, .null, .int 0, .null, .null, .null, .null, .null, .int 0, .int 0, .int 0, .int 0, .null, .int 0, .null, .null, .null, .null, .null]))]) hDn hS hA [0] rfl
  refine va_callv (va_runI (As := []) (rest := [.ref q2]) ⟨hx, hb, hml, hown, hts⟩ (n_X12_init l dC dI K q2 H.size) (cwI 0 hts (gI t_1361) rfl rfl rfl (hts _ t_147) (hts _ t_1359) (hts _ t_1360) rfl (by decide +kernel) ⟨Nat.le_of_ble_eq_true rfl, Nat.le_of_ble_eq_true rfl⟩) ⟨nBlind, nGo hPn hK hDn hN hX⟩ rfl rfl hl.1 rfl (lv_room (Nat.le_of_ble_eq_true rfl)) dL_law_12 ⟨Nat.le_of_ble_eq_true rfl, Nat.le_of_ble_eq_true rfl⟩) hS (fun q _ h => hFc q h) hFc (fun u t H1 locs ht hvm hw hB hz1 hk1 hS => ?_)
  obtain ⟨aM, PM1, ptM, hiM, haM, ea, hBM, hFM, hBG⟩ := hB
  rw [ht] at ptM
  have hvA : ∀ q, AA WSX (l, dC, dI, K, adX q1 rk) q → ¬ va_A [(q2, .inr (12, [.null, .int 0, .int 0, .int 0, .int 0, .int 0, .int 0, .long 0, .int 0, .int 0, .int 0, .int 0, .int 0, .int 0, .null, .null, .null, .null, .null, .null, .null, .null, .null, .null, .null, .null, .null, .null, .null, .null, .null, .null, .null, .null, .null, .null, .int 0, .int 0, .int 0, .null, .null, .null, .null, .int 0, .int 0, .null, .null, .null, .null, .null, .null, .null, .int 0, .null, .null, .null, .null, .null, .null, .int 0, .int 0, .long 0, .int 0, .null, .null, .null, .int 0, .null, .null, .null, .int 0, .null, .null, .int 0, .int 0, .null, .int 0, .null, .int 0, .null, .null, .int 0, .null, .null, .null, .null, .null, .int 0, .int 0, .int 0, .int 0, .null, .int 0, .null, .null, .null, .null, .null]))] H.size q := fun q hq h => by
    rcases h with ⟨k9, e9, h9⟩ | h9
    · cases k9 with
      | zero => exact hne q hq (congrArg Prod.fst (Option.some.inj h9)).symm
      | succ k9 => simp at h9
    · exact absurd (hltX q hq) (Nat.not_lt.mpr h9)
  have ptX := pt_kept ptX (fun q hq1 hq2 => hk1 q hq1 (hvA q hq2))
  have hdis : ∀ q, AA WSX (l, dC, dI, K, adX q1 rk) q → ¬ AA WSM (l, dC, dI, K, aM) q := fun q hq h => by
    obtain ⟨o, ho, rfl⟩ := h
    exact hvA _ hq (haM o ho)
  have C : LF p l s m meth c b L xs dC dI K (adX q1 rk) aM := ⟨hx, hb, hml, hown, hts, hXs, hbl, hL, hr, hlocks, kX hK hX, kM hK hX, hiX, hiM, fun q hq => by
      obtain ⟨o, ho, rfl⟩ := hq
      exact hAz _ (haX o ho), fun q hq => by
      obtain ⟨o, ho, rfl⟩ := hq
      exact hAz _ (hFc _ (haM o ho)), hdis⟩
  refine lv_astore_n (lv' := [(2, .ref q2), (1, .ref q1), (0, .ref b)]) hx hb dL_law_15 rfl hl (by decide) rfl (fun ls hl => ?_)
  refine lv_iconst (v := 0) hx hb dL_law_16 (by decide) ?_
  refine lv_istore_n (lv' := [(3, .int 0), (2, .ref q2), (1, .ref q1), (0, .ref b)]) hx hb dL_law_17 rfl hl (by decide) rfl (fun ls hl => ?_)
  refine W.widen (k := 600000) (n := 7302250) (Nat.le_of_ble_eq_true rfl) (Nat.le_of_ble_eq_true rfl) ?_
  have hS : va_S (fun q => s.heap.size ≤ q) s.heap H1 locs := by rw [← hAe]; exact hS
  exact law_loop C (L + 1) 0 0 (Nat.zero_le L) (by omega) (by omega) H1 locs (PX0 ff) PM1 ls ptX ptM (BdX0 ff) (IM0 hBM hFM) (OWN0 hokF) ⟨T0, K0, K0, A0, WFT0, SXT0, SMT0 hFM hBG⟩ hS (by rw [ea]; exact hl)
