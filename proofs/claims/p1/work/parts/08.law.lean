/-! THE CLAIM OUT OF ONE WALK OF THE LAW'S BODY. Your part is whole_start (and what it stands on); all else here is the same for every law, but numbers. -/
def R_law : String := "MatchTreesLaw"
def lw_P (b : Addr) (xs : List Int32) (args : Array Value) (s : State) : Prop := args = #[.ref b] ∧ s.IntsAt b xs ∧ xs.length ≤ 6 ∧ (Jvm.Cond.and given_1 narrow_1).before args s = true
def lw_Q (_ : Array Value) (s : State) (o : Outcome) (t : State) : Prop := o = .returned (some (.int 1)) ∧ Framed s o t [] 600000 7302250
def lw_Z (below : List Frame) (a : Array Value) (s : State) : State → Prop := fun t => ∃ o, t.status = .running ∧ Ended t below o ∧ lw_Q a s o t
/-- the law's own end, with 1 on the stack, nothing written that was there before, its room as the claim has it -/
theorem lw_ret {p : Program} {l : Launch} {e : Env} {s : State} {m : MethodId} {below : List Frame} {meth : Method} {c : Code} {b : Nat} (hx : p.tables.exec = Jvm.exec) (hb : c.code = code) (hr : meth.sig.returnType = ret) (hlocks : meth.locks = false) {pc : Nat} {H : Heap} {ls : Array Slot} (hdg : decode code pc = .ok (.ireturn, 1)) : W p l e room_1 s m #[Value.ref b] below meth c H [] 600000 7302250 (lw_Z below #[Value.ref b] s) (F0 m pc ls [.int 1]) := by
  intro T hT X
  obtain ⟨fs, hret, hrun, hended, hW, hframe⟩ := X.leave (v := some (.int 1)) (hlocks := hlocks) (fun h => by rw [hr] at h; cases h)
  have hmeth' : T.vm.method? m = some meth := X.method'
  refine ⟨T.setFrames fs, ?_, .returned (some (.int 1)), hrun, hended, rfl, ⟨_, rfl⟩, hW, hframe⟩
  jvm_step X.here [X.here.top, hx, hb, hdg, hmeth', hr, ret, narrow_b1]
  (try refine ⟨rfl, ?_⟩); (try refine ⟨rfl, ?_⟩)
  first | (intro acts; rw [hret _ acts rfl rfl rfl]) | rw [hret _ _ rfl rfl rfl]
  exact Steps.refl _
/-- what holds at the law's entry: the machine, the code, the tables' words (any of lw_tbl by 'hts w (by decide +kernel)'), the script of L ints xs at the cell b, what the Statement gives of the start (any of its parts by flat_of_before) -/
def lw_At (p : Program) (s : State) (m : MethodId) (meth : Method) (c : Code) (b L : Nat) (xs : Nat → Int32) : Prop :=
  p.tables.exec = Jvm.exec ∧ c.code = code ∧ meth.sig.returnType = ret ∧ c.maxLocals = 4 ∧ s.vm.findClass R_law = some m.cls ∧ (∀ w ∈ lw_tbl, w.before #[Value.ref b] s = true) ∧ va_X b L xs s s.heap ∧ b < s.heap.size ∧ meth.locks = false ∧ (Jvm.Cond.and given_1 narrow_1).before #[Value.ref b] s = true
/-! The law: what holds at its start, each of its cases, its tail, its walk. -/
abbrev tmS (i : Nat) : Term := .string RX7 (idxS.getD i 0)
abbrev flN : List Cond := flatC (Jvm.Cond.and given_1 narrow_1)
set_option maxRecDepth 20000 in
theorem st_ex : ∀ i, i < 11 → Cond.exactly (tmS i) "java/lang/String" ∈ flN := by decide +kernel
set_option maxRecDepth 20000 in
theorem st_co : ∀ i, i < 11 → Cond.eq (.field (tmS i) "java/lang/String" "coder" "B") (.int 0) ∈ flN := by decide +kernel
set_option maxRecDepth 20000 in
theorem st_ar : ∀ i, i < 11 → Cond.arrayOf (.field (tmS i) "java/lang/String" "value" "[B") .byte ∈ flN := by decide +kernel
set_option maxRecDepth 20000 in
theorem st_le : ∀ i, i < 11 → Cond.eq (.length (.field (tmS i) "java/lang/String" "value" "[B")) (.int (Int32.ofNat (lenS.getD i 0))) ∈ flN := by decide +kernel
set_option maxRecDepth 20000 in
theorem st_el : ∀ i, i < 11 → ∀ j, j < lenS.getD i 0 → Cond.eq (.elem (.field (tmS i) "java/lang/String" "value" "[B") (.int (Int32.ofNat j))) (.int ((bytS.getD i []).getD j 0)) ∈ flN := by decide +kernel
set_option maxRecDepth 20000 in
theorem st_ne : ∀ i, i < 11 → ∀ j, j < 11 → i ≠ j → Cond.not (Cond.eq (tmS i) (tmS j)) ∈ flN ∨ Cond.not (Cond.eq (tmS j) (tmS i)) ∈ flN := by decide +kernel
set_option maxRecDepth 20000 in
theorem st_rf : ∀ i, i < 11 → Cond.stringRef RX7 (idxS.getD i 0) (txtS.getD i "") ∈ lw_tbl := by decide +kernel
set_option maxRecDepth 20000 in
theorem vS_start {s : State} {b : Nat} (hgv : (Jvm.Cond.and given_1 narrow_1).before #[Value.ref b] s = true) (hts : ∀ w ∈ lw_tbl, w.before #[Value.ref b] s = true) : ∃ adK adV : Nat → Nat, vS adK adV s.heap.size s := by
  have hf := flat_of_before _ hgv
  obtain ⟨adK, adV, hE, hk⟩ := vk_Sof (N := 11) (tm := tmS) (len := lenS) (byt := bytS) (A := fun q => s.heap.size ≤ q) (args := #[Value.ref b]) (s := s) (fun i hi => by have := lenS_ok i hi; omega) (fun i hi => hf _ (st_ex i hi)) (fun i hi => hf _ (st_co i hi)) (fun i hi => hf _ (st_ar i hi)) (fun i hi => hf _ (st_le i hi)) (fun i hi j hj => hf _ (st_el i hi j hj)) (fun i j hi hj hn => (st_ne i hi j hj hn).imp (hf _) (hf _)) (fun a ha => Nat.not_le.mpr ha)
  refine ⟨adK, adV, hE, ?_, ?_, fun i hi => vk_R.of (hts _ (st_rf i hi)) (hk i hi)⟩
  · exact va_Zof (hts (.laysStatic "java/lang/String" "COMPACT_STRINGS" "Z") (by decide +kernel)) (hts (.initialized "java/lang/String") (by decide +kernel)) (va_eqi (hf (.eq (.static "java/lang/String" "COMPACT_STRINGS" "Z") (.int 1)) (by decide +kernel))) (fun a ha => Nat.not_le.mpr ha)
  · exact va_Zqof (hts (.laysStatic "jdk/internal/util/Preconditions" "SIOOBE_FORMATTER" "Ljava/util/function/BiFunction;") (by decide +kernel)) (hts (.initialized "jdk/internal/util/Preconditions") (by decide +kernel)) (hf (.isRef (.static "jdk/internal/util/Preconditions" "SIOOBE_FORMATTER" "Ljava/util/function/BiFunction;")) (by decide +kernel)) (fun a ha => Nat.not_le.mpr ha)
set_option maxRecDepth 20000 in
theorem gN_start {s : State} {b : Nat} (hts : ∀ w ∈ lw_tbl, w.before #[Value.ref b] s = true) : gN s :=
  ⟨va_Nw.of rfl (hts (.methodLinkNest RX11 23 yX4_init RX11) (by decide +kernel)), va_Nw.of rfl (hts (.methodLinkNest RX11 42 yX5_init RX11) (by decide +kernel)), va_Nw.of rfl (hts (.methodLinkNest RX11 59 yX8_init RX11) (by decide +kernel)), va_Nw.of rfl (hts (.methodLinkNest RX11 70 yX9_init RX11) (by decide +kernel)), va_Nw.of rfl (hts (.methodLinkNest RX0 30 yX5_init RX11) (by decide +kernel)), va_Nw.of rfl (hts (.methodLinkNest RX6 11 yX7_init RX11) (by decide +kernel)), va_Nw.of rfl (hts (.methodLinkNest RX9 11 yX3_init RX11) (by decide +kernel)), va_AO.of (hts (.arrayOver (.object RX2)) (by decide +kernel)), va_AO.of (hts (.arrayOver (.object RX5)) (by decide +kernel)), hts (.arrayOver (.array .int)) (by decide +kernel)⟩
set_option maxRecDepth 20000 in
theorem ty_start {s : State} {b : Nat} (hts : ∀ w ∈ lw_tbl, w.before #[Value.ref b] s = true) : ∃ cI cJ : ClassId, ArrOfT s cI .int ∧ va_RA s cI .int ∧ ArrOfT s cJ .long ∧ va_RA s cJ .long := by
  obtain ⟨cI, kI, c1, h1, h2, h3⟩ := Cond.arrayClass_spec (hts (.arrayClass .int) (by decide +kernel))
  obtain ⟨cJ, kJ, c2, g1, g2, g3⟩ := Cond.arrayClass_spec (hts (.arrayClass .long) (by decide +kernel))
  exact ⟨cI, cJ, fun n z => ⟨fun k h => (by cases h), kI, h2, c1, h3⟩, h1, fun n z => ⟨fun k h => (by cases h), kJ, g2, c2, g3⟩, g1⟩
set_option maxHeartbeats 4000000 in
set_option maxRecDepth 100000 in
theorem law_tail {p : Program} {l : Launch} {e : Env} {s : State} {m : MethodId} {below : List Frame} {meth : Method} {c : Code} {b : Nat} {xs : Nat → Int32} {A : Nat → Prop} {H : Heap} {locs : List Loc} {ls : Array Slot} (hx : p.tables.exec = Jvm.exec) (hb : c.code = code) (hr : meth.sig.returnType = ret) (hml : c.maxLocals = 4) (hX : va_X b 6 xs s s.heap) (hbl : b < s.heap.size) (hlocks : meth.locks = false) (hAz : ∀ q, A q → s.heap.size ≤ q) (hbA : ¬ A b) (hS : va_S A s.heap H locs) (hl : lv_has ls 4 [(0, .ref b), (3, .int 0)]) : W p l e room_1 s m #[Value.ref b] below meth c H locs 600000 7302250 (lw_Z below #[Value.ref b] s) (F0 m 1093 ls []) := by
  refine lv_iinc (v := 6) (lv' := [(3, .int 6), (0, .ref b)]) hx hb dL_law_1093 hl (k := 1) rfl (by decide) (by decide) rfl (fun ls hl => ?_)
  refine lv_goto (tgt := 18) hx hb dL_law_1096 (by decide) ?_
  refine lv_iload_n hx hb dL_law_18 rfl (lv_at hl 0 rfl) ?_
  refine lv_aload_n hx hb dL_law_19 rfl (lv_at hl 1 rfl) ?_
  refine va_slen hx hb hX hbl hbA hS dL_law_20 ?_
  refine lv_topi (fun t9 e9 => ?_)
  obtain rfl : t9 = 6 := e9.trans (by decide)
  refine lv_bipush (v := 6) hx hb dL_law_21 (by decide) ?_
  refine k_isub (v := 0) hx hb (by decide) dL_law_23 ?_
  refine lv_icmp_gt (tgt := 1099) hx hb dL_law_24 (by decide) (fun _ => ?_) (fun c => absurd (by decide) c)
  refine lv_iconst (v := 1) hx hb dL_law_1099 (by decide) ?_
  refine va_forget (fun q hq => hAz _ (hS.2.2 q hq)) ?_
  exact lw_ret hx hb hr hlocks dL_law_1100
set_option maxHeartbeats 4000000 in
set_option maxRecDepth 100000 in
/-- case 0: feed -/
theorem law_0 {p : Program} {l : Launch} {e : Env} {s : State} {m : MethodId} {below : List Frame} {meth : Method} {c : Code} {dC : Nat → ClassId} {dI : Nat → Nat → Nat} {cI cJ : ClassId} {b : Nat} {xs : Nat → Int32} {A : Nat → Prop} {q1 q2 : Nat} {rx rm : Nat → Nat} {og : Nat → Int32} {H : Heap} {locs : List Loc} {ls : Array Slot} (hx : p.tables.exec = Jvm.exec) (hb : c.code = code) (hr : meth.sig.returnType = ret) (hml : c.maxLocals = 4) (hown : s.vm.findClass RL = some m.cls) (hts : ∀ w ∈ lw_tbl, w.before #[Value.ref b] s = true) (hX : va_X b 6 xs s s.heap) (hbl : b < s.heap.size) (hlocks : meth.locks = false) (hA : ∀ q, s.heap.size ≤ q → A q) (hAz : ∀ q, A q → s.heap.size ≤ q) (hbA : ¬ A b) (hK : va_K (dC, dI) vwCl (ty0 cI cJ) s) (hN : gN s) (hP : va_P (dC, dI) vwCl (WX cI q1 rx ++ WM cI q2 rm og) H) (hD : va_D A (WX cI q1 rx ++ WM cI q2 rm og)) (hS : va_S A s.heap H locs) (hl : lv_has ls 4 [(0, .ref b), (1, .ref q1), (2, .ref q2), (3, .int 0)]) : W p l e room_1 s m #[Value.ref b] below meth c H locs 600000 7302250 (lw_Z below #[Value.ref b] s) (F0 m 188 ls []) := by
  have hP := hP.sub (ws' := [(q1, .inr (11, [.ref (rx 0), .ref (rx 1), .ref (rx 2), .ref (rx 3), .ref (rx 4), .ref (rx 5), .ref (rx 6), .ref (rx 7), .ref (rx 8), .ref (rx 9), .ref (rx 10), .ref (rx 11), .ref (rx 12), .ref (rx 13), .int 1])), ((rx 0), .inr (1, [.ref (rx 14), .int 0])), ((rx 14), .inl (cI, 1600, .inl (fun _ => 0))), (q2, .inr (12, (o12 rm))), ((rm 0), .inl (cI, 1800, .inl (fun _ => 0)))]) [0, 1, 2, 15, 16] rfl
  have hD := hD.sub (ws' := [(q1, .inr (11, [.ref (rx 0), .ref (rx 1), .ref (rx 2), .ref (rx 3), .ref (rx 4), .ref (rx 5), .ref (rx 6), .ref (rx 7), .ref (rx 8), .ref (rx 9), .ref (rx 10), .ref (rx 11), .ref (rx 12), .ref (rx 13), .int 1])), ((rx 0), .inr (1, [.ref (rx 14), .int 0])), ((rx 14), .inl (cI, 1600, .inl (fun _ => 0))), (q2, .inr (12, (o12 rm))), ((rm 0), .inl (cI, 1800, .inl (fun _ => 0)))]) [0, 1, 2, 15, 16] (by decide) rfl
  refine lv_aload_n hx hb dL_law_188 rfl (lv_at hl 1 rfl) ?_
  refine lv_aload_n hx hb dL_law_189 rfl (lv_at hl 0 rfl) ?_
  refine lv_iload_n hx hb dL_law_190 rfl (lv_at hl 3 rfl) ?_
  refine lv_iconst (v := 1) hx hb dL_law_191 (by decide) ?_
  refine k_iadd (v := 1) hx hb (by decide) dL_law_192 ?_
  refine va_sld hx hb hX hbl hbA hS (vpd (by decide)) dL_law_193 ?_
  refine lv_aload_n hx hb dL_law_194 rfl (lv_at hl 0 rfl) ?_
  refine lv_iload_n hx hb dL_law_195 rfl (lv_at hl 3 rfl) ?_
  refine lv_iconst (v := 2) hx hb dL_law_196 (by decide) ?_
  refine k_iadd (v := 2) hx hb (by decide) dL_law_197 ?_
  refine va_sld hx hb hX hbl hbA hS (vpd (by decide)) dL_law_198 ?_
  refine lv_aload_n hx hb dL_law_199 rfl (lv_at hl 0 rfl) ?_
  refine lv_iload_n hx hb dL_law_200 rfl (lv_at hl 3 rfl) ?_
  refine lv_iconst (v := 3) hx hb dL_law_201 (by decide) ?_
  refine k_iadd (v := 3) hx hb (by decide) dL_law_202 ?_
  refine va_sld hx hb hX hbl hbA hS (vpd (by decide)) dL_law_203 ?_
  refine lv_aload_n hx hb dL_law_204 rfl (lv_at hl 0 rfl) ?_
  refine lv_iload_n hx hb dL_law_205 rfl (lv_at hl 3 rfl) ?_
  refine lv_iconst (v := 4) hx hb dL_law_206 (by decide) ?_
  refine k_iadd (v := 4) hx hb (by decide) dL_law_207 ?_
  refine va_sld hx hb hX hbl hbA hS (vpd (by decide)) dL_law_208 ?_
  refine lv_aload_n hx hb dL_law_209 rfl (lv_at hl 0 rfl) ?_
  refine lv_iload_n hx hb dL_law_210 rfl (lv_at hl 3 rfl) ?_
  refine lv_iconst (v := 5) hx hb dL_law_211 (by decide) ?_
  refine k_iadd (v := 5) hx hb (by decide) dL_law_212 ?_
  refine va_sld hx hb hX hbl hbA hS (vpd (by decide)) dL_law_213 ?_
  have hPc := hP.sub (ws' := [(q1, .inr (11, [.ref (rx 0), .ref (rx 1), .ref (rx 2), .ref (rx 3), .ref (rx 4), .ref (rx 5), .ref (rx 6), .ref (rx 7), .ref (rx 8), .ref (rx 9), .ref (rx 10), .ref (rx 11), .ref (rx 12), .ref (rx 13), .int 1])), ((rx 0), .inr (1, [.ref (rx 14), .int 0])), ((rx 14), .inl (cI, 1600, .inl (fun _ => 0)))]) [0, 1, 2] rfl
  have hDc := hD.sub (ws' := [(q1, .inr (11, [.ref (rx 0), .ref (rx 1), .ref (rx 2), .ref (rx 3), .ref (rx 4), .ref (rx 5), .ref (rx 6), .ref (rx 7), .ref (rx 8), .ref (rx 9), .ref (rx 10), .ref (rx 11), .ref (rx 12), .ref (rx 13), .int 1])), ((rx 0), .inr (1, [.ref (rx 14), .int 0])), ((rx 14), .inl (cI, 1600, .inl (fun _ => 0)))]) [0, 1, 2] (by decide) rfl
  have hFc := va_free (wc := [(q1, .inr (11, [.ref (rx 0), .ref (rx 1), .ref (rx 2), .ref (rx 3), .ref (rx 4), .ref (rx 5), .ref (rx 6), .ref (rx 7), .ref (rx 8), .ref (rx 9), .ref (rx 10), .ref (rx 11), .ref (rx 12), .ref (rx 13), .int 1])), ((rx 0), .inr (1, [.ref (rx 14), .int 0])), ((rx 14), .inl (cI, 1600, .inl (fun _ => 0)))]) hD hS hA [0, 1, 2] rfl
  refine va_calli (va_runV (As := [.int (xs (1 : Int32).toNatClampNeg), .int (xs (2 : Int32).toNatClampNeg), .int (xs (3 : Int32).toNatClampNeg), .int (xs (4 : Int32).toNatClampNeg), .int (xs (5 : Int32).toNatClampNeg)]) (rest := []) ⟨hx, hb, hml, hown, hts⟩ (c_X11_feed l dC dI cI cJ q1 rx (xs (1 : Int32).toNatClampNeg) (xs (2 : Int32).toNatClampNeg) (xs (3 : Int32).toNatClampNeg) (xs (4 : Int32).toNatClampNeg) (xs (5 : Int32).toNatClampNeg) H.size) (cwV 5 hts gL_law_X11_feed rfl rfl rfl (by decide +kernel) ⟨Nat.le_of_ble_eq_true rfl, Nat.le_of_ble_eq_true rfl⟩) ⟨mBlind, va_recv hK hPc (ci := 11) (q0 := 0) rfl rfl, mGo hPc hK hDc hN⟩ rfl rfl hl.1 rfl (lv_room (Nat.le_of_ble_eq_true rfl)) dL_law_214 ⟨Nat.le_of_ble_eq_true rfl, Nat.le_of_ble_eq_true rfl⟩) hS (fun q _ h => hFc q h) hFc (fun r_1 u t H1 locs ht hvm hw hB hz1 hk1 hS => ?_)
  obtain rfl : r_1 = 20 := hw
  obtain ⟨hP, hD⟩ := va_join (wr := [(q2, .inr (12, (o12 rm))), ((rm 0), .inl (cI, 1800, .inl (fun _ => 0)))]) (w1 := []) hP hD [0, 1, 2] [3, 4] rfl rfl (by decide) (by decide) hk1 hFc va_P0 va_D0
  generalize H1 = H at hP hS ⊢
  have hP : va_P (dC, dI) vwCl [(q2, .inr (12, (o12 rm))), ((rm 0), .inl (cI, 1800, .inl (fun _ => 0)))] H := hP
  have hD : va_D A [(q2, .inr (12, (o12 rm))), ((rm 0), .inl (cI, 1800, .inl (fun _ => 0)))] := hD
  refine lv_aload_n hx hb dL_law_217 rfl (lv_at hl 2 rfl) ?_
  refine lv_aload_n hx hb dL_law_218 rfl (lv_at hl 0 rfl) ?_
  refine lv_iload_n hx hb dL_law_219 rfl (lv_at hl 3 rfl) ?_
  refine lv_iconst (v := 1) hx hb dL_law_220 (by decide) ?_
  refine k_iadd (v := 1) hx hb (by decide) dL_law_221 ?_
  refine va_sld hx hb hX hbl hbA hS (vpd (by decide)) dL_law_222 ?_
  refine lv_aload_n hx hb dL_law_223 rfl (lv_at hl 0 rfl) ?_
  refine lv_iload_n hx hb dL_law_224 rfl (lv_at hl 3 rfl) ?_
  refine lv_iconst (v := 2) hx hb dL_law_225 (by decide) ?_
  refine k_iadd (v := 2) hx hb (by decide) dL_law_226 ?_
  refine va_sld hx hb hX hbl hbA hS (vpd (by decide)) dL_law_227 ?_
  refine lv_aload_n hx hb dL_law_228 rfl (lv_at hl 0 rfl) ?_
  refine lv_iload_n hx hb dL_law_229 rfl (lv_at hl 3 rfl) ?_
  refine lv_iconst (v := 3) hx hb dL_law_230 (by decide) ?_
  refine k_iadd (v := 3) hx hb (by decide) dL_law_231 ?_
  refine va_sld hx hb hX hbl hbA hS (vpd (by decide)) dL_law_232 ?_
  refine lv_aload_n hx hb dL_law_233 rfl (lv_at hl 0 rfl) ?_
  refine lv_iload_n hx hb dL_law_234 rfl (lv_at hl 3 rfl) ?_
  refine lv_iconst (v := 4) hx hb dL_law_235 (by decide) ?_
  refine k_iadd (v := 4) hx hb (by decide) dL_law_236 ?_
  refine va_sld hx hb hX hbl hbA hS (vpd (by decide)) dL_law_237 ?_
  refine lv_aload_n hx hb dL_law_238 rfl (lv_at hl 0 rfl) ?_
  refine lv_iload_n hx hb dL_law_239 rfl (lv_at hl 3 rfl) ?_
  refine lv_iconst (v := 5) hx hb dL_law_240 (by decide) ?_
  refine k_iadd (v := 5) hx hb (by decide) dL_law_241 ?_
  refine va_sld hx hb hX hbl hbA hS (vpd (by decide)) dL_law_242 ?_
  have hPc := hP.sub (ws' := [(q2, .inr (12, (o12 rm))), ((rm 0), .inl (cI, 1800, .inl (fun _ => 0)))]) [0, 1] rfl
  have hDc := hD.sub (ws' := [(q2, .inr (12, (o12 rm))), ((rm 0), .inl (cI, 1800, .inl (fun _ => 0)))]) [0, 1] (by decide) rfl
  have hFc := va_free (wc := [(q2, .inr (12, (o12 rm))), ((rm 0), .inl (cI, 1800, .inl (fun _ => 0)))]) hD hS hA [0, 1] rfl
  refine va_calli (va_runV (As := [.int (xs (1 : Int32).toNatClampNeg), .int (xs (2 : Int32).toNatClampNeg), .int (xs (3 : Int32).toNatClampNeg), .int (xs (4 : Int32).toNatClampNeg), .int (xs (5 : Int32).toNatClampNeg)]) (rest := [.int 20]) ⟨hx, hb, hml, hown, hts⟩ (c_X12_feed l dC dI cI cJ q2 rm (xs (1 : Int32).toNatClampNeg) (xs (2 : Int32).toNatClampNeg) (xs (3 : Int32).toNatClampNeg) (xs (4 : Int32).toNatClampNeg) (xs (5 : Int32).toNatClampNeg) H.size) (cwV 5 hts gL_law_X12_feed rfl rfl rfl (by decide +kernel) ⟨Nat.le_of_ble_eq_true rfl, Nat.le_of_ble_eq_true rfl⟩) ⟨mBlind, va_recv hK hPc (ci := 12) (q0 := 0) rfl rfl, mGo hPc hK hDc hN⟩ rfl rfl hl.1 rfl (lv_room (Nat.le_of_ble_eq_true rfl)) dL_law_243 ⟨Nat.le_of_ble_eq_true rfl, Nat.le_of_ble_eq_true rfl⟩) hS (fun q _ h => hFc q h) hFc (fun r_2 u t H1 locs ht hvm hw hB hz1 hk1 hS => ?_)
  obtain rfl : r_2 = 20 := hw
  obtain ⟨hP, hD⟩ := va_join (wr := []) (w1 := []) hP hD [0, 1] [] rfl rfl (by decide) (by decide) hk1 hFc va_P0 va_D0
  generalize H1 = H at hP hS ⊢
  have hP : va_P (dC, dI) vwCl [] H := hP
  have hD : va_D A [] := hD
  refine lv_icmp_eq (tgt := 1093) hx hb dL_law_246 (by decide) (fun _ => ?_) (fun c => absurd (by decide) c)
  exact law_tail hx hb hr hml hX hbl hlocks hAz hbA hS (lv_sub hl [0, 3] rfl)
set_option maxHeartbeats 4000000 in
set_option maxRecDepth 100000 in
/-- case 1: end -/
theorem law_1 {p : Program} {l : Launch} {e : Env} {s : State} {m : MethodId} {below : List Frame} {meth : Method} {c : Code} {dC : Nat → ClassId} {dI : Nat → Nat → Nat} {cI cJ : ClassId} {b : Nat} {xs : Nat → Int32} {A : Nat → Prop} {q1 q2 : Nat} {rx rm : Nat → Nat} {og : Nat → Int32} {H : Heap} {locs : List Loc} {ls : Array Slot} (hx : p.tables.exec = Jvm.exec) (hb : c.code = code) (hr : meth.sig.returnType = ret) (hml : c.maxLocals = 4) (hown : s.vm.findClass RL = some m.cls) (hts : ∀ w ∈ lw_tbl, w.before #[Value.ref b] s = true) (hX : va_X b 6 xs s s.heap) (hbl : b < s.heap.size) (hlocks : meth.locks = false) (hA : ∀ q, s.heap.size ≤ q → A q) (hAz : ∀ q, A q → s.heap.size ≤ q) (hbA : ¬ A b) (hK : va_K (dC, dI) vwCl (ty0 cI cJ) s) (hN : gN s) (hP : va_P (dC, dI) vwCl (WX cI q1 rx ++ WM cI q2 rm og) H) (hD : va_D A (WX cI q1 rx ++ WM cI q2 rm og)) (hS : va_S A s.heap H locs) (hl : lv_has ls 4 [(0, .ref b), (1, .ref q1), (2, .ref q2), (3, .int 0)]) : W p l e room_1 s m #[Value.ref b] below meth c H locs 600000 7302250 (lw_Z below #[Value.ref b] s) (F0 m 251 ls []) := by
  have hP := hP.sub (ws' := [(q1, .inr (11, [.ref (rx 0), .ref (rx 1), .ref (rx 2), .ref (rx 3), .ref (rx 4), .ref (rx 5), .ref (rx 6), .ref (rx 7), .ref (rx 8), .ref (rx 9), .ref (rx 10), .ref (rx 11), .ref (rx 12), .ref (rx 13), .int 1])), ((rx 0), .inr (1, [.ref (rx 14), .int 0])), ((rx 9), .inl (cI, 6, .inl (fun _ => 0))), (q2, .inr (12, (o12 rm))), ((rm 27), .inl (cI, 6, .inl (fun _ => 0)))]) [0, 1, 8, 15, 23] rfl
  have hD := hD.sub (ws' := [(q1, .inr (11, [.ref (rx 0), .ref (rx 1), .ref (rx 2), .ref (rx 3), .ref (rx 4), .ref (rx 5), .ref (rx 6), .ref (rx 7), .ref (rx 8), .ref (rx 9), .ref (rx 10), .ref (rx 11), .ref (rx 12), .ref (rx 13), .int 1])), ((rx 0), .inr (1, [.ref (rx 14), .int 0])), ((rx 9), .inl (cI, 6, .inl (fun _ => 0))), (q2, .inr (12, (o12 rm))), ((rm 27), .inl (cI, 6, .inl (fun _ => 0)))]) [0, 1, 8, 15, 23] (by decide) rfl
  refine lv_aload_n hx hb dL_law_251 rfl (lv_at hl 1 rfl) ?_
  refine lv_aload_n hx hb dL_law_252 rfl (lv_at hl 0 rfl) ?_
  refine lv_iload_n hx hb dL_law_253 rfl (lv_at hl 3 rfl) ?_
  refine lv_iconst (v := 1) hx hb dL_law_254 (by decide) ?_
  refine k_iadd (v := 1) hx hb (by decide) dL_law_255 ?_
  refine va_sld hx hb hX hbl hbA hS (vpd (by decide)) dL_law_256 ?_
  have hPc := hP.sub (ws' := [(q1, .inr (11, [.ref (rx 0), .ref (rx 1), .ref (rx 2), .ref (rx 3), .ref (rx 4), .ref (rx 5), .ref (rx 6), .ref (rx 7), .ref (rx 8), .ref (rx 9), .ref (rx 10), .ref (rx 11), .ref (rx 12), .ref (rx 13), .int 1])), ((rx 0), .inr (1, [.ref (rx 14), .int 0])), ((rx 9), .inl (cI, 6, .inl (fun _ => 0)))]) [0, 1, 2] rfl
  have hDc := hD.sub (ws' := [(q1, .inr (11, [.ref (rx 0), .ref (rx 1), .ref (rx 2), .ref (rx 3), .ref (rx 4), .ref (rx 5), .ref (rx 6), .ref (rx 7), .ref (rx 8), .ref (rx 9), .ref (rx 10), .ref (rx 11), .ref (rx 12), .ref (rx 13), .int 1])), ((rx 0), .inr (1, [.ref (rx 14), .int 0])), ((rx 9), .inl (cI, 6, .inl (fun _ => 0)))]) [0, 1, 2] (by decide) rfl
  have hFc := va_free (wc := [(q1, .inr (11, [.ref (rx 0), .ref (rx 1), .ref (rx 2), .ref (rx 3), .ref (rx 4), .ref (rx 5), .ref (rx 6), .ref (rx 7), .ref (rx 8), .ref (rx 9), .ref (rx 10), .ref (rx 11), .ref (rx 12), .ref (rx 13), .int 1])), ((rx 0), .inr (1, [.ref (rx 14), .int 0])), ((rx 9), .inl (cI, 6, .inl (fun _ => 0)))]) hD hS hA [0, 1, 2] rfl
  refine va_calli (va_runV (As := [.int (xs (1 : Int32).toNatClampNeg)]) (rest := []) ⟨hx, hb, hml, hown, hts⟩ (c_X11_end l dC dI cI cJ q1 rx (xs (1 : Int32).toNatClampNeg) H.size) (cwV 1 hts gL_law_X11_end rfl rfl rfl (by decide +kernel) ⟨Nat.le_of_ble_eq_true rfl, Nat.le_of_ble_eq_true rfl⟩) ⟨mBlind, va_recv hK hPc (ci := 11) (q0 := 0) rfl rfl, mGo hPc hK hDc hN⟩ rfl rfl hl.1 rfl (lv_room (Nat.le_of_ble_eq_true rfl)) dL_law_257 ⟨Nat.le_of_ble_eq_true rfl, Nat.le_of_ble_eq_true rfl⟩) hS (fun q _ h => hFc q h) hFc (fun r_1 u t H1 locs ht hvm hw hB hz1 hk1 hS => ?_)
  have hw_x := hw
  obtain ⟨hP, hD⟩ := va_join (wr := [(q2, .inr (12, (o12 rm))), ((rm 27), .inl (cI, 6, .inl (fun _ => 0)))]) (w1 := []) hP hD [0, 1, 2] [3, 4] rfl rfl (by decide) (by decide) hk1 hFc va_P0 va_D0
  generalize H1 = H at hP hS ⊢
  have hP : va_P (dC, dI) vwCl [(q2, .inr (12, (o12 rm))), ((rm 27), .inl (cI, 6, .inl (fun _ => 0)))] H := hP
  have hD : va_D A [(q2, .inr (12, (o12 rm))), ((rm 27), .inl (cI, 6, .inl (fun _ => 0)))] := hD
  refine lv_aload_n hx hb dL_law_260 rfl (lv_at hl 2 rfl) ?_
  refine lv_aload_n hx hb dL_law_261 rfl (lv_at hl 0 rfl) ?_
  refine lv_iload_n hx hb dL_law_262 rfl (lv_at hl 3 rfl) ?_
  refine lv_iconst (v := 1) hx hb dL_law_263 (by decide) ?_
  refine k_iadd (v := 1) hx hb (by decide) dL_law_264 ?_
  refine va_sld hx hb hX hbl hbA hS (vpd (by decide)) dL_law_265 ?_
  have hPc := hP.sub (ws' := [(q2, .inr (12, (o12 rm))), ((rm 27), .inl (cI, 6, .inl (fun _ => 0)))]) [0, 1] rfl
  have hDc := hD.sub (ws' := [(q2, .inr (12, (o12 rm))), ((rm 27), .inl (cI, 6, .inl (fun _ => 0)))]) [0, 1] (by decide) rfl
  have hFc := va_free (wc := [(q2, .inr (12, (o12 rm))), ((rm 27), .inl (cI, 6, .inl (fun _ => 0)))]) hD hS hA [0, 1] rfl
  refine va_calli (va_runV (As := [.int (xs (1 : Int32).toNatClampNeg)]) (rest := [.int r_1]) ⟨hx, hb, hml, hown, hts⟩ (c_X12_end l dC dI cI cJ q2 rm (xs (1 : Int32).toNatClampNeg) H.size) (cwV 1 hts gL_law_X12_end rfl rfl rfl (by decide +kernel) ⟨Nat.le_of_ble_eq_true rfl, Nat.le_of_ble_eq_true rfl⟩) ⟨mBlind, va_recv hK hPc (ci := 12) (q0 := 0) rfl rfl, mGo hPc hK hDc hN⟩ rfl rfl hl.1 rfl (lv_room (Nat.le_of_ble_eq_true rfl)) dL_law_266 ⟨Nat.le_of_ble_eq_true rfl, Nat.le_of_ble_eq_true rfl⟩) hS (fun q _ h => hFc q h) hFc (fun r_2 u t H1 locs ht hvm hw hB hz1 hk1 hS => ?_)
  have hw_m := hw
  obtain ⟨hP, hD⟩ := va_join (wr := []) (w1 := []) hP hD [0, 1] [] rfl rfl (by decide) (by decide) hk1 hFc va_P0 va_D0
  generalize H1 = H at hP hS ⊢
  have hP : va_P (dC, dI) vwCl [] H := hP
  have hD : va_D A [] := hD
  refine lv_icmp_eq (tgt := 1093) hx hb dL_law_269 (by decide) (fun _ => ?_) (fun c => absurd (hw_x.trans hw_m.symm) c)
  exact law_tail hx hb hr hml hX hbl hlocks hAz hbA hS (lv_sub hl [0, 3] rfl)
set_option maxHeartbeats 4000000 in
set_option maxRecDepth 100000 in
/-- case 2: match -/
theorem law_2 {p : Program} {l : Launch} {e : Env} {s : State} {m : MethodId} {below : List Frame} {meth : Method} {c : Code} {dC : Nat → ClassId} {dI : Nat → Nat → Nat} {cI cJ : ClassId} {b : Nat} {xs : Nat → Int32} {A : Nat → Prop} {q1 q2 : Nat} {rx rm : Nat → Nat} {og : Nat → Int32} {H : Heap} {locs : List Loc} {ls : Array Slot} (hx : p.tables.exec = Jvm.exec) (hb : c.code = code) (hr : meth.sig.returnType = ret) (hml : c.maxLocals = 4) (hown : s.vm.findClass RL = some m.cls) (hts : ∀ w ∈ lw_tbl, w.before #[Value.ref b] s = true) (hX : va_X b 6 xs s s.heap) (hbl : b < s.heap.size) (hlocks : meth.locks = false) (hA : ∀ q, s.heap.size ≤ q → A q) (hAz : ∀ q, A q → s.heap.size ≤ q) (hbA : ¬ A b) (hK : va_K (dC, dI) vwCl (ty0 cI cJ) s) (hN : gN s) (hP : va_P (dC, dI) vwCl (WX cI q1 rx ++ WM cI q2 rm og) H) (hD : va_D A (WX cI q1 rx ++ WM cI q2 rm og)) (hS : va_S A s.heap H locs) (hl : lv_has ls 4 [(0, .ref b), (1, .ref q1), (2, .ref q2), (3, .int 0)]) : W p l e room_1 s m #[Value.ref b] below meth c H locs 600000 7302250 (lw_Z below #[Value.ref b] s) (F0 m 274 ls []) := by
  have hP := hP.sub (ws' := [(q1, .inr (11, [.ref (rx 0), .ref (rx 1), .ref (rx 2), .ref (rx 3), .ref (rx 4), .ref (rx 5), .ref (rx 6), .ref (rx 7), .ref (rx 8), .ref (rx 9), .ref (rx 10), .ref (rx 11), .ref (rx 12), .ref (rx 13), .int 1])), ((rx 12), .inr (6, [.ref (rx 56), .ref (rx 57), .ref (rx 10), .int 0, .int (-1)])), ((rx 56), .inr (7, [.ref (rx 58), .ref (rx 59), .int 0, .int 0, .int 0, .int 0, .int 0, .int 0, .int 0])), ((rx 11), .inr (9, [.ref (rx 41), .ref (rx 42), .ref (rx 43), .ref (rx 44), .ref (rx 45), .ref (rx 46), .int 0, .int 0, .int 0, .int 0, .int 0])), ((rx 41), .inr (3, [.ref (rx 47), .ref (rx 48), .ref (rx 49), .ref (rx 50), .ref (rx 51), .ref (rx 52), .ref (rx 53), .ref (rx 54), .ref (rx 55), .int 0, .int 0])), ((rx 0), .inr (1, [.ref (rx 14), .int 0])), ((rx 14), .inl (cI, 1600, .inl (fun _ => 0))), ((rx 9), .inl (cI, 6, .inl (fun _ => 0))), (q2, .inr (12, (o12 rm))), ((rm 1), .inl (cI, 2, .inl (fun _ => 0))), ((rm 4), .inl (cI, 2, .inl (fun _ => 0))), ((rm 10), .inl (cI, 2, .inl (fun _ => 0))), ((rm 12), .inl (cI, 2, .inl (fun _ => 0))), ((rm 14), .inl (cI, 2, .inl (fun _ => 0))), ((rm 15), .inl (cI, 2, .inl (fun _ => 0))), ((rm 27), .inl (cI, 6, .inl (fun _ => 0)))]) [0, 13, 14, 11, 12, 1, 2, 8, 15, 17, 18, 19, 20, 21, 22, 23] rfl
  have hD := hD.sub (ws' := [(q1, .inr (11, [.ref (rx 0), .ref (rx 1), .ref (rx 2), .ref (rx 3), .ref (rx 4), .ref (rx 5), .ref (rx 6), .ref (rx 7), .ref (rx 8), .ref (rx 9), .ref (rx 10), .ref (rx 11), .ref (rx 12), .ref (rx 13), .int 1])), ((rx 12), .inr (6, [.ref (rx 56), .ref (rx 57), .ref (rx 10), .int 0, .int (-1)])), ((rx 56), .inr (7, [.ref (rx 58), .ref (rx 59), .int 0, .int 0, .int 0, .int 0, .int 0, .int 0, .int 0])), ((rx 11), .inr (9, [.ref (rx 41), .ref (rx 42), .ref (rx 43), .ref (rx 44), .ref (rx 45), .ref (rx 46), .int 0, .int 0, .int 0, .int 0, .int 0])), ((rx 41), .inr (3, [.ref (rx 47), .ref (rx 48), .ref (rx 49), .ref (rx 50), .ref (rx 51), .ref (rx 52), .ref (rx 53), .ref (rx 54), .ref (rx 55), .int 0, .int 0])), ((rx 0), .inr (1, [.ref (rx 14), .int 0])), ((rx 14), .inl (cI, 1600, .inl (fun _ => 0))), ((rx 9), .inl (cI, 6, .inl (fun _ => 0))), (q2, .inr (12, (o12 rm))), ((rm 1), .inl (cI, 2, .inl (fun _ => 0))), ((rm 4), .inl (cI, 2, .inl (fun _ => 0))), ((rm 10), .inl (cI, 2, .inl (fun _ => 0))), ((rm 12), .inl (cI, 2, .inl (fun _ => 0))), ((rm 14), .inl (cI, 2, .inl (fun _ => 0))), ((rm 15), .inl (cI, 2, .inl (fun _ => 0))), ((rm 27), .inl (cI, 6, .inl (fun _ => 0)))]) [0, 13, 14, 11, 12, 1, 2, 8, 15, 17, 18, 19, 20, 21, 22, 23] (by decide) rfl
  refine lv_aload_n hx hb dL_law_274 rfl (lv_at hl 1 rfl) ?_
  have hPc := hP.sub (ws' := [(q1, .inr (11, [.ref (rx 0), .ref (rx 1), .ref (rx 2), .ref (rx 3), .ref (rx 4), .ref (rx 5), .ref (rx 6), .ref (rx 7), .ref (rx 8), .ref (rx 9), .ref (rx 10), .ref (rx 11), .ref (rx 12), .ref (rx 13), .int 1])), ((rx 12), .inr (6, [.ref (rx 56), .ref (rx 57), .ref (rx 10), .int 0, .int (-1)])), ((rx 56), .inr (7, [.ref (rx 58), .ref (rx 59), .int 0, .int 0, .int 0, .int 0, .int 0, .int 0, .int 0])), ((rx 11), .inr (9, [.ref (rx 41), .ref (rx 42), .ref (rx 43), .ref (rx 44), .ref (rx 45), .ref (rx 46), .int 0, .int 0, .int 0, .int 0, .int 0])), ((rx 41), .inr (3, [.ref (rx 47), .ref (rx 48), .ref (rx 49), .ref (rx 50), .ref (rx 51), .ref (rx 52), .ref (rx 53), .ref (rx 54), .ref (rx 55), .int 0, .int 0])), ((rx 0), .inr (1, [.ref (rx 14), .int 0])), ((rx 14), .inl (cI, 1600, .inl (fun _ => 0))), ((rx 9), .inl (cI, 6, .inl (fun _ => 0)))]) [0, 1, 2, 3, 4, 5, 6, 7] rfl
  have hDc := hD.sub (ws' := [(q1, .inr (11, [.ref (rx 0), .ref (rx 1), .ref (rx 2), .ref (rx 3), .ref (rx 4), .ref (rx 5), .ref (rx 6), .ref (rx 7), .ref (rx 8), .ref (rx 9), .ref (rx 10), .ref (rx 11), .ref (rx 12), .ref (rx 13), .int 1])), ((rx 12), .inr (6, [.ref (rx 56), .ref (rx 57), .ref (rx 10), .int 0, .int (-1)])), ((rx 56), .inr (7, [.ref (rx 58), .ref (rx 59), .int 0, .int 0, .int 0, .int 0, .int 0, .int 0, .int 0])), ((rx 11), .inr (9, [.ref (rx 41), .ref (rx 42), .ref (rx 43), .ref (rx 44), .ref (rx 45), .ref (rx 46), .int 0, .int 0, .int 0, .int 0, .int 0])), ((rx 41), .inr (3, [.ref (rx 47), .ref (rx 48), .ref (rx 49), .ref (rx 50), .ref (rx 51), .ref (rx 52), .ref (rx 53), .ref (rx 54), .ref (rx 55), .int 0, .int 0])), ((rx 0), .inr (1, [.ref (rx 14), .int 0])), ((rx 14), .inl (cI, 1600, .inl (fun _ => 0))), ((rx 9), .inl (cI, 6, .inl (fun _ => 0)))]) [0, 1, 2, 3, 4, 5, 6, 7] (by decide) rfl
  have hFc := va_free (wc := [(q1, .inr (11, [.ref (rx 0), .ref (rx 1), .ref (rx 2), .ref (rx 3), .ref (rx 4), .ref (rx 5), .ref (rx 6), .ref (rx 7), .ref (rx 8), .ref (rx 9), .ref (rx 10), .ref (rx 11), .ref (rx 12), .ref (rx 13), .int 1])), ((rx 12), .inr (6, [.ref (rx 56), .ref (rx 57), .ref (rx 10), .int 0, .int (-1)])), ((rx 56), .inr (7, [.ref (rx 58), .ref (rx 59), .int 0, .int 0, .int 0, .int 0, .int 0, .int 0, .int 0])), ((rx 11), .inr (9, [.ref (rx 41), .ref (rx 42), .ref (rx 43), .ref (rx 44), .ref (rx 45), .ref (rx 46), .int 0, .int 0, .int 0, .int 0, .int 0])), ((rx 41), .inr (3, [.ref (rx 47), .ref (rx 48), .ref (rx 49), .ref (rx 50), .ref (rx 51), .ref (rx 52), .ref (rx 53), .ref (rx 54), .ref (rx 55), .int 0, .int 0])), ((rx 0), .inr (1, [.ref (rx 14), .int 0])), ((rx 14), .inl (cI, 1600, .inl (fun _ => 0))), ((rx 9), .inl (cI, 6, .inl (fun _ => 0)))]) hD hS hA [0, 1, 2, 3, 4, 5, 6, 7] rfl
  refine va_calli (va_runV (As := []) (rest := []) ⟨hx, hb, hml, hown, hts⟩ (c_X11_match l dC dI cI cJ q1 rx H.size) (cwV 0 hts gL_law_X11_match rfl rfl rfl (by decide +kernel) ⟨Nat.le_of_ble_eq_true rfl, Nat.le_of_ble_eq_true rfl⟩) ⟨mBlind, va_recv hK hPc (ci := 11) (q0 := 0) rfl rfl, mGo hPc hK hDc hN⟩ rfl rfl hl.1 rfl (lv_room (Nat.le_of_ble_eq_true rfl)) dL_law_275 ⟨Nat.le_of_ble_eq_true rfl, Nat.le_of_ble_eq_true rfl⟩) hS (fun q _ h => hFc q h) hFc (fun r_1 u t H1 locs ht hvm hw hB hz1 hk1 hS => ?_)
  obtain rfl : r_1 = (-1) := hw
  obtain ⟨hP, hD⟩ := va_join (wr := [(q2, .inr (12, (o12 rm))), ((rm 1), .inl (cI, 2, .inl (fun _ => 0))), ((rm 4), .inl (cI, 2, .inl (fun _ => 0))), ((rm 10), .inl (cI, 2, .inl (fun _ => 0))), ((rm 12), .inl (cI, 2, .inl (fun _ => 0))), ((rm 14), .inl (cI, 2, .inl (fun _ => 0))), ((rm 15), .inl (cI, 2, .inl (fun _ => 0))), ((rm 27), .inl (cI, 6, .inl (fun _ => 0)))]) (w1 := []) hP hD [0, 1, 2, 3, 4, 5, 6, 7] [8, 9, 10, 11, 12, 13, 14, 15] rfl rfl (by decide) (by decide) hk1 hFc va_P0 va_D0
  generalize H1 = H at hP hS ⊢
  have hP : va_P (dC, dI) vwCl [(q2, .inr (12, (o12 rm))), ((rm 1), .inl (cI, 2, .inl (fun _ => 0))), ((rm 4), .inl (cI, 2, .inl (fun _ => 0))), ((rm 10), .inl (cI, 2, .inl (fun _ => 0))), ((rm 12), .inl (cI, 2, .inl (fun _ => 0))), ((rm 14), .inl (cI, 2, .inl (fun _ => 0))), ((rm 15), .inl (cI, 2, .inl (fun _ => 0))), ((rm 27), .inl (cI, 6, .inl (fun _ => 0)))] H := hP
  have hD : va_D A [(q2, .inr (12, (o12 rm))), ((rm 1), .inl (cI, 2, .inl (fun _ => 0))), ((rm 4), .inl (cI, 2, .inl (fun _ => 0))), ((rm 10), .inl (cI, 2, .inl (fun _ => 0))), ((rm 12), .inl (cI, 2, .inl (fun _ => 0))), ((rm 14), .inl (cI, 2, .inl (fun _ => 0))), ((rm 15), .inl (cI, 2, .inl (fun _ => 0))), ((rm 27), .inl (cI, 6, .inl (fun _ => 0)))] := hD
  refine lv_aload_n hx hb dL_law_278 rfl (lv_at hl 2 rfl) ?_
  have hPc := hP.sub (ws' := [(q2, .inr (12, (o12 rm))), ((rm 1), .inl (cI, 2, .inl (fun _ => 0))), ((rm 4), .inl (cI, 2, .inl (fun _ => 0))), ((rm 10), .inl (cI, 2, .inl (fun _ => 0))), ((rm 12), .inl (cI, 2, .inl (fun _ => 0))), ((rm 14), .inl (cI, 2, .inl (fun _ => 0))), ((rm 15), .inl (cI, 2, .inl (fun _ => 0))), ((rm 27), .inl (cI, 6, .inl (fun _ => 0)))]) [0, 1, 2, 3, 4, 5, 6, 7] rfl
  have hDc := hD.sub (ws' := [(q2, .inr (12, (o12 rm))), ((rm 1), .inl (cI, 2, .inl (fun _ => 0))), ((rm 4), .inl (cI, 2, .inl (fun _ => 0))), ((rm 10), .inl (cI, 2, .inl (fun _ => 0))), ((rm 12), .inl (cI, 2, .inl (fun _ => 0))), ((rm 14), .inl (cI, 2, .inl (fun _ => 0))), ((rm 15), .inl (cI, 2, .inl (fun _ => 0))), ((rm 27), .inl (cI, 6, .inl (fun _ => 0)))]) [0, 1, 2, 3, 4, 5, 6, 7] (by decide) rfl
  have hFc := va_free (wc := [(q2, .inr (12, (o12 rm))), ((rm 1), .inl (cI, 2, .inl (fun _ => 0))), ((rm 4), .inl (cI, 2, .inl (fun _ => 0))), ((rm 10), .inl (cI, 2, .inl (fun _ => 0))), ((rm 12), .inl (cI, 2, .inl (fun _ => 0))), ((rm 14), .inl (cI, 2, .inl (fun _ => 0))), ((rm 15), .inl (cI, 2, .inl (fun _ => 0))), ((rm 27), .inl (cI, 6, .inl (fun _ => 0)))]) hD hS hA [0, 1, 2, 3, 4, 5, 6, 7] rfl
  refine va_calli (va_runV (As := []) (rest := [.int (-1)]) ⟨hx, hb, hml, hown, hts⟩ (c_X12_match l dC dI cI cJ q2 rm H.size) (cwV 0 hts gL_law_X12_match rfl rfl rfl (by decide +kernel) ⟨Nat.le_of_ble_eq_true rfl, Nat.le_of_ble_eq_true rfl⟩) ⟨mBlind, va_recv hK hPc (ci := 12) (q0 := 0) rfl rfl, mGo hPc hK hDc hN⟩ rfl rfl hl.1 rfl (lv_room (Nat.le_of_ble_eq_true rfl)) dL_law_279 ⟨Nat.le_of_ble_eq_true rfl, Nat.le_of_ble_eq_true rfl⟩) hS (fun q _ h => hFc q h) hFc (fun r_2 u t H1 locs ht hvm hw hB hz1 hk1 hS => ?_)
  obtain rfl : r_2 = (-1) := hw
  obtain ⟨hP, hD⟩ := va_join (wr := []) (w1 := []) hP hD [0, 1, 2, 3, 4, 5, 6, 7] [] rfl rfl (by decide) (by decide) hk1 hFc va_P0 va_D0
  generalize H1 = H at hP hS ⊢
  have hP : va_P (dC, dI) vwCl [] H := hP
  have hD : va_D A [] := hD
  refine lv_icmp_eq (tgt := 1093) hx hb dL_law_282 (by decide) (fun _ => ?_) (fun c => absurd (by decide) c)
  exact law_tail hx hb hr hml hX hbl hlocks hAz hbA hS (lv_sub hl [0, 3] rfl)
set_option maxHeartbeats 4000000 in
set_option maxRecDepth 100000 in
/-- case 3: fault -/
theorem law_3 {p : Program} {l : Launch} {e : Env} {s : State} {m : MethodId} {below : List Frame} {meth : Method} {c : Code} {dC : Nat → ClassId} {dI : Nat → Nat → Nat} {cI cJ : ClassId} {b : Nat} {xs : Nat → Int32} {A : Nat → Prop} {q1 q2 : Nat} {rx rm : Nat → Nat} {og : Nat → Int32} {H : Heap} {locs : List Loc} {ls : Array Slot} (hx : p.tables.exec = Jvm.exec) (hb : c.code = code) (hr : meth.sig.returnType = ret) (hml : c.maxLocals = 4) (hown : s.vm.findClass RL = some m.cls) (hts : ∀ w ∈ lw_tbl, w.before #[Value.ref b] s = true) (hX : va_X b 6 xs s s.heap) (hbl : b < s.heap.size) (hlocks : meth.locks = false) (hA : ∀ q, s.heap.size ≤ q → A q) (hAz : ∀ q, A q → s.heap.size ≤ q) (hbA : ¬ A b) (hK : va_K (dC, dI) vwCl (ty0 cI cJ) s) (hN : gN s) (hP : va_P (dC, dI) vwCl (WX cI q1 rx ++ WM cI q2 rm og) H) (hD : va_D A (WX cI q1 rx ++ WM cI q2 rm og)) (hS : va_S A s.heap H locs) (hl : lv_has ls 4 [(0, .ref b), (1, .ref q1), (2, .ref q2), (3, .int 0)]) : W p l e room_1 s m #[Value.ref b] below meth c H locs 600000 7302250 (lw_Z below #[Value.ref b] s) (F0 m 287 ls []) := by
  have hP := hP.sub (ws' := [(q1, .inr (11, [.ref (rx 0), .ref (rx 1), .ref (rx 2), .ref (rx 3), .ref (rx 4), .ref (rx 5), .ref (rx 6), .ref (rx 7), .ref (rx 8), .ref (rx 9), .ref (rx 10), .ref (rx 11), .ref (rx 12), .ref (rx 13), .int 1])), ((rx 12), .inr (6, [.ref (rx 56), .ref (rx 57), .ref (rx 10), .int 0, .int (-1)])), (q2, .inr (12, (o12 rm)))]) [0, 13, 15] rfl
  have hD := hD.sub (ws' := [(q1, .inr (11, [.ref (rx 0), .ref (rx 1), .ref (rx 2), .ref (rx 3), .ref (rx 4), .ref (rx 5), .ref (rx 6), .ref (rx 7), .ref (rx 8), .ref (rx 9), .ref (rx 10), .ref (rx 11), .ref (rx 12), .ref (rx 13), .int 1])), ((rx 12), .inr (6, [.ref (rx 56), .ref (rx 57), .ref (rx 10), .int 0, .int (-1)])), (q2, .inr (12, (o12 rm)))]) [0, 13, 15] (by decide) rfl
  refine lv_aload_n hx hb dL_law_287 rfl (lv_at hl 1 rfl) ?_
  refine lv_aload_n hx hb dL_law_288 rfl (lv_at hl 0 rfl) ?_
  refine lv_iload_n hx hb dL_law_289 rfl (lv_at hl 3 rfl) ?_
  refine lv_iconst (v := 1) hx hb dL_law_290 (by decide) ?_
  refine k_iadd (v := 1) hx hb (by decide) dL_law_291 ?_
  refine va_sld hx hb hX hbl hbA hS (vpd (by decide)) dL_law_292 ?_
  have hPc := hP.sub (ws' := [(q1, .inr (11, [.ref (rx 0), .ref (rx 1), .ref (rx 2), .ref (rx 3), .ref (rx 4), .ref (rx 5), .ref (rx 6), .ref (rx 7), .ref (rx 8), .ref (rx 9), .ref (rx 10), .ref (rx 11), .ref (rx 12), .ref (rx 13), .int 1])), ((rx 12), .inr (6, [.ref (rx 56), .ref (rx 57), .ref (rx 10), .int 0, .int (-1)]))]) [0, 1] rfl
  have hDc := hD.sub (ws' := [(q1, .inr (11, [.ref (rx 0), .ref (rx 1), .ref (rx 2), .ref (rx 3), .ref (rx 4), .ref (rx 5), .ref (rx 6), .ref (rx 7), .ref (rx 8), .ref (rx 9), .ref (rx 10), .ref (rx 11), .ref (rx 12), .ref (rx 13), .int 1])), ((rx 12), .inr (6, [.ref (rx 56), .ref (rx 57), .ref (rx 10), .int 0, .int (-1)]))]) [0, 1] (by decide) rfl
  have hFc := va_free (wc := [(q1, .inr (11, [.ref (rx 0), .ref (rx 1), .ref (rx 2), .ref (rx 3), .ref (rx 4), .ref (rx 5), .ref (rx 6), .ref (rx 7), .ref (rx 8), .ref (rx 9), .ref (rx 10), .ref (rx 11), .ref (rx 12), .ref (rx 13), .int 1])), ((rx 12), .inr (6, [.ref (rx 56), .ref (rx 57), .ref (rx 10), .int 0, .int (-1)]))]) hD hS hA [0, 1] rfl
  refine va_calli (va_runV (As := [.int (xs (1 : Int32).toNatClampNeg)]) (rest := []) ⟨hx, hb, hml, hown, hts⟩ (c_X11_fault l dC dI cI cJ q1 rx (xs (1 : Int32).toNatClampNeg) H.size) (cwV 1 hts gL_law_X11_fault rfl rfl rfl (by decide +kernel) ⟨Nat.le_of_ble_eq_true rfl, Nat.le_of_ble_eq_true rfl⟩) ⟨mBlind, va_recv hK hPc (ci := 11) (q0 := 0) rfl rfl, mGo hPc hK hDc hN⟩ rfl rfl hl.1 rfl (lv_room (Nat.le_of_ble_eq_true rfl)) dL_law_293 ⟨Nat.le_of_ble_eq_true rfl, Nat.le_of_ble_eq_true rfl⟩) hS (fun q _ h => hFc q h) hFc (fun r_1 u t H1 locs ht hvm hw hB hz1 hk1 hS => ?_)
  have hw_x := hw
  obtain ⟨hP, hD⟩ := va_join (wr := [(q2, .inr (12, (o12 rm)))]) (w1 := []) hP hD [0, 1] [2] rfl rfl (by decide) (by decide) hk1 hFc va_P0 va_D0
  generalize H1 = H at hP hS ⊢
  have hP : va_P (dC, dI) vwCl [(q2, .inr (12, (o12 rm)))] H := hP
  have hD : va_D A [(q2, .inr (12, (o12 rm)))] := hD
  refine lv_aload_n hx hb dL_law_296 rfl (lv_at hl 2 rfl) ?_
  refine lv_aload_n hx hb dL_law_297 rfl (lv_at hl 0 rfl) ?_
  refine lv_iload_n hx hb dL_law_298 rfl (lv_at hl 3 rfl) ?_
  refine lv_iconst (v := 1) hx hb dL_law_299 (by decide) ?_
  refine k_iadd (v := 1) hx hb (by decide) dL_law_300 ?_
  refine va_sld hx hb hX hbl hbA hS (vpd (by decide)) dL_law_301 ?_
  have hPc := hP.sub (ws' := [(q2, .inr (12, (o12 rm)))]) [0] rfl
  have hDc := hD.sub (ws' := [(q2, .inr (12, (o12 rm)))]) [0] (by decide) rfl
  have hFc := va_free (wc := [(q2, .inr (12, (o12 rm)))]) hD hS hA [0] rfl
  refine va_calli (va_runV (As := [.int (xs (1 : Int32).toNatClampNeg)]) (rest := [.int r_1]) ⟨hx, hb, hml, hown, hts⟩ (c_X12_fault l dC dI cI cJ q2 rm (xs (1 : Int32).toNatClampNeg) H.size) (cwV 1 hts gL_law_X12_fault rfl rfl rfl (by decide +kernel) ⟨Nat.le_of_ble_eq_true rfl, Nat.le_of_ble_eq_true rfl⟩) ⟨mBlind, va_recv hK hPc (ci := 12) (q0 := 0) rfl rfl, mGo hPc hK hDc hN⟩ rfl rfl hl.1 rfl (lv_room (Nat.le_of_ble_eq_true rfl)) dL_law_302 ⟨Nat.le_of_ble_eq_true rfl, Nat.le_of_ble_eq_true rfl⟩) hS (fun q _ h => hFc q h) hFc (fun r_2 u t H1 locs ht hvm hw hB hz1 hk1 hS => ?_)
  have hw_m := hw
  obtain ⟨hP, hD⟩ := va_join (wr := []) (w1 := []) hP hD [0] [] rfl rfl (by decide) (by decide) hk1 hFc va_P0 va_D0
  generalize H1 = H at hP hS ⊢
  have hP : va_P (dC, dI) vwCl [] H := hP
  have hD : va_D A [] := hD
  refine lv_icmp_eq (tgt := 1093) hx hb dL_law_305 (by decide) (fun _ => ?_) (fun c => absurd (hw_x.trans hw_m.symm) c)
  exact law_tail hx hb hr hml hX hbl hlocks hAz hbA hS (lv_sub hl [0, 3] rfl)
set_option maxHeartbeats 4000000 in
set_option maxRecDepth 100000 in
/-- case 4: has -/
theorem law_4 {p : Program} {l : Launch} {e : Env} {s : State} {m : MethodId} {below : List Frame} {meth : Method} {c : Code} {dC : Nat → ClassId} {dI : Nat → Nat → Nat} {cI cJ : ClassId} {b : Nat} {xs : Nat → Int32} {A : Nat → Prop} {q1 q2 : Nat} {rx rm : Nat → Nat} {og : Nat → Int32} {H : Heap} {locs : List Loc} {ls : Array Slot} (hx : p.tables.exec = Jvm.exec) (hb : c.code = code) (hr : meth.sig.returnType = ret) (hml : c.maxLocals = 4) (hown : s.vm.findClass RL = some m.cls) (hts : ∀ w ∈ lw_tbl, w.before #[Value.ref b] s = true) (hX : va_X b 6 xs s s.heap) (hbl : b < s.heap.size) (hlocks : meth.locks = false) (hA : ∀ q, s.heap.size ≤ q → A q) (hAz : ∀ q, A q → s.heap.size ≤ q) (hbA : ¬ A b) (hK : va_K (dC, dI) vwCl (ty0 cI cJ) s) (hN : gN s) (hP : va_P (dC, dI) vwCl (WX cI q1 rx ++ WM cI q2 rm og) H) (hD : va_D A (WX cI q1 rx ++ WM cI q2 rm og)) (hS : va_S A s.heap H locs) (hl : lv_has ls 4 [(0, .ref b), (1, .ref q1), (2, .ref q2), (3, .int 0)]) : W p l e room_1 s m #[Value.ref b] below meth c H locs 600000 7302250 (lw_Z below #[Value.ref b] s) (F0 m 310 ls []) := by
  have hP := hP.sub (ws' := [(q1, .inr (11, [.ref (rx 0), .ref (rx 1), .ref (rx 2), .ref (rx 3), .ref (rx 4), .ref (rx 5), .ref (rx 6), .ref (rx 7), .ref (rx 8), .ref (rx 9), .ref (rx 10), .ref (rx 11), .ref (rx 12), .ref (rx 13), .int 1])), ((rx 10), .inr (9, [.ref (rx 26), .ref (rx 27), .ref (rx 28), .ref (rx 29), .ref (rx 30), .ref (rx 31), .int 0, .int 0, .int 0, .int 0, .int 0])), ((rx 26), .inr (3, [.ref (rx 32), .ref (rx 33), .ref (rx 34), .ref (rx 35), .ref (rx 36), .ref (rx 37), .ref (rx 38), .ref (rx 39), .ref (rx 40), .int 0, .int 0])), ((rx 5), .inr (5, [.ref (rx 16), .int 0, .int 0, .int 0])), ((rx 7), .inr (0, [.ref (rx 17), .ref (rx 18), .ref (rx 19), .ref (rx 20), .ref (rx 21), .int 0, .int 0, .int 0])), ((rx 8), .inr (8, [.ref (rx 22), .ref (rx 23), .int 0, .ref (rx 24), .int 0, .ref (rx 25)])), (q2, .inr (12, (o12 rm))), ((rm 1), .inl (cI, 2, .inl (fun _ => 0))), ((rm 4), .inl (cI, 2, .inl (fun _ => 0))), ((rm 10), .inl (cI, 2, .inl (fun _ => 0))), ((rm 34), .inl (cI, 22, .inl (fun _ => 0))), ((rm 36), .inl (cI, 22, .inl (fun _ => 0))), ((rm 37), .inl (cI, 22, .inl (fun _ => 0))), ((rm 38), .inl (cI, 22, .inl (fun _ => 0)))]) [0, 9, 10, 5, 6, 7, 15, 17, 18, 19, 24, 26, 27, 28] rfl
  have hD := hD.sub (ws' := [(q1, .inr (11, [.ref (rx 0), .ref (rx 1), .ref (rx 2), .ref (rx 3), .ref (rx 4), .ref (rx 5), .ref (rx 6), .ref (rx 7), .ref (rx 8), .ref (rx 9), .ref (rx 10), .ref (rx 11), .ref (rx 12), .ref (rx 13), .int 1])), ((rx 10), .inr (9, [.ref (rx 26), .ref (rx 27), .ref (rx 28), .ref (rx 29), .ref (rx 30), .ref (rx 31), .int 0, .int 0, .int 0, .int 0, .int 0])), ((rx 26), .inr (3, [.ref (rx 32), .ref (rx 33), .ref (rx 34), .ref (rx 35), .ref (rx 36), .ref (rx 37), .ref (rx 38), .ref (rx 39), .ref (rx 40), .int 0, .int 0])), ((rx 5), .inr (5, [.ref (rx 16), .int 0, .int 0, .int 0])), ((rx 7), .inr (0, [.ref (rx 17), .ref (rx 18), .ref (rx 19), .ref (rx 20), .ref (rx 21), .int 0, .int 0, .int 0])), ((rx 8), .inr (8, [.ref (rx 22), .ref (rx 23), .int 0, .ref (rx 24), .int 0, .ref (rx 25)])), (q2, .inr (12, (o12 rm))), ((rm 1), .inl (cI, 2, .inl (fun _ => 0))), ((rm 4), .inl (cI, 2, .inl (fun _ => 0))), ((rm 10), .inl (cI, 2, .inl (fun _ => 0))), ((rm 34), .inl (cI, 22, .inl (fun _ => 0))), ((rm 36), .inl (cI, 22, .inl (fun _ => 0))), ((rm 37), .inl (cI, 22, .inl (fun _ => 0))), ((rm 38), .inl (cI, 22, .inl (fun _ => 0)))]) [0, 9, 10, 5, 6, 7, 15, 17, 18, 19, 24, 26, 27, 28] (by decide) rfl
  refine lv_aload_n hx hb dL_law_310 rfl (lv_at hl 1 rfl) ?_
  refine lv_aload_n hx hb dL_law_311 rfl (lv_at hl 0 rfl) ?_
  refine lv_iload_n hx hb dL_law_312 rfl (lv_at hl 3 rfl) ?_
  refine lv_iconst (v := 1) hx hb dL_law_313 (by decide) ?_
  refine k_iadd (v := 1) hx hb (by decide) dL_law_314 ?_
  refine va_sld hx hb hX hbl hbA hS (vpd (by decide)) dL_law_315 ?_
  have hPc := hP.sub (ws' := [(q1, .inr (11, [.ref (rx 0), .ref (rx 1), .ref (rx 2), .ref (rx 3), .ref (rx 4), .ref (rx 5), .ref (rx 6), .ref (rx 7), .ref (rx 8), .ref (rx 9), .ref (rx 10), .ref (rx 11), .ref (rx 12), .ref (rx 13), .int 1])), ((rx 10), .inr (9, [.ref (rx 26), .ref (rx 27), .ref (rx 28), .ref (rx 29), .ref (rx 30), .ref (rx 31), .int 0, .int 0, .int 0, .int 0, .int 0])), ((rx 26), .inr (3, [.ref (rx 32), .ref (rx 33), .ref (rx 34), .ref (rx 35), .ref (rx 36), .ref (rx 37), .ref (rx 38), .ref (rx 39), .ref (rx 40), .int 0, .int 0])), ((rx 5), .inr (5, [.ref (rx 16), .int 0, .int 0, .int 0])), ((rx 7), .inr (0, [.ref (rx 17), .ref (rx 18), .ref (rx 19), .ref (rx 20), .ref (rx 21), .int 0, .int 0, .int 0])), ((rx 8), .inr (8, [.ref (rx 22), .ref (rx 23), .int 0, .ref (rx 24), .int 0, .ref (rx 25)]))]) [0, 1, 2, 3, 4, 5] rfl
  have hDc := hD.sub (ws' := [(q1, .inr (11, [.ref (rx 0), .ref (rx 1), .ref (rx 2), .ref (rx 3), .ref (rx 4), .ref (rx 5), .ref (rx 6), .ref (rx 7), .ref (rx 8), .ref (rx 9), .ref (rx 10), .ref (rx 11), .ref (rx 12), .ref (rx 13), .int 1])), ((rx 10), .inr (9, [.ref (rx 26), .ref (rx 27), .ref (rx 28), .ref (rx 29), .ref (rx 30), .ref (rx 31), .int 0, .int 0, .int 0, .int 0, .int 0])), ((rx 26), .inr (3, [.ref (rx 32), .ref (rx 33), .ref (rx 34), .ref (rx 35), .ref (rx 36), .ref (rx 37), .ref (rx 38), .ref (rx 39), .ref (rx 40), .int 0, .int 0])), ((rx 5), .inr (5, [.ref (rx 16), .int 0, .int 0, .int 0])), ((rx 7), .inr (0, [.ref (rx 17), .ref (rx 18), .ref (rx 19), .ref (rx 20), .ref (rx 21), .int 0, .int 0, .int 0])), ((rx 8), .inr (8, [.ref (rx 22), .ref (rx 23), .int 0, .ref (rx 24), .int 0, .ref (rx 25)]))]) [0, 1, 2, 3, 4, 5] (by decide) rfl
  have hFc := va_free (wc := [(q1, .inr (11, [.ref (rx 0), .ref (rx 1), .ref (rx 2), .ref (rx 3), .ref (rx 4), .ref (rx 5), .ref (rx 6), .ref (rx 7), .ref (rx 8), .ref (rx 9), .ref (rx 10), .ref (rx 11), .ref (rx 12), .ref (rx 13), .int 1])), ((rx 10), .inr (9, [.ref (rx 26), .ref (rx 27), .ref (rx 28), .ref (rx 29), .ref (rx 30), .ref (rx 31), .int 0, .int 0, .int 0, .int 0, .int 0])), ((rx 26), .inr (3, [.ref (rx 32), .ref (rx 33), .ref (rx 34), .ref (rx 35), .ref (rx 36), .ref (rx 37), .ref (rx 38), .ref (rx 39), .ref (rx 40), .int 0, .int 0])), ((rx 5), .inr (5, [.ref (rx 16), .int 0, .int 0, .int 0])), ((rx 7), .inr (0, [.ref (rx 17), .ref (rx 18), .ref (rx 19), .ref (rx 20), .ref (rx 21), .int 0, .int 0, .int 0])), ((rx 8), .inr (8, [.ref (rx 22), .ref (rx 23), .int 0, .ref (rx 24), .int 0, .ref (rx 25)]))]) hD hS hA [0, 1, 2, 3, 4, 5] rfl
  refine va_calli (va_runV (As := [.int (xs (1 : Int32).toNatClampNeg)]) (rest := []) ⟨hx, hb, hml, hown, hts⟩ (c_X11_has l dC dI cI cJ q1 rx (xs (1 : Int32).toNatClampNeg) H.size) (cwV 1 hts gL_law_X11_has rfl rfl rfl (by decide +kernel) ⟨Nat.le_of_ble_eq_true rfl, Nat.le_of_ble_eq_true rfl⟩) ⟨mBlind, va_recv hK hPc (ci := 11) (q0 := 0) rfl rfl, mGo hPc hK hDc hN⟩ rfl rfl hl.1 rfl (lv_room (Nat.le_of_ble_eq_true rfl)) dL_law_316 ⟨Nat.le_of_ble_eq_true rfl, Nat.le_of_ble_eq_true rfl⟩) hS (fun q _ h => hFc q h) hFc (fun r_1 u t H1 locs ht hvm hw hB hz1 hk1 hS => ?_)
  have hw_x := hw
  obtain ⟨hP, hD⟩ := va_join (wr := [(q2, .inr (12, (o12 rm))), ((rm 1), .inl (cI, 2, .inl (fun _ => 0))), ((rm 4), .inl (cI, 2, .inl (fun _ => 0))), ((rm 10), .inl (cI, 2, .inl (fun _ => 0))), ((rm 34), .inl (cI, 22, .inl (fun _ => 0))), ((rm 36), .inl (cI, 22, .inl (fun _ => 0))), ((rm 37), .inl (cI, 22, .inl (fun _ => 0))), ((rm 38), .inl (cI, 22, .inl (fun _ => 0)))]) (w1 := []) hP hD [0, 1, 2, 3, 4, 5] [6, 7, 8, 9, 10, 11, 12, 13] rfl rfl (by decide) (by decide) hk1 hFc va_P0 va_D0
  generalize H1 = H at hP hS ⊢
  have hP : va_P (dC, dI) vwCl [(q2, .inr (12, (o12 rm))), ((rm 1), .inl (cI, 2, .inl (fun _ => 0))), ((rm 4), .inl (cI, 2, .inl (fun _ => 0))), ((rm 10), .inl (cI, 2, .inl (fun _ => 0))), ((rm 34), .inl (cI, 22, .inl (fun _ => 0))), ((rm 36), .inl (cI, 22, .inl (fun _ => 0))), ((rm 37), .inl (cI, 22, .inl (fun _ => 0))), ((rm 38), .inl (cI, 22, .inl (fun _ => 0)))] H := hP
  have hD : va_D A [(q2, .inr (12, (o12 rm))), ((rm 1), .inl (cI, 2, .inl (fun _ => 0))), ((rm 4), .inl (cI, 2, .inl (fun _ => 0))), ((rm 10), .inl (cI, 2, .inl (fun _ => 0))), ((rm 34), .inl (cI, 22, .inl (fun _ => 0))), ((rm 36), .inl (cI, 22, .inl (fun _ => 0))), ((rm 37), .inl (cI, 22, .inl (fun _ => 0))), ((rm 38), .inl (cI, 22, .inl (fun _ => 0)))] := hD
  refine lv_aload_n hx hb dL_law_319 rfl (lv_at hl 2 rfl) ?_
  refine lv_aload_n hx hb dL_law_320 rfl (lv_at hl 0 rfl) ?_
  refine lv_iload_n hx hb dL_law_321 rfl (lv_at hl 3 rfl) ?_
  refine lv_iconst (v := 1) hx hb dL_law_322 (by decide) ?_
  refine k_iadd (v := 1) hx hb (by decide) dL_law_323 ?_
  refine va_sld hx hb hX hbl hbA hS (vpd (by decide)) dL_law_324 ?_
  have hPc := hP.sub (ws' := [(q2, .inr (12, (o12 rm))), ((rm 1), .inl (cI, 2, .inl (fun _ => 0))), ((rm 4), .inl (cI, 2, .inl (fun _ => 0))), ((rm 10), .inl (cI, 2, .inl (fun _ => 0))), ((rm 34), .inl (cI, 22, .inl (fun _ => 0))), ((rm 36), .inl (cI, 22, .inl (fun _ => 0))), ((rm 37), .inl (cI, 22, .inl (fun _ => 0))), ((rm 38), .inl (cI, 22, .inl (fun _ => 0)))]) [0, 1, 2, 3, 4, 5, 6, 7] rfl
  have hDc := hD.sub (ws' := [(q2, .inr (12, (o12 rm))), ((rm 1), .inl (cI, 2, .inl (fun _ => 0))), ((rm 4), .inl (cI, 2, .inl (fun _ => 0))), ((rm 10), .inl (cI, 2, .inl (fun _ => 0))), ((rm 34), .inl (cI, 22, .inl (fun _ => 0))), ((rm 36), .inl (cI, 22, .inl (fun _ => 0))), ((rm 37), .inl (cI, 22, .inl (fun _ => 0))), ((rm 38), .inl (cI, 22, .inl (fun _ => 0)))]) [0, 1, 2, 3, 4, 5, 6, 7] (by decide) rfl
  have hFc := va_free (wc := [(q2, .inr (12, (o12 rm))), ((rm 1), .inl (cI, 2, .inl (fun _ => 0))), ((rm 4), .inl (cI, 2, .inl (fun _ => 0))), ((rm 10), .inl (cI, 2, .inl (fun _ => 0))), ((rm 34), .inl (cI, 22, .inl (fun _ => 0))), ((rm 36), .inl (cI, 22, .inl (fun _ => 0))), ((rm 37), .inl (cI, 22, .inl (fun _ => 0))), ((rm 38), .inl (cI, 22, .inl (fun _ => 0)))]) hD hS hA [0, 1, 2, 3, 4, 5, 6, 7] rfl
  refine va_calli (va_runV (As := [.int (xs (1 : Int32).toNatClampNeg)]) (rest := [.int r_1]) ⟨hx, hb, hml, hown, hts⟩ (c_X12_has l dC dI cI cJ q2 rm (xs (1 : Int32).toNatClampNeg) H.size) (cwV 1 hts gL_law_X12_has rfl rfl rfl (by decide +kernel) ⟨Nat.le_of_ble_eq_true rfl, Nat.le_of_ble_eq_true rfl⟩) ⟨mBlind, va_recv hK hPc (ci := 12) (q0 := 0) rfl rfl, mGo hPc hK hDc hN⟩ rfl rfl hl.1 rfl (lv_room (Nat.le_of_ble_eq_true rfl)) dL_law_325 ⟨Nat.le_of_ble_eq_true rfl, Nat.le_of_ble_eq_true rfl⟩) hS (fun q _ h => hFc q h) hFc (fun r_2 u t H1 locs ht hvm hw hB hz1 hk1 hS => ?_)
  have hw_m := hw
  obtain ⟨hP, hD⟩ := va_join (wr := []) (w1 := []) hP hD [0, 1, 2, 3, 4, 5, 6, 7] [] rfl rfl (by decide) (by decide) hk1 hFc va_P0 va_D0
  generalize H1 = H at hP hS ⊢
  have hP : va_P (dC, dI) vwCl [] H := hP
  have hD : va_D A [] := hD
  refine lv_icmp_eq (tgt := 1093) hx hb dL_law_328 (by decide) (fun _ => ?_) (fun c => absurd (hw_x.trans hw_m.symm) c)
  exact law_tail hx hb hr hml hX hbl hlocks hAz hbA hS (lv_sub hl [0, 3] rfl)
set_option maxHeartbeats 4000000 in
set_option maxRecDepth 100000 in
/-- case 5: letter -/
theorem law_5 {p : Program} {l : Launch} {e : Env} {s : State} {m : MethodId} {below : List Frame} {meth : Method} {c : Code} {dC : Nat → ClassId} {dI : Nat → Nat → Nat} {cI cJ : ClassId} {b : Nat} {xs : Nat → Int32} {A : Nat → Prop} {q1 q2 : Nat} {rx rm : Nat → Nat} {og : Nat → Int32} {H : Heap} {locs : List Loc} {ls : Array Slot} (hx : p.tables.exec = Jvm.exec) (hb : c.code = code) (hr : meth.sig.returnType = ret) (hml : c.maxLocals = 4) (hown : s.vm.findClass RL = some m.cls) (hts : ∀ w ∈ lw_tbl, w.before #[Value.ref b] s = true) (hX : va_X b 6 xs s s.heap) (hbl : b < s.heap.size) (hlocks : meth.locks = false) (hA : ∀ q, s.heap.size ≤ q → A q) (hAz : ∀ q, A q → s.heap.size ≤ q) (hbA : ¬ A b) (hK : va_K (dC, dI) vwCl (ty0 cI cJ) s) (hN : gN s) (hP : va_P (dC, dI) vwCl (WX cI q1 rx ++ WM cI q2 rm og) H) (hD : va_D A (WX cI q1 rx ++ WM cI q2 rm og)) (hS : va_S A s.heap H locs) (hl : lv_has ls 4 [(0, .ref b), (1, .ref q1), (2, .ref q2), (3, .int 0)]) : W p l e room_1 s m #[Value.ref b] below meth c H locs 600000 7302250 (lw_Z below #[Value.ref b] s) (F0 m 333 ls []) := by
  have hP := hP.sub (ws' := [(q1, .inr (11, [.ref (rx 0), .ref (rx 1), .ref (rx 2), .ref (rx 3), .ref (rx 4), .ref (rx 5), .ref (rx 6), .ref (rx 7), .ref (rx 8), .ref (rx 9), .ref (rx 10), .ref (rx 11), .ref (rx 12), .ref (rx 13), .int 1])), ((rx 10), .inr (9, [.ref (rx 26), .ref (rx 27), .ref (rx 28), .ref (rx 29), .ref (rx 30), .ref (rx 31), .int 0, .int 0, .int 0, .int 0, .int 0])), ((rx 26), .inr (3, [.ref (rx 32), .ref (rx 33), .ref (rx 34), .ref (rx 35), .ref (rx 36), .ref (rx 37), .ref (rx 38), .ref (rx 39), .ref (rx 40), .int 0, .int 0])), (q2, .inr (12, (o12 rm))), ((rm 1), .inl (cI, 2, .inl (fun _ => 0))), ((rm 4), .inl (cI, 2, .inl (fun _ => 0)))]) [0, 9, 10, 15, 17, 18] rfl
  have hD := hD.sub (ws' := [(q1, .inr (11, [.ref (rx 0), .ref (rx 1), .ref (rx 2), .ref (rx 3), .ref (rx 4), .ref (rx 5), .ref (rx 6), .ref (rx 7), .ref (rx 8), .ref (rx 9), .ref (rx 10), .ref (rx 11), .ref (rx 12), .ref (rx 13), .int 1])), ((rx 10), .inr (9, [.ref (rx 26), .ref (rx 27), .ref (rx 28), .ref (rx 29), .ref (rx 30), .ref (rx 31), .int 0, .int 0, .int 0, .int 0, .int 0])), ((rx 26), .inr (3, [.ref (rx 32), .ref (rx 33), .ref (rx 34), .ref (rx 35), .ref (rx 36), .ref (rx 37), .ref (rx 38), .ref (rx 39), .ref (rx 40), .int 0, .int 0])), (q2, .inr (12, (o12 rm))), ((rm 1), .inl (cI, 2, .inl (fun _ => 0))), ((rm 4), .inl (cI, 2, .inl (fun _ => 0)))]) [0, 9, 10, 15, 17, 18] (by decide) rfl
  refine lv_aload_n hx hb dL_law_333 rfl (lv_at hl 1 rfl) ?_
  refine lv_aload_n hx hb dL_law_334 rfl (lv_at hl 0 rfl) ?_
  refine lv_iload_n hx hb dL_law_335 rfl (lv_at hl 3 rfl) ?_
  refine lv_iconst (v := 1) hx hb dL_law_336 (by decide) ?_
  refine k_iadd (v := 1) hx hb (by decide) dL_law_337 ?_
  refine va_sld hx hb hX hbl hbA hS (vpd (by decide)) dL_law_338 ?_
  refine lv_aload_n hx hb dL_law_339 rfl (lv_at hl 0 rfl) ?_
  refine lv_iload_n hx hb dL_law_340 rfl (lv_at hl 3 rfl) ?_
  refine lv_iconst (v := 2) hx hb dL_law_341 (by decide) ?_
  refine k_iadd (v := 2) hx hb (by decide) dL_law_342 ?_
  refine va_sld hx hb hX hbl hbA hS (vpd (by decide)) dL_law_343 ?_
  refine lv_aload_n hx hb dL_law_344 rfl (lv_at hl 0 rfl) ?_
  refine lv_iload_n hx hb dL_law_345 rfl (lv_at hl 3 rfl) ?_
  refine lv_iconst (v := 3) hx hb dL_law_346 (by decide) ?_
  refine k_iadd (v := 3) hx hb (by decide) dL_law_347 ?_
  refine va_sld hx hb hX hbl hbA hS (vpd (by decide)) dL_law_348 ?_
  have hPc := hP.sub (ws' := [(q1, .inr (11, [.ref (rx 0), .ref (rx 1), .ref (rx 2), .ref (rx 3), .ref (rx 4), .ref (rx 5), .ref (rx 6), .ref (rx 7), .ref (rx 8), .ref (rx 9), .ref (rx 10), .ref (rx 11), .ref (rx 12), .ref (rx 13), .int 1])), ((rx 10), .inr (9, [.ref (rx 26), .ref (rx 27), .ref (rx 28), .ref (rx 29), .ref (rx 30), .ref (rx 31), .int 0, .int 0, .int 0, .int 0, .int 0])), ((rx 26), .inr (3, [.ref (rx 32), .ref (rx 33), .ref (rx 34), .ref (rx 35), .ref (rx 36), .ref (rx 37), .ref (rx 38), .ref (rx 39), .ref (rx 40), .int 0, .int 0]))]) [0, 1, 2] rfl
  have hDc := hD.sub (ws' := [(q1, .inr (11, [.ref (rx 0), .ref (rx 1), .ref (rx 2), .ref (rx 3), .ref (rx 4), .ref (rx 5), .ref (rx 6), .ref (rx 7), .ref (rx 8), .ref (rx 9), .ref (rx 10), .ref (rx 11), .ref (rx 12), .ref (rx 13), .int 1])), ((rx 10), .inr (9, [.ref (rx 26), .ref (rx 27), .ref (rx 28), .ref (rx 29), .ref (rx 30), .ref (rx 31), .int 0, .int 0, .int 0, .int 0, .int 0])), ((rx 26), .inr (3, [.ref (rx 32), .ref (rx 33), .ref (rx 34), .ref (rx 35), .ref (rx 36), .ref (rx 37), .ref (rx 38), .ref (rx 39), .ref (rx 40), .int 0, .int 0]))]) [0, 1, 2] (by decide) rfl
  have hFc := va_free (wc := [(q1, .inr (11, [.ref (rx 0), .ref (rx 1), .ref (rx 2), .ref (rx 3), .ref (rx 4), .ref (rx 5), .ref (rx 6), .ref (rx 7), .ref (rx 8), .ref (rx 9), .ref (rx 10), .ref (rx 11), .ref (rx 12), .ref (rx 13), .int 1])), ((rx 10), .inr (9, [.ref (rx 26), .ref (rx 27), .ref (rx 28), .ref (rx 29), .ref (rx 30), .ref (rx 31), .int 0, .int 0, .int 0, .int 0, .int 0])), ((rx 26), .inr (3, [.ref (rx 32), .ref (rx 33), .ref (rx 34), .ref (rx 35), .ref (rx 36), .ref (rx 37), .ref (rx 38), .ref (rx 39), .ref (rx 40), .int 0, .int 0]))]) hD hS hA [0, 1, 2] rfl
  refine va_calli (va_runV (As := [.int (xs (1 : Int32).toNatClampNeg), .int (xs (2 : Int32).toNatClampNeg), .int (xs (3 : Int32).toNatClampNeg)]) (rest := []) ⟨hx, hb, hml, hown, hts⟩ (c_X11_letter l dC dI cI cJ q1 rx (xs (1 : Int32).toNatClampNeg) (xs (2 : Int32).toNatClampNeg) (xs (3 : Int32).toNatClampNeg) H.size) (cwV 3 hts gL_law_X11_letter rfl rfl rfl (by decide +kernel) ⟨Nat.le_of_ble_eq_true rfl, Nat.le_of_ble_eq_true rfl⟩) ⟨mBlind, va_recv hK hPc (ci := 11) (q0 := 0) rfl rfl, mGo hPc hK hDc hN⟩ rfl rfl hl.1 rfl (lv_room (Nat.le_of_ble_eq_true rfl)) dL_law_349 ⟨Nat.le_of_ble_eq_true rfl, Nat.le_of_ble_eq_true rfl⟩) hS (fun q _ h => hFc q h) hFc (fun r_1 u t H1 locs ht hvm hw hB hz1 hk1 hS => ?_)
  obtain rfl : r_1 = (-1) := hw
  obtain ⟨hP, hD⟩ := va_join (wr := [(q2, .inr (12, (o12 rm))), ((rm 1), .inl (cI, 2, .inl (fun _ => 0))), ((rm 4), .inl (cI, 2, .inl (fun _ => 0)))]) (w1 := []) hP hD [0, 1, 2] [3, 4, 5] rfl rfl (by decide) (by decide) hk1 hFc va_P0 va_D0
  generalize H1 = H at hP hS ⊢
  have hP : va_P (dC, dI) vwCl [(q2, .inr (12, (o12 rm))), ((rm 1), .inl (cI, 2, .inl (fun _ => 0))), ((rm 4), .inl (cI, 2, .inl (fun _ => 0)))] H := hP
  have hD : va_D A [(q2, .inr (12, (o12 rm))), ((rm 1), .inl (cI, 2, .inl (fun _ => 0))), ((rm 4), .inl (cI, 2, .inl (fun _ => 0)))] := hD
  refine lv_aload_n hx hb dL_law_352 rfl (lv_at hl 2 rfl) ?_
  refine lv_aload_n hx hb dL_law_353 rfl (lv_at hl 0 rfl) ?_
  refine lv_iload_n hx hb dL_law_354 rfl (lv_at hl 3 rfl) ?_
  refine lv_iconst (v := 1) hx hb dL_law_355 (by decide) ?_
  refine k_iadd (v := 1) hx hb (by decide) dL_law_356 ?_
  refine va_sld hx hb hX hbl hbA hS (vpd (by decide)) dL_law_357 ?_
  refine lv_aload_n hx hb dL_law_358 rfl (lv_at hl 0 rfl) ?_
  refine lv_iload_n hx hb dL_law_359 rfl (lv_at hl 3 rfl) ?_
  refine lv_iconst (v := 2) hx hb dL_law_360 (by decide) ?_
  refine k_iadd (v := 2) hx hb (by decide) dL_law_361 ?_
  refine va_sld hx hb hX hbl hbA hS (vpd (by decide)) dL_law_362 ?_
  refine lv_aload_n hx hb dL_law_363 rfl (lv_at hl 0 rfl) ?_
  refine lv_iload_n hx hb dL_law_364 rfl (lv_at hl 3 rfl) ?_
  refine lv_iconst (v := 3) hx hb dL_law_365 (by decide) ?_
  refine k_iadd (v := 3) hx hb (by decide) dL_law_366 ?_
  refine va_sld hx hb hX hbl hbA hS (vpd (by decide)) dL_law_367 ?_
  have hPc := hP.sub (ws' := [(q2, .inr (12, (o12 rm))), ((rm 1), .inl (cI, 2, .inl (fun _ => 0))), ((rm 4), .inl (cI, 2, .inl (fun _ => 0)))]) [0, 1, 2] rfl
  have hDc := hD.sub (ws' := [(q2, .inr (12, (o12 rm))), ((rm 1), .inl (cI, 2, .inl (fun _ => 0))), ((rm 4), .inl (cI, 2, .inl (fun _ => 0)))]) [0, 1, 2] (by decide) rfl
  have hFc := va_free (wc := [(q2, .inr (12, (o12 rm))), ((rm 1), .inl (cI, 2, .inl (fun _ => 0))), ((rm 4), .inl (cI, 2, .inl (fun _ => 0)))]) hD hS hA [0, 1, 2] rfl
  refine va_calli (va_runV (As := [.int (xs (1 : Int32).toNatClampNeg), .int (xs (2 : Int32).toNatClampNeg), .int (xs (3 : Int32).toNatClampNeg)]) (rest := [.int (-1)]) ⟨hx, hb, hml, hown, hts⟩ (c_X12_letter l dC dI cI cJ q2 rm (xs (1 : Int32).toNatClampNeg) (xs (2 : Int32).toNatClampNeg) (xs (3 : Int32).toNatClampNeg) H.size) (cwV 3 hts gL_law_X12_letter rfl rfl rfl (by decide +kernel) ⟨Nat.le_of_ble_eq_true rfl, Nat.le_of_ble_eq_true rfl⟩) ⟨mBlind, va_recv hK hPc (ci := 12) (q0 := 0) rfl rfl, mGo hPc hK hDc hN⟩ rfl rfl hl.1 rfl (lv_room (Nat.le_of_ble_eq_true rfl)) dL_law_368 ⟨Nat.le_of_ble_eq_true rfl, Nat.le_of_ble_eq_true rfl⟩) hS (fun q _ h => hFc q h) hFc (fun r_2 u t H1 locs ht hvm hw hB hz1 hk1 hS => ?_)
  obtain rfl : r_2 = (-1) := hw
  obtain ⟨hP, hD⟩ := va_join (wr := []) (w1 := []) hP hD [0, 1, 2] [] rfl rfl (by decide) (by decide) hk1 hFc va_P0 va_D0
  generalize H1 = H at hP hS ⊢
  have hP : va_P (dC, dI) vwCl [] H := hP
  have hD : va_D A [] := hD
  refine lv_icmp_eq (tgt := 1093) hx hb dL_law_371 (by decide) (fun _ => ?_) (fun c => absurd (by decide) c)
  exact law_tail hx hb hr hml hX hbl hlocks hAz hbA hS (lv_sub hl [0, 3] rfl)
set_option maxHeartbeats 4000000 in
set_option maxRecDepth 100000 in
/-- case 6: values -/
theorem law_6 {p : Program} {l : Launch} {e : Env} {s : State} {m : MethodId} {below : List Frame} {meth : Method} {c : Code} {dC : Nat → ClassId} {dI : Nat → Nat → Nat} {cI cJ : ClassId} {b : Nat} {xs : Nat → Int32} {A : Nat → Prop} {q1 q2 : Nat} {rx rm : Nat → Nat} {og : Nat → Int32} {H : Heap} {locs : List Loc} {ls : Array Slot} (hx : p.tables.exec = Jvm.exec) (hb : c.code = code) (hr : meth.sig.returnType = ret) (hml : c.maxLocals = 4) (hown : s.vm.findClass RL = some m.cls) (hts : ∀ w ∈ lw_tbl, w.before #[Value.ref b] s = true) (hX : va_X b 6 xs s s.heap) (hbl : b < s.heap.size) (hlocks : meth.locks = false) (hA : ∀ q, s.heap.size ≤ q → A q) (hAz : ∀ q, A q → s.heap.size ≤ q) (hbA : ¬ A b) (hK : va_K (dC, dI) vwCl (ty0 cI cJ) s) (hN : gN s) (hP : va_P (dC, dI) vwCl (WX cI q1 rx ++ WM cI q2 rm og) H) (hD : va_D A (WX cI q1 rx ++ WM cI q2 rm og)) (hS : va_S A s.heap H locs) (hl : lv_has ls 4 [(0, .ref b), (1, .ref q1), (2, .ref q2), (3, .int 0)]) : W p l e room_1 s m #[Value.ref b] below meth c H locs 600000 7302250 (lw_Z below #[Value.ref b] s) (F0 m 376 ls []) := by
  have hP := hP.sub (ws' := [(q1, .inr (11, [.ref (rx 0), .ref (rx 1), .ref (rx 2), .ref (rx 3), .ref (rx 4), .ref (rx 5), .ref (rx 6), .ref (rx 7), .ref (rx 8), .ref (rx 9), .ref (rx 10), .ref (rx 11), .ref (rx 12), .ref (rx 13), .int 1])), ((rx 10), .inr (9, [.ref (rx 26), .ref (rx 27), .ref (rx 28), .ref (rx 29), .ref (rx 30), .ref (rx 31), .int 0, .int 0, .int 0, .int 0, .int 0])), (q2, .inr (12, (o12 rm))), ((rm 1), .inl (cI, 2, .inl (fun _ => 0)))]) [0, 9, 15, 17] rfl
  have hD := hD.sub (ws' := [(q1, .inr (11, [.ref (rx 0), .ref (rx 1), .ref (rx 2), .ref (rx 3), .ref (rx 4), .ref (rx 5), .ref (rx 6), .ref (rx 7), .ref (rx 8), .ref (rx 9), .ref (rx 10), .ref (rx 11), .ref (rx 12), .ref (rx 13), .int 1])), ((rx 10), .inr (9, [.ref (rx 26), .ref (rx 27), .ref (rx 28), .ref (rx 29), .ref (rx 30), .ref (rx 31), .int 0, .int 0, .int 0, .int 0, .int 0])), (q2, .inr (12, (o12 rm))), ((rm 1), .inl (cI, 2, .inl (fun _ => 0)))]) [0, 9, 15, 17] (by decide) rfl
  refine lv_aload_n hx hb dL_law_376 rfl (lv_at hl 1 rfl) ?_
  refine lv_aload_n hx hb dL_law_377 rfl (lv_at hl 0 rfl) ?_
  refine lv_iload_n hx hb dL_law_378 rfl (lv_at hl 3 rfl) ?_
  refine lv_iconst (v := 1) hx hb dL_law_379 (by decide) ?_
  refine k_iadd (v := 1) hx hb (by decide) dL_law_380 ?_
  refine va_sld hx hb hX hbl hbA hS (vpd (by decide)) dL_law_381 ?_
  have hPc := hP.sub (ws' := [(q1, .inr (11, [.ref (rx 0), .ref (rx 1), .ref (rx 2), .ref (rx 3), .ref (rx 4), .ref (rx 5), .ref (rx 6), .ref (rx 7), .ref (rx 8), .ref (rx 9), .ref (rx 10), .ref (rx 11), .ref (rx 12), .ref (rx 13), .int 1])), ((rx 10), .inr (9, [.ref (rx 26), .ref (rx 27), .ref (rx 28), .ref (rx 29), .ref (rx 30), .ref (rx 31), .int 0, .int 0, .int 0, .int 0, .int 0]))]) [0, 1] rfl
  have hDc := hD.sub (ws' := [(q1, .inr (11, [.ref (rx 0), .ref (rx 1), .ref (rx 2), .ref (rx 3), .ref (rx 4), .ref (rx 5), .ref (rx 6), .ref (rx 7), .ref (rx 8), .ref (rx 9), .ref (rx 10), .ref (rx 11), .ref (rx 12), .ref (rx 13), .int 1])), ((rx 10), .inr (9, [.ref (rx 26), .ref (rx 27), .ref (rx 28), .ref (rx 29), .ref (rx 30), .ref (rx 31), .int 0, .int 0, .int 0, .int 0, .int 0]))]) [0, 1] (by decide) rfl
  have hFc := va_free (wc := [(q1, .inr (11, [.ref (rx 0), .ref (rx 1), .ref (rx 2), .ref (rx 3), .ref (rx 4), .ref (rx 5), .ref (rx 6), .ref (rx 7), .ref (rx 8), .ref (rx 9), .ref (rx 10), .ref (rx 11), .ref (rx 12), .ref (rx 13), .int 1])), ((rx 10), .inr (9, [.ref (rx 26), .ref (rx 27), .ref (rx 28), .ref (rx 29), .ref (rx 30), .ref (rx 31), .int 0, .int 0, .int 0, .int 0, .int 0]))]) hD hS hA [0, 1] rfl
  refine va_calli (va_runV (As := [.int (xs (1 : Int32).toNatClampNeg)]) (rest := []) ⟨hx, hb, hml, hown, hts⟩ (c_X11_values l dC dI cI cJ q1 rx (xs (1 : Int32).toNatClampNeg) H.size) (cwV 1 hts gL_law_X11_values rfl rfl rfl (by decide +kernel) ⟨Nat.le_of_ble_eq_true rfl, Nat.le_of_ble_eq_true rfl⟩) ⟨mBlind, va_recv hK hPc (ci := 11) (q0 := 0) rfl rfl, mGo hPc hK hDc hN⟩ rfl rfl hl.1 rfl (lv_room (Nat.le_of_ble_eq_true rfl)) dL_law_382 ⟨Nat.le_of_ble_eq_true rfl, Nat.le_of_ble_eq_true rfl⟩) hS (fun q _ h => hFc q h) hFc (fun r_1 u t H1 locs ht hvm hw hB hz1 hk1 hS => ?_)
  obtain rfl : r_1 = (-1) := hw
  obtain ⟨hP, hD⟩ := va_join (wr := [(q2, .inr (12, (o12 rm))), ((rm 1), .inl (cI, 2, .inl (fun _ => 0)))]) (w1 := []) hP hD [0, 1] [2, 3] rfl rfl (by decide) (by decide) hk1 hFc va_P0 va_D0
  generalize H1 = H at hP hS ⊢
  have hP : va_P (dC, dI) vwCl [(q2, .inr (12, (o12 rm))), ((rm 1), .inl (cI, 2, .inl (fun _ => 0)))] H := hP
  have hD : va_D A [(q2, .inr (12, (o12 rm))), ((rm 1), .inl (cI, 2, .inl (fun _ => 0)))] := hD
  refine lv_aload_n hx hb dL_law_385 rfl (lv_at hl 2 rfl) ?_
  refine lv_aload_n hx hb dL_law_386 rfl (lv_at hl 0 rfl) ?_
  refine lv_iload_n hx hb dL_law_387 rfl (lv_at hl 3 rfl) ?_
  refine lv_iconst (v := 1) hx hb dL_law_388 (by decide) ?_
  refine k_iadd (v := 1) hx hb (by decide) dL_law_389 ?_
  refine va_sld hx hb hX hbl hbA hS (vpd (by decide)) dL_law_390 ?_
  have hPc := hP.sub (ws' := [(q2, .inr (12, (o12 rm))), ((rm 1), .inl (cI, 2, .inl (fun _ => 0)))]) [0, 1] rfl
  have hDc := hD.sub (ws' := [(q2, .inr (12, (o12 rm))), ((rm 1), .inl (cI, 2, .inl (fun _ => 0)))]) [0, 1] (by decide) rfl
  have hFc := va_free (wc := [(q2, .inr (12, (o12 rm))), ((rm 1), .inl (cI, 2, .inl (fun _ => 0)))]) hD hS hA [0, 1] rfl
  refine va_calli (va_runV (As := [.int (xs (1 : Int32).toNatClampNeg)]) (rest := [.int (-1)]) ⟨hx, hb, hml, hown, hts⟩ (c_X12_values l dC dI cI cJ q2 rm (xs (1 : Int32).toNatClampNeg) H.size) (cwV 1 hts gL_law_X12_values rfl rfl rfl (by decide +kernel) ⟨Nat.le_of_ble_eq_true rfl, Nat.le_of_ble_eq_true rfl⟩) ⟨mBlind, va_recv hK hPc (ci := 12) (q0 := 0) rfl rfl, mGo hPc hK hDc hN⟩ rfl rfl hl.1 rfl (lv_room (Nat.le_of_ble_eq_true rfl)) dL_law_391 ⟨Nat.le_of_ble_eq_true rfl, Nat.le_of_ble_eq_true rfl⟩) hS (fun q _ h => hFc q h) hFc (fun r_2 u t H1 locs ht hvm hw hB hz1 hk1 hS => ?_)
  obtain rfl : r_2 = (-1) := hw
  obtain ⟨hP, hD⟩ := va_join (wr := []) (w1 := []) hP hD [0, 1] [] rfl rfl (by decide) (by decide) hk1 hFc va_P0 va_D0
  generalize H1 = H at hP hS ⊢
  have hP : va_P (dC, dI) vwCl [] H := hP
  have hD : va_D A [] := hD
  refine lv_icmp_eq (tgt := 1093) hx hb dL_law_394 (by decide) (fun _ => ?_) (fun c => absurd (by decide) c)
  exact law_tail hx hb hr hml hX hbl hlocks hAz hbA hS (lv_sub hl [0, 3] rfl)
set_option maxHeartbeats 4000000 in
set_option maxRecDepth 100000 in
/-- case 7: arm -/
theorem law_7 {p : Program} {l : Launch} {e : Env} {s : State} {m : MethodId} {below : List Frame} {meth : Method} {c : Code} {dC : Nat → ClassId} {dI : Nat → Nat → Nat} {cI cJ : ClassId} {b : Nat} {xs : Nat → Int32} {A : Nat → Prop} {q1 q2 : Nat} {rx rm : Nat → Nat} {og : Nat → Int32} {H : Heap} {locs : List Loc} {ls : Array Slot} (hx : p.tables.exec = Jvm.exec) (hb : c.code = code) (hr : meth.sig.returnType = ret) (hml : c.maxLocals = 4) (hown : s.vm.findClass RL = some m.cls) (hts : ∀ w ∈ lw_tbl, w.before #[Value.ref b] s = true) (hX : va_X b 6 xs s s.heap) (hbl : b < s.heap.size) (hlocks : meth.locks = false) (hA : ∀ q, s.heap.size ≤ q → A q) (hAz : ∀ q, A q → s.heap.size ≤ q) (hbA : ¬ A b) (hK : va_K (dC, dI) vwCl (ty0 cI cJ) s) (hN : gN s) (hP : va_P (dC, dI) vwCl (WX cI q1 rx ++ WM cI q2 rm og) H) (hD : va_D A (WX cI q1 rx ++ WM cI q2 rm og)) (hS : va_S A s.heap H locs) (hl : lv_has ls 4 [(0, .ref b), (1, .ref q1), (2, .ref q2), (3, .int 0)]) : W p l e room_1 s m #[Value.ref b] below meth c H locs 600000 7302250 (lw_Z below #[Value.ref b] s) (F0 m 399 ls []) := by
  have hP := hP.sub (ws' := [(q1, .inr (11, [.ref (rx 0), .ref (rx 1), .ref (rx 2), .ref (rx 3), .ref (rx 4), .ref (rx 5), .ref (rx 6), .ref (rx 7), .ref (rx 8), .ref (rx 9), .ref (rx 10), .ref (rx 11), .ref (rx 12), .ref (rx 13), .int 1])), ((rx 5), .inr (5, [.ref (rx 16), .int 0, .int 0, .int 0])), (q2, .inr (12, (o12 rm)))]) [0, 5, 15] rfl
  have hD := hD.sub (ws' := [(q1, .inr (11, [.ref (rx 0), .ref (rx 1), .ref (rx 2), .ref (rx 3), .ref (rx 4), .ref (rx 5), .ref (rx 6), .ref (rx 7), .ref (rx 8), .ref (rx 9), .ref (rx 10), .ref (rx 11), .ref (rx 12), .ref (rx 13), .int 1])), ((rx 5), .inr (5, [.ref (rx 16), .int 0, .int 0, .int 0])), (q2, .inr (12, (o12 rm)))]) [0, 5, 15] (by decide) rfl
  refine lv_aload_n hx hb dL_law_399 rfl (lv_at hl 1 rfl) ?_
  refine lv_aload_n hx hb dL_law_400 rfl (lv_at hl 0 rfl) ?_
  refine lv_iload_n hx hb dL_law_401 rfl (lv_at hl 3 rfl) ?_
  refine lv_iconst (v := 1) hx hb dL_law_402 (by decide) ?_
  refine k_iadd (v := 1) hx hb (by decide) dL_law_403 ?_
  refine va_sld hx hb hX hbl hbA hS (vpd (by decide)) dL_law_404 ?_
  refine lv_aload_n hx hb dL_law_405 rfl (lv_at hl 0 rfl) ?_
  refine lv_iload_n hx hb dL_law_406 rfl (lv_at hl 3 rfl) ?_
  refine lv_iconst (v := 2) hx hb dL_law_407 (by decide) ?_
  refine k_iadd (v := 2) hx hb (by decide) dL_law_408 ?_
  refine va_sld hx hb hX hbl hbA hS (vpd (by decide)) dL_law_409 ?_
  have hPc := hP.sub (ws' := [(q1, .inr (11, [.ref (rx 0), .ref (rx 1), .ref (rx 2), .ref (rx 3), .ref (rx 4), .ref (rx 5), .ref (rx 6), .ref (rx 7), .ref (rx 8), .ref (rx 9), .ref (rx 10), .ref (rx 11), .ref (rx 12), .ref (rx 13), .int 1])), ((rx 5), .inr (5, [.ref (rx 16), .int 0, .int 0, .int 0]))]) [0, 1] rfl
  have hDc := hD.sub (ws' := [(q1, .inr (11, [.ref (rx 0), .ref (rx 1), .ref (rx 2), .ref (rx 3), .ref (rx 4), .ref (rx 5), .ref (rx 6), .ref (rx 7), .ref (rx 8), .ref (rx 9), .ref (rx 10), .ref (rx 11), .ref (rx 12), .ref (rx 13), .int 1])), ((rx 5), .inr (5, [.ref (rx 16), .int 0, .int 0, .int 0]))]) [0, 1] (by decide) rfl
  have hFc := va_free (wc := [(q1, .inr (11, [.ref (rx 0), .ref (rx 1), .ref (rx 2), .ref (rx 3), .ref (rx 4), .ref (rx 5), .ref (rx 6), .ref (rx 7), .ref (rx 8), .ref (rx 9), .ref (rx 10), .ref (rx 11), .ref (rx 12), .ref (rx 13), .int 1])), ((rx 5), .inr (5, [.ref (rx 16), .int 0, .int 0, .int 0]))]) hD hS hA [0, 1] rfl
  refine va_calli (va_runV (As := [.int (xs (1 : Int32).toNatClampNeg), .int (xs (2 : Int32).toNatClampNeg)]) (rest := []) ⟨hx, hb, hml, hown, hts⟩ (c_X11_arm l dC dI cI cJ q1 rx (xs (1 : Int32).toNatClampNeg) (xs (2 : Int32).toNatClampNeg) H.size) (cwV 2 hts gL_law_X11_arm rfl rfl rfl (by decide +kernel) ⟨Nat.le_of_ble_eq_true rfl, Nat.le_of_ble_eq_true rfl⟩) ⟨mBlind, va_recv hK hPc (ci := 11) (q0 := 0) rfl rfl, mGo hPc hK hDc hN⟩ rfl rfl hl.1 rfl (lv_room (Nat.le_of_ble_eq_true rfl)) dL_law_410 ⟨Nat.le_of_ble_eq_true rfl, Nat.le_of_ble_eq_true rfl⟩) hS (fun q _ h => hFc q h) hFc (fun r_1 u t H1 locs ht hvm hw hB hz1 hk1 hS => ?_)
  obtain rfl : r_1 = (-1) := hw
  obtain ⟨hP, hD⟩ := va_join (wr := [(q2, .inr (12, (o12 rm)))]) (w1 := []) hP hD [0, 1] [2] rfl rfl (by decide) (by decide) hk1 hFc va_P0 va_D0
  generalize H1 = H at hP hS ⊢
  have hP : va_P (dC, dI) vwCl [(q2, .inr (12, (o12 rm)))] H := hP
  have hD : va_D A [(q2, .inr (12, (o12 rm)))] := hD
  refine lv_aload_n hx hb dL_law_413 rfl (lv_at hl 2 rfl) ?_
  refine lv_aload_n hx hb dL_law_414 rfl (lv_at hl 0 rfl) ?_
  refine lv_iload_n hx hb dL_law_415 rfl (lv_at hl 3 rfl) ?_
  refine lv_iconst (v := 1) hx hb dL_law_416 (by decide) ?_
  refine k_iadd (v := 1) hx hb (by decide) dL_law_417 ?_
  refine va_sld hx hb hX hbl hbA hS (vpd (by decide)) dL_law_418 ?_
  refine lv_aload_n hx hb dL_law_419 rfl (lv_at hl 0 rfl) ?_
  refine lv_iload_n hx hb dL_law_420 rfl (lv_at hl 3 rfl) ?_
  refine lv_iconst (v := 2) hx hb dL_law_421 (by decide) ?_
  refine k_iadd (v := 2) hx hb (by decide) dL_law_422 ?_
  refine va_sld hx hb hX hbl hbA hS (vpd (by decide)) dL_law_423 ?_
  have hPc := hP.sub (ws' := [(q2, .inr (12, (o12 rm)))]) [0] rfl
  have hDc := hD.sub (ws' := [(q2, .inr (12, (o12 rm)))]) [0] (by decide) rfl
  have hFc := va_free (wc := [(q2, .inr (12, (o12 rm)))]) hD hS hA [0] rfl
  refine va_calli (va_runV (As := [.int (xs (1 : Int32).toNatClampNeg), .int (xs (2 : Int32).toNatClampNeg)]) (rest := [.int (-1)]) ⟨hx, hb, hml, hown, hts⟩ (c_X12_arm l dC dI cI cJ q2 rm (xs (1 : Int32).toNatClampNeg) (xs (2 : Int32).toNatClampNeg) H.size) (cwV 2 hts gL_law_X12_arm rfl rfl rfl (by decide +kernel) ⟨Nat.le_of_ble_eq_true rfl, Nat.le_of_ble_eq_true rfl⟩) ⟨mBlind, va_recv hK hPc (ci := 12) (q0 := 0) rfl rfl, mGo hPc hK hDc hN⟩ rfl rfl hl.1 rfl (lv_room (Nat.le_of_ble_eq_true rfl)) dL_law_424 ⟨Nat.le_of_ble_eq_true rfl, Nat.le_of_ble_eq_true rfl⟩) hS (fun q _ h => hFc q h) hFc (fun r_2 u t H1 locs ht hvm hw hB hz1 hk1 hS => ?_)
  obtain rfl : r_2 = (-1) := hw
  obtain ⟨hP, hD⟩ := va_join (wr := []) (w1 := []) hP hD [0] [] rfl rfl (by decide) (by decide) hk1 hFc va_P0 va_D0
  generalize H1 = H at hP hS ⊢
  have hP : va_P (dC, dI) vwCl [] H := hP
  have hD : va_D A [] := hD
  refine lv_icmp_eq (tgt := 1093) hx hb dL_law_427 (by decide) (fun _ => ?_) (fun c => absurd (by decide) c)
  exact law_tail hx hb hr hml hX hbl hlocks hAz hbA hS (lv_sub hl [0, 3] rfl)
set_option maxHeartbeats 4000000 in
set_option maxRecDepth 100000 in
/-- case 8: fits -/
theorem law_8 {p : Program} {l : Launch} {e : Env} {s : State} {m : MethodId} {below : List Frame} {meth : Method} {c : Code} {dC : Nat → ClassId} {dI : Nat → Nat → Nat} {cI cJ : ClassId} {b : Nat} {xs : Nat → Int32} {A : Nat → Prop} {q1 q2 : Nat} {rx rm : Nat → Nat} {og : Nat → Int32} {H : Heap} {locs : List Loc} {ls : Array Slot} (hx : p.tables.exec = Jvm.exec) (hb : c.code = code) (hr : meth.sig.returnType = ret) (hml : c.maxLocals = 4) (hown : s.vm.findClass RL = some m.cls) (hts : ∀ w ∈ lw_tbl, w.before #[Value.ref b] s = true) (hX : va_X b 6 xs s s.heap) (hbl : b < s.heap.size) (hlocks : meth.locks = false) (hA : ∀ q, s.heap.size ≤ q → A q) (hAz : ∀ q, A q → s.heap.size ≤ q) (hbA : ¬ A b) (hK : va_K (dC, dI) vwCl (ty0 cI cJ) s) (hN : gN s) (hP : va_P (dC, dI) vwCl (WX cI q1 rx ++ WM cI q2 rm og) H) (hD : va_D A (WX cI q1 rx ++ WM cI q2 rm og)) (hS : va_S A s.heap H locs) (hl : lv_has ls 4 [(0, .ref b), (1, .ref q1), (2, .ref q2), (3, .int 0)]) : W p l e room_1 s m #[Value.ref b] below meth c H locs 600000 7302250 (lw_Z below #[Value.ref b] s) (F0 m 432 ls []) := by
  have hP := hP.sub (ws' := [(q1, .inr (11, [.ref (rx 0), .ref (rx 1), .ref (rx 2), .ref (rx 3), .ref (rx 4), .ref (rx 5), .ref (rx 6), .ref (rx 7), .ref (rx 8), .ref (rx 9), .ref (rx 10), .ref (rx 11), .ref (rx 12), .ref (rx 13), .int 1])), ((rx 5), .inr (5, [.ref (rx 16), .int 0, .int 0, .int 0])), (q2, .inr (12, (o12 rm)))]) [0, 5, 15] rfl
  have hD := hD.sub (ws' := [(q1, .inr (11, [.ref (rx 0), .ref (rx 1), .ref (rx 2), .ref (rx 3), .ref (rx 4), .ref (rx 5), .ref (rx 6), .ref (rx 7), .ref (rx 8), .ref (rx 9), .ref (rx 10), .ref (rx 11), .ref (rx 12), .ref (rx 13), .int 1])), ((rx 5), .inr (5, [.ref (rx 16), .int 0, .int 0, .int 0])), (q2, .inr (12, (o12 rm)))]) [0, 5, 15] (by decide) rfl
  refine lv_aload_n hx hb dL_law_432 rfl (lv_at hl 1 rfl) ?_
  refine lv_aload_n hx hb dL_law_433 rfl (lv_at hl 0 rfl) ?_
  refine lv_iload_n hx hb dL_law_434 rfl (lv_at hl 3 rfl) ?_
  refine lv_iconst (v := 1) hx hb dL_law_435 (by decide) ?_
  refine k_iadd (v := 1) hx hb (by decide) dL_law_436 ?_
  refine va_sld hx hb hX hbl hbA hS (vpd (by decide)) dL_law_437 ?_
  refine lv_aload_n hx hb dL_law_438 rfl (lv_at hl 0 rfl) ?_
  refine lv_iload_n hx hb dL_law_439 rfl (lv_at hl 3 rfl) ?_
  refine lv_iconst (v := 2) hx hb dL_law_440 (by decide) ?_
  refine k_iadd (v := 2) hx hb (by decide) dL_law_441 ?_
  refine va_sld hx hb hX hbl hbA hS (vpd (by decide)) dL_law_442 ?_
  refine lv_aload_n hx hb dL_law_443 rfl (lv_at hl 0 rfl) ?_
  refine lv_iload_n hx hb dL_law_444 rfl (lv_at hl 3 rfl) ?_
  refine lv_iconst (v := 3) hx hb dL_law_445 (by decide) ?_
  refine k_iadd (v := 3) hx hb (by decide) dL_law_446 ?_
  refine va_sld hx hb hX hbl hbA hS (vpd (by decide)) dL_law_447 ?_
  have hPc := hP.sub (ws' := [(q1, .inr (11, [.ref (rx 0), .ref (rx 1), .ref (rx 2), .ref (rx 3), .ref (rx 4), .ref (rx 5), .ref (rx 6), .ref (rx 7), .ref (rx 8), .ref (rx 9), .ref (rx 10), .ref (rx 11), .ref (rx 12), .ref (rx 13), .int 1])), ((rx 5), .inr (5, [.ref (rx 16), .int 0, .int 0, .int 0]))]) [0, 1] rfl
  have hDc := hD.sub (ws' := [(q1, .inr (11, [.ref (rx 0), .ref (rx 1), .ref (rx 2), .ref (rx 3), .ref (rx 4), .ref (rx 5), .ref (rx 6), .ref (rx 7), .ref (rx 8), .ref (rx 9), .ref (rx 10), .ref (rx 11), .ref (rx 12), .ref (rx 13), .int 1])), ((rx 5), .inr (5, [.ref (rx 16), .int 0, .int 0, .int 0]))]) [0, 1] (by decide) rfl
  have hFc := va_free (wc := [(q1, .inr (11, [.ref (rx 0), .ref (rx 1), .ref (rx 2), .ref (rx 3), .ref (rx 4), .ref (rx 5), .ref (rx 6), .ref (rx 7), .ref (rx 8), .ref (rx 9), .ref (rx 10), .ref (rx 11), .ref (rx 12), .ref (rx 13), .int 1])), ((rx 5), .inr (5, [.ref (rx 16), .int 0, .int 0, .int 0]))]) hD hS hA [0, 1] rfl
  refine va_calli (va_runV (As := [.int (xs (1 : Int32).toNatClampNeg), .int (xs (2 : Int32).toNatClampNeg), .int (xs (3 : Int32).toNatClampNeg)]) (rest := []) ⟨hx, hb, hml, hown, hts⟩ (c_X11_fits l dC dI cI cJ q1 rx (xs (1 : Int32).toNatClampNeg) (xs (2 : Int32).toNatClampNeg) (xs (3 : Int32).toNatClampNeg) H.size) (cwV 3 hts gL_law_X11_fits rfl rfl rfl (by decide +kernel) ⟨Nat.le_of_ble_eq_true rfl, Nat.le_of_ble_eq_true rfl⟩) ⟨mBlind, va_recv hK hPc (ci := 11) (q0 := 0) rfl rfl, mGo hPc hK hDc hN⟩ rfl rfl hl.1 rfl (lv_room (Nat.le_of_ble_eq_true rfl)) dL_law_448 ⟨Nat.le_of_ble_eq_true rfl, Nat.le_of_ble_eq_true rfl⟩) hS (fun q _ h => hFc q h) hFc (fun r_1 u t H1 locs ht hvm hw hB hz1 hk1 hS => ?_)
  obtain rfl : r_1 = (-1) := hw
  obtain ⟨hP, hD⟩ := va_join (wr := [(q2, .inr (12, (o12 rm)))]) (w1 := []) hP hD [0, 1] [2] rfl rfl (by decide) (by decide) hk1 hFc va_P0 va_D0
  generalize H1 = H at hP hS ⊢
  have hP : va_P (dC, dI) vwCl [(q2, .inr (12, (o12 rm)))] H := hP
  have hD : va_D A [(q2, .inr (12, (o12 rm)))] := hD
  refine lv_aload_n hx hb dL_law_451 rfl (lv_at hl 2 rfl) ?_
  refine lv_aload_n hx hb dL_law_452 rfl (lv_at hl 0 rfl) ?_
  refine lv_iload_n hx hb dL_law_453 rfl (lv_at hl 3 rfl) ?_
  refine lv_iconst (v := 1) hx hb dL_law_454 (by decide) ?_
  refine k_iadd (v := 1) hx hb (by decide) dL_law_455 ?_
  refine va_sld hx hb hX hbl hbA hS (vpd (by decide)) dL_law_456 ?_
  refine lv_aload_n hx hb dL_law_457 rfl (lv_at hl 0 rfl) ?_
  refine lv_iload_n hx hb dL_law_458 rfl (lv_at hl 3 rfl) ?_
  refine lv_iconst (v := 2) hx hb dL_law_459 (by decide) ?_
  refine k_iadd (v := 2) hx hb (by decide) dL_law_460 ?_
  refine va_sld hx hb hX hbl hbA hS (vpd (by decide)) dL_law_461 ?_
  refine lv_aload_n hx hb dL_law_462 rfl (lv_at hl 0 rfl) ?_
  refine lv_iload_n hx hb dL_law_463 rfl (lv_at hl 3 rfl) ?_
  refine lv_iconst (v := 3) hx hb dL_law_464 (by decide) ?_
  refine k_iadd (v := 3) hx hb (by decide) dL_law_465 ?_
  refine va_sld hx hb hX hbl hbA hS (vpd (by decide)) dL_law_466 ?_
  have hPc := hP.sub (ws' := [(q2, .inr (12, (o12 rm)))]) [0] rfl
  have hDc := hD.sub (ws' := [(q2, .inr (12, (o12 rm)))]) [0] (by decide) rfl
  have hFc := va_free (wc := [(q2, .inr (12, (o12 rm)))]) hD hS hA [0] rfl
  refine va_calli (va_runV (As := [.int (xs (1 : Int32).toNatClampNeg), .int (xs (2 : Int32).toNatClampNeg), .int (xs (3 : Int32).toNatClampNeg)]) (rest := [.int (-1)]) ⟨hx, hb, hml, hown, hts⟩ (c_X12_fits l dC dI cI cJ q2 rm (xs (1 : Int32).toNatClampNeg) (xs (2 : Int32).toNatClampNeg) (xs (3 : Int32).toNatClampNeg) H.size) (cwV 3 hts gL_law_X12_fits rfl rfl rfl (by decide +kernel) ⟨Nat.le_of_ble_eq_true rfl, Nat.le_of_ble_eq_true rfl⟩) ⟨mBlind, va_recv hK hPc (ci := 12) (q0 := 0) rfl rfl, mGo hPc hK hDc hN⟩ rfl rfl hl.1 rfl (lv_room (Nat.le_of_ble_eq_true rfl)) dL_law_467 ⟨Nat.le_of_ble_eq_true rfl, Nat.le_of_ble_eq_true rfl⟩) hS (fun q _ h => hFc q h) hFc (fun r_2 u t H1 locs ht hvm hw hB hz1 hk1 hS => ?_)
  obtain rfl : r_2 = (-1) := hw
  obtain ⟨hP, hD⟩ := va_join (wr := []) (w1 := []) hP hD [0] [] rfl rfl (by decide) (by decide) hk1 hFc va_P0 va_D0
  generalize H1 = H at hP hS ⊢
  have hP : va_P (dC, dI) vwCl [] H := hP
  have hD : va_D A [] := hD
  refine lv_icmp_eq (tgt := 1093) hx hb dL_law_470 (by decide) (fun _ => ?_) (fun c => absurd (by decide) c)
  exact law_tail hx hb hr hml hX hbl hlocks hAz hbA hS (lv_sub hl [0, 3] rfl)
set_option maxHeartbeats 4000000 in
set_option maxRecDepth 100000 in
/-- case 9: holds -/
theorem law_9 {p : Program} {l : Launch} {e : Env} {s : State} {m : MethodId} {below : List Frame} {meth : Method} {c : Code} {dC : Nat → ClassId} {dI : Nat → Nat → Nat} {cI cJ : ClassId} {b : Nat} {xs : Nat → Int32} {A : Nat → Prop} {q1 q2 : Nat} {rx rm : Nat → Nat} {og : Nat → Int32} {H : Heap} {locs : List Loc} {ls : Array Slot} (hx : p.tables.exec = Jvm.exec) (hb : c.code = code) (hr : meth.sig.returnType = ret) (hml : c.maxLocals = 4) (hown : s.vm.findClass RL = some m.cls) (hts : ∀ w ∈ lw_tbl, w.before #[Value.ref b] s = true) (hX : va_X b 6 xs s s.heap) (hbl : b < s.heap.size) (hlocks : meth.locks = false) (hA : ∀ q, s.heap.size ≤ q → A q) (hAz : ∀ q, A q → s.heap.size ≤ q) (hbA : ¬ A b) (hK : va_K (dC, dI) vwCl (ty0 cI cJ) s) (hN : gN s) (hP : va_P (dC, dI) vwCl (WX cI q1 rx ++ WM cI q2 rm og) H) (hD : va_D A (WX cI q1 rx ++ WM cI q2 rm og)) (hS : va_S A s.heap H locs) (hl : lv_has ls 4 [(0, .ref b), (1, .ref q1), (2, .ref q2), (3, .int 0)]) : W p l e room_1 s m #[Value.ref b] below meth c H locs 600000 7302250 (lw_Z below #[Value.ref b] s) (F0 m 475 ls []) := by
  have hP := hP.sub (ws' := [(q1, .inr (11, [.ref (rx 0), .ref (rx 1), .ref (rx 2), .ref (rx 3), .ref (rx 4), .ref (rx 5), .ref (rx 6), .ref (rx 7), .ref (rx 8), .ref (rx 9), .ref (rx 10), .ref (rx 11), .ref (rx 12), .ref (rx 13), .int 1])), ((rx 5), .inr (5, [.ref (rx 16), .int 0, .int 0, .int 0])), (q2, .inr (12, (o12 rm)))]) [0, 5, 15] rfl
  have hD := hD.sub (ws' := [(q1, .inr (11, [.ref (rx 0), .ref (rx 1), .ref (rx 2), .ref (rx 3), .ref (rx 4), .ref (rx 5), .ref (rx 6), .ref (rx 7), .ref (rx 8), .ref (rx 9), .ref (rx 10), .ref (rx 11), .ref (rx 12), .ref (rx 13), .int 1])), ((rx 5), .inr (5, [.ref (rx 16), .int 0, .int 0, .int 0])), (q2, .inr (12, (o12 rm)))]) [0, 5, 15] (by decide) rfl
  refine lv_aload_n hx hb dL_law_475 rfl (lv_at hl 1 rfl) ?_
  refine lv_aload_n hx hb dL_law_476 rfl (lv_at hl 0 rfl) ?_
  refine lv_iload_n hx hb dL_law_477 rfl (lv_at hl 3 rfl) ?_
  refine lv_iconst (v := 1) hx hb dL_law_478 (by decide) ?_
  refine k_iadd (v := 1) hx hb (by decide) dL_law_479 ?_
  refine va_sld hx hb hX hbl hbA hS (vpd (by decide)) dL_law_480 ?_
  refine lv_aload_n hx hb dL_law_481 rfl (lv_at hl 0 rfl) ?_
  refine lv_iload_n hx hb dL_law_482 rfl (lv_at hl 3 rfl) ?_
  refine lv_iconst (v := 2) hx hb dL_law_483 (by decide) ?_
  refine k_iadd (v := 2) hx hb (by decide) dL_law_484 ?_
  refine va_sld hx hb hX hbl hbA hS (vpd (by decide)) dL_law_485 ?_
  have hPc := hP.sub (ws' := [(q1, .inr (11, [.ref (rx 0), .ref (rx 1), .ref (rx 2), .ref (rx 3), .ref (rx 4), .ref (rx 5), .ref (rx 6), .ref (rx 7), .ref (rx 8), .ref (rx 9), .ref (rx 10), .ref (rx 11), .ref (rx 12), .ref (rx 13), .int 1])), ((rx 5), .inr (5, [.ref (rx 16), .int 0, .int 0, .int 0]))]) [0, 1] rfl
  have hDc := hD.sub (ws' := [(q1, .inr (11, [.ref (rx 0), .ref (rx 1), .ref (rx 2), .ref (rx 3), .ref (rx 4), .ref (rx 5), .ref (rx 6), .ref (rx 7), .ref (rx 8), .ref (rx 9), .ref (rx 10), .ref (rx 11), .ref (rx 12), .ref (rx 13), .int 1])), ((rx 5), .inr (5, [.ref (rx 16), .int 0, .int 0, .int 0]))]) [0, 1] (by decide) rfl
  have hFc := va_free (wc := [(q1, .inr (11, [.ref (rx 0), .ref (rx 1), .ref (rx 2), .ref (rx 3), .ref (rx 4), .ref (rx 5), .ref (rx 6), .ref (rx 7), .ref (rx 8), .ref (rx 9), .ref (rx 10), .ref (rx 11), .ref (rx 12), .ref (rx 13), .int 1])), ((rx 5), .inr (5, [.ref (rx 16), .int 0, .int 0, .int 0]))]) hD hS hA [0, 1] rfl
  refine va_calli (va_runV (As := [.int (xs (1 : Int32).toNatClampNeg), .int (xs (2 : Int32).toNatClampNeg)]) (rest := []) ⟨hx, hb, hml, hown, hts⟩ (c_X11_holds l dC dI cI cJ q1 rx (xs (1 : Int32).toNatClampNeg) (xs (2 : Int32).toNatClampNeg) H.size) (cwV 2 hts gL_law_X11_holds rfl rfl rfl (by decide +kernel) ⟨Nat.le_of_ble_eq_true rfl, Nat.le_of_ble_eq_true rfl⟩) ⟨mBlind, va_recv hK hPc (ci := 11) (q0 := 0) rfl rfl, mGo hPc hK hDc hN⟩ rfl rfl hl.1 rfl (lv_room (Nat.le_of_ble_eq_true rfl)) dL_law_486 ⟨Nat.le_of_ble_eq_true rfl, Nat.le_of_ble_eq_true rfl⟩) hS (fun q _ h => hFc q h) hFc (fun r_1 u t H1 locs ht hvm hw hB hz1 hk1 hS => ?_)
  obtain rfl : r_1 = (-1) := hw
  obtain ⟨hP, hD⟩ := va_join (wr := [(q2, .inr (12, (o12 rm)))]) (w1 := []) hP hD [0, 1] [2] rfl rfl (by decide) (by decide) hk1 hFc va_P0 va_D0
  generalize H1 = H at hP hS ⊢
  have hP : va_P (dC, dI) vwCl [(q2, .inr (12, (o12 rm)))] H := hP
  have hD : va_D A [(q2, .inr (12, (o12 rm)))] := hD
  refine lv_aload_n hx hb dL_law_489 rfl (lv_at hl 2 rfl) ?_
  refine lv_aload_n hx hb dL_law_490 rfl (lv_at hl 0 rfl) ?_
  refine lv_iload_n hx hb dL_law_491 rfl (lv_at hl 3 rfl) ?_
  refine lv_iconst (v := 1) hx hb dL_law_492 (by decide) ?_
  refine k_iadd (v := 1) hx hb (by decide) dL_law_493 ?_
  refine va_sld hx hb hX hbl hbA hS (vpd (by decide)) dL_law_494 ?_
  refine lv_aload_n hx hb dL_law_495 rfl (lv_at hl 0 rfl) ?_
  refine lv_iload_n hx hb dL_law_496 rfl (lv_at hl 3 rfl) ?_
  refine lv_iconst (v := 2) hx hb dL_law_497 (by decide) ?_
  refine k_iadd (v := 2) hx hb (by decide) dL_law_498 ?_
  refine va_sld hx hb hX hbl hbA hS (vpd (by decide)) dL_law_499 ?_
  have hPc := hP.sub (ws' := [(q2, .inr (12, (o12 rm)))]) [0] rfl
  have hDc := hD.sub (ws' := [(q2, .inr (12, (o12 rm)))]) [0] (by decide) rfl
  have hFc := va_free (wc := [(q2, .inr (12, (o12 rm)))]) hD hS hA [0] rfl
  refine va_calli (va_runV (As := [.int (xs (1 : Int32).toNatClampNeg), .int (xs (2 : Int32).toNatClampNeg)]) (rest := [.int (-1)]) ⟨hx, hb, hml, hown, hts⟩ (c_X12_holds l dC dI cI cJ q2 rm (xs (1 : Int32).toNatClampNeg) (xs (2 : Int32).toNatClampNeg) H.size) (cwV 2 hts gL_law_X12_holds rfl rfl rfl (by decide +kernel) ⟨Nat.le_of_ble_eq_true rfl, Nat.le_of_ble_eq_true rfl⟩) ⟨mBlind, va_recv hK hPc (ci := 12) (q0 := 0) rfl rfl, mGo hPc hK hDc hN⟩ rfl rfl hl.1 rfl (lv_room (Nat.le_of_ble_eq_true rfl)) dL_law_500 ⟨Nat.le_of_ble_eq_true rfl, Nat.le_of_ble_eq_true rfl⟩) hS (fun q _ h => hFc q h) hFc (fun r_2 u t H1 locs ht hvm hw hB hz1 hk1 hS => ?_)
  obtain rfl : r_2 = (-1) := hw
  obtain ⟨hP, hD⟩ := va_join (wr := []) (w1 := []) hP hD [0] [] rfl rfl (by decide) (by decide) hk1 hFc va_P0 va_D0
  generalize H1 = H at hP hS ⊢
  have hP : va_P (dC, dI) vwCl [] H := hP
  have hD : va_D A [] := hD
  refine lv_icmp_eq (tgt := 1093) hx hb dL_law_503 (by decide) (fun _ => ?_) (fun c => absurd (by decide) c)
  exact law_tail hx hb hr hml hX hbl hlocks hAz hbA hS (lv_sub hl [0, 3] rfl)
set_option maxHeartbeats 4000000 in
set_option maxRecDepth 100000 in
/-- case 10: missing -/
theorem law_10 {p : Program} {l : Launch} {e : Env} {s : State} {m : MethodId} {below : List Frame} {meth : Method} {c : Code} {dC : Nat → ClassId} {dI : Nat → Nat → Nat} {cI cJ : ClassId} {b : Nat} {xs : Nat → Int32} {A : Nat → Prop} {q1 q2 : Nat} {rx rm : Nat → Nat} {og : Nat → Int32} {H : Heap} {locs : List Loc} {ls : Array Slot} (hx : p.tables.exec = Jvm.exec) (hb : c.code = code) (hr : meth.sig.returnType = ret) (hml : c.maxLocals = 4) (hown : s.vm.findClass RL = some m.cls) (hts : ∀ w ∈ lw_tbl, w.before #[Value.ref b] s = true) (hX : va_X b 6 xs s s.heap) (hbl : b < s.heap.size) (hlocks : meth.locks = false) (hA : ∀ q, s.heap.size ≤ q → A q) (hAz : ∀ q, A q → s.heap.size ≤ q) (hbA : ¬ A b) (hK : va_K (dC, dI) vwCl (ty0 cI cJ) s) (hN : gN s) (hP : va_P (dC, dI) vwCl (WX cI q1 rx ++ WM cI q2 rm og) H) (hD : va_D A (WX cI q1 rx ++ WM cI q2 rm og)) (hS : va_S A s.heap H locs) (hl : lv_has ls 4 [(0, .ref b), (1, .ref q1), (2, .ref q2), (3, .int 0)]) : W p l e room_1 s m #[Value.ref b] below meth c H locs 600000 7302250 (lw_Z below #[Value.ref b] s) (F0 m 508 ls []) := by
  have hP := hP.sub (ws' := [(q1, .inr (11, [.ref (rx 0), .ref (rx 1), .ref (rx 2), .ref (rx 3), .ref (rx 4), .ref (rx 5), .ref (rx 6), .ref (rx 7), .ref (rx 8), .ref (rx 9), .ref (rx 10), .ref (rx 11), .ref (rx 12), .ref (rx 13), .int 1])), ((rx 10), .inr (9, [.ref (rx 26), .ref (rx 27), .ref (rx 28), .ref (rx 29), .ref (rx 30), .ref (rx 31), .int 0, .int 0, .int 0, .int 0, .int 0])), (q2, .inr (12, (o12 rm)))]) [0, 9, 15] rfl
  have hD := hD.sub (ws' := [(q1, .inr (11, [.ref (rx 0), .ref (rx 1), .ref (rx 2), .ref (rx 3), .ref (rx 4), .ref (rx 5), .ref (rx 6), .ref (rx 7), .ref (rx 8), .ref (rx 9), .ref (rx 10), .ref (rx 11), .ref (rx 12), .ref (rx 13), .int 1])), ((rx 10), .inr (9, [.ref (rx 26), .ref (rx 27), .ref (rx 28), .ref (rx 29), .ref (rx 30), .ref (rx 31), .int 0, .int 0, .int 0, .int 0, .int 0])), (q2, .inr (12, (o12 rm)))]) [0, 9, 15] (by decide) rfl
  refine lv_aload_n hx hb dL_law_508 rfl (lv_at hl 1 rfl) ?_
  refine lv_aload_n hx hb dL_law_509 rfl (lv_at hl 0 rfl) ?_
  refine lv_iload_n hx hb dL_law_510 rfl (lv_at hl 3 rfl) ?_
  refine lv_iconst (v := 1) hx hb dL_law_511 (by decide) ?_
  refine k_iadd (v := 1) hx hb (by decide) dL_law_512 ?_
  refine va_sld hx hb hX hbl hbA hS (vpd (by decide)) dL_law_513 ?_
  have hPc := hP.sub (ws' := [(q1, .inr (11, [.ref (rx 0), .ref (rx 1), .ref (rx 2), .ref (rx 3), .ref (rx 4), .ref (rx 5), .ref (rx 6), .ref (rx 7), .ref (rx 8), .ref (rx 9), .ref (rx 10), .ref (rx 11), .ref (rx 12), .ref (rx 13), .int 1])), ((rx 10), .inr (9, [.ref (rx 26), .ref (rx 27), .ref (rx 28), .ref (rx 29), .ref (rx 30), .ref (rx 31), .int 0, .int 0, .int 0, .int 0, .int 0]))]) [0, 1] rfl
  have hDc := hD.sub (ws' := [(q1, .inr (11, [.ref (rx 0), .ref (rx 1), .ref (rx 2), .ref (rx 3), .ref (rx 4), .ref (rx 5), .ref (rx 6), .ref (rx 7), .ref (rx 8), .ref (rx 9), .ref (rx 10), .ref (rx 11), .ref (rx 12), .ref (rx 13), .int 1])), ((rx 10), .inr (9, [.ref (rx 26), .ref (rx 27), .ref (rx 28), .ref (rx 29), .ref (rx 30), .ref (rx 31), .int 0, .int 0, .int 0, .int 0, .int 0]))]) [0, 1] (by decide) rfl
  have hFc := va_free (wc := [(q1, .inr (11, [.ref (rx 0), .ref (rx 1), .ref (rx 2), .ref (rx 3), .ref (rx 4), .ref (rx 5), .ref (rx 6), .ref (rx 7), .ref (rx 8), .ref (rx 9), .ref (rx 10), .ref (rx 11), .ref (rx 12), .ref (rx 13), .int 1])), ((rx 10), .inr (9, [.ref (rx 26), .ref (rx 27), .ref (rx 28), .ref (rx 29), .ref (rx 30), .ref (rx 31), .int 0, .int 0, .int 0, .int 0, .int 0]))]) hD hS hA [0, 1] rfl
  refine va_calli (va_runV (As := [.int (xs (1 : Int32).toNatClampNeg)]) (rest := []) ⟨hx, hb, hml, hown, hts⟩ (c_X11_missing l dC dI cI cJ q1 rx (xs (1 : Int32).toNatClampNeg) H.size) (cwV 1 hts gL_law_X11_missing rfl rfl rfl (by decide +kernel) ⟨Nat.le_of_ble_eq_true rfl, Nat.le_of_ble_eq_true rfl⟩) ⟨mBlind, va_recv hK hPc (ci := 11) (q0 := 0) rfl rfl, mGo hPc hK hDc hN⟩ rfl rfl hl.1 rfl (lv_room (Nat.le_of_ble_eq_true rfl)) dL_law_514 ⟨Nat.le_of_ble_eq_true rfl, Nat.le_of_ble_eq_true rfl⟩) hS (fun q _ h => hFc q h) hFc (fun r_1 u t H1 locs ht hvm hw hB hz1 hk1 hS => ?_)
  obtain rfl : r_1 = (-1) := hw
  obtain ⟨hP, hD⟩ := va_join (wr := [(q2, .inr (12, (o12 rm)))]) (w1 := []) hP hD [0, 1] [2] rfl rfl (by decide) (by decide) hk1 hFc va_P0 va_D0
  generalize H1 = H at hP hS ⊢
  have hP : va_P (dC, dI) vwCl [(q2, .inr (12, (o12 rm)))] H := hP
  have hD : va_D A [(q2, .inr (12, (o12 rm)))] := hD
  refine lv_aload_n hx hb dL_law_517 rfl (lv_at hl 2 rfl) ?_
  refine lv_aload_n hx hb dL_law_518 rfl (lv_at hl 0 rfl) ?_
  refine lv_iload_n hx hb dL_law_519 rfl (lv_at hl 3 rfl) ?_
  refine lv_iconst (v := 1) hx hb dL_law_520 (by decide) ?_
  refine k_iadd (v := 1) hx hb (by decide) dL_law_521 ?_
  refine va_sld hx hb hX hbl hbA hS (vpd (by decide)) dL_law_522 ?_
  have hPc := hP.sub (ws' := [(q2, .inr (12, (o12 rm)))]) [0] rfl
  have hDc := hD.sub (ws' := [(q2, .inr (12, (o12 rm)))]) [0] (by decide) rfl
  have hFc := va_free (wc := [(q2, .inr (12, (o12 rm)))]) hD hS hA [0] rfl
  refine va_calli (va_runV (As := [.int (xs (1 : Int32).toNatClampNeg)]) (rest := [.int (-1)]) ⟨hx, hb, hml, hown, hts⟩ (c_X12_missing l dC dI cI cJ q2 rm (xs (1 : Int32).toNatClampNeg) H.size) (cwV 1 hts gL_law_X12_missing rfl rfl rfl (by decide +kernel) ⟨Nat.le_of_ble_eq_true rfl, Nat.le_of_ble_eq_true rfl⟩) ⟨mBlind, va_recv hK hPc (ci := 12) (q0 := 0) rfl rfl, mGo hPc hK hDc hN⟩ rfl rfl hl.1 rfl (lv_room (Nat.le_of_ble_eq_true rfl)) dL_law_523 ⟨Nat.le_of_ble_eq_true rfl, Nat.le_of_ble_eq_true rfl⟩) hS (fun q _ h => hFc q h) hFc (fun r_2 u t H1 locs ht hvm hw hB hz1 hk1 hS => ?_)
  obtain rfl : r_2 = (-1) := hw
  obtain ⟨hP, hD⟩ := va_join (wr := []) (w1 := []) hP hD [0] [] rfl rfl (by decide) (by decide) hk1 hFc va_P0 va_D0
  generalize H1 = H at hP hS ⊢
  have hP : va_P (dC, dI) vwCl [] H := hP
  have hD : va_D A [] := hD
  refine lv_icmp_eq (tgt := 1093) hx hb dL_law_526 (by decide) (fun _ => ?_) (fun c => absurd (by decide) c)
  exact law_tail hx hb hr hml hX hbl hlocks hAz hbA hS (lv_sub hl [0, 3] rfl)
set_option maxHeartbeats 4000000 in
set_option maxRecDepth 100000 in
/-- case 11: taken -/
theorem law_11 {p : Program} {l : Launch} {e : Env} {s : State} {m : MethodId} {below : List Frame} {meth : Method} {c : Code} {dC : Nat → ClassId} {dI : Nat → Nat → Nat} {cI cJ : ClassId} {b : Nat} {xs : Nat → Int32} {A : Nat → Prop} {q1 q2 : Nat} {rx rm : Nat → Nat} {og : Nat → Int32} {H : Heap} {locs : List Loc} {ls : Array Slot} (hx : p.tables.exec = Jvm.exec) (hb : c.code = code) (hr : meth.sig.returnType = ret) (hml : c.maxLocals = 4) (hown : s.vm.findClass RL = some m.cls) (hts : ∀ w ∈ lw_tbl, w.before #[Value.ref b] s = true) (hX : va_X b 6 xs s s.heap) (hbl : b < s.heap.size) (hlocks : meth.locks = false) (hA : ∀ q, s.heap.size ≤ q → A q) (hAz : ∀ q, A q → s.heap.size ≤ q) (hbA : ¬ A b) (hK : va_K (dC, dI) vwCl (ty0 cI cJ) s) (hN : gN s) (hP : va_P (dC, dI) vwCl (WX cI q1 rx ++ WM cI q2 rm og) H) (hD : va_D A (WX cI q1 rx ++ WM cI q2 rm og)) (hS : va_S A s.heap H locs) (hl : lv_has ls 4 [(0, .ref b), (1, .ref q1), (2, .ref q2), (3, .int 0)]) : W p l e room_1 s m #[Value.ref b] below meth c H locs 600000 7302250 (lw_Z below #[Value.ref b] s) (F0 m 531 ls []) := by
  have hP := hP.sub (ws' := [(q1, .inr (11, [.ref (rx 0), .ref (rx 1), .ref (rx 2), .ref (rx 3), .ref (rx 4), .ref (rx 5), .ref (rx 6), .ref (rx 7), .ref (rx 8), .ref (rx 9), .ref (rx 10), .ref (rx 11), .ref (rx 12), .ref (rx 13), .int 1])), ((rx 10), .inr (9, [.ref (rx 26), .ref (rx 27), .ref (rx 28), .ref (rx 29), .ref (rx 30), .ref (rx 31), .int 0, .int 0, .int 0, .int 0, .int 0])), (q2, .inr (12, (o12 rm)))]) [0, 9, 15] rfl
  have hD := hD.sub (ws' := [(q1, .inr (11, [.ref (rx 0), .ref (rx 1), .ref (rx 2), .ref (rx 3), .ref (rx 4), .ref (rx 5), .ref (rx 6), .ref (rx 7), .ref (rx 8), .ref (rx 9), .ref (rx 10), .ref (rx 11), .ref (rx 12), .ref (rx 13), .int 1])), ((rx 10), .inr (9, [.ref (rx 26), .ref (rx 27), .ref (rx 28), .ref (rx 29), .ref (rx 30), .ref (rx 31), .int 0, .int 0, .int 0, .int 0, .int 0])), (q2, .inr (12, (o12 rm)))]) [0, 9, 15] (by decide) rfl
  refine lv_aload_n hx hb dL_law_531 rfl (lv_at hl 1 rfl) ?_
  refine lv_aload_n hx hb dL_law_532 rfl (lv_at hl 0 rfl) ?_
  refine lv_iload_n hx hb dL_law_533 rfl (lv_at hl 3 rfl) ?_
  refine lv_iconst (v := 1) hx hb dL_law_534 (by decide) ?_
  refine k_iadd (v := 1) hx hb (by decide) dL_law_535 ?_
  refine va_sld hx hb hX hbl hbA hS (vpd (by decide)) dL_law_536 ?_
  have hPc := hP.sub (ws' := [(q1, .inr (11, [.ref (rx 0), .ref (rx 1), .ref (rx 2), .ref (rx 3), .ref (rx 4), .ref (rx 5), .ref (rx 6), .ref (rx 7), .ref (rx 8), .ref (rx 9), .ref (rx 10), .ref (rx 11), .ref (rx 12), .ref (rx 13), .int 1])), ((rx 10), .inr (9, [.ref (rx 26), .ref (rx 27), .ref (rx 28), .ref (rx 29), .ref (rx 30), .ref (rx 31), .int 0, .int 0, .int 0, .int 0, .int 0]))]) [0, 1] rfl
  have hDc := hD.sub (ws' := [(q1, .inr (11, [.ref (rx 0), .ref (rx 1), .ref (rx 2), .ref (rx 3), .ref (rx 4), .ref (rx 5), .ref (rx 6), .ref (rx 7), .ref (rx 8), .ref (rx 9), .ref (rx 10), .ref (rx 11), .ref (rx 12), .ref (rx 13), .int 1])), ((rx 10), .inr (9, [.ref (rx 26), .ref (rx 27), .ref (rx 28), .ref (rx 29), .ref (rx 30), .ref (rx 31), .int 0, .int 0, .int 0, .int 0, .int 0]))]) [0, 1] (by decide) rfl
  have hFc := va_free (wc := [(q1, .inr (11, [.ref (rx 0), .ref (rx 1), .ref (rx 2), .ref (rx 3), .ref (rx 4), .ref (rx 5), .ref (rx 6), .ref (rx 7), .ref (rx 8), .ref (rx 9), .ref (rx 10), .ref (rx 11), .ref (rx 12), .ref (rx 13), .int 1])), ((rx 10), .inr (9, [.ref (rx 26), .ref (rx 27), .ref (rx 28), .ref (rx 29), .ref (rx 30), .ref (rx 31), .int 0, .int 0, .int 0, .int 0, .int 0]))]) hD hS hA [0, 1] rfl
  refine va_calli (va_runV (As := [.int (xs (1 : Int32).toNatClampNeg)]) (rest := []) ⟨hx, hb, hml, hown, hts⟩ (c_X11_taken l dC dI cI cJ q1 rx (xs (1 : Int32).toNatClampNeg) H.size) (cwV 1 hts gL_law_X11_taken rfl rfl rfl (by decide +kernel) ⟨Nat.le_of_ble_eq_true rfl, Nat.le_of_ble_eq_true rfl⟩) ⟨mBlind, va_recv hK hPc (ci := 11) (q0 := 0) rfl rfl, mGo hPc hK hDc hN⟩ rfl rfl hl.1 rfl (lv_room (Nat.le_of_ble_eq_true rfl)) dL_law_537 ⟨Nat.le_of_ble_eq_true rfl, Nat.le_of_ble_eq_true rfl⟩) hS (fun q _ h => hFc q h) hFc (fun r_1 u t H1 locs ht hvm hw hB hz1 hk1 hS => ?_)
  obtain rfl : r_1 = (-1) := hw
  obtain ⟨hP, hD⟩ := va_join (wr := [(q2, .inr (12, (o12 rm)))]) (w1 := []) hP hD [0, 1] [2] rfl rfl (by decide) (by decide) hk1 hFc va_P0 va_D0
  generalize H1 = H at hP hS ⊢
  have hP : va_P (dC, dI) vwCl [(q2, .inr (12, (o12 rm)))] H := hP
  have hD : va_D A [(q2, .inr (12, (o12 rm)))] := hD
  refine lv_aload_n hx hb dL_law_540 rfl (lv_at hl 2 rfl) ?_
  refine lv_aload_n hx hb dL_law_541 rfl (lv_at hl 0 rfl) ?_
  refine lv_iload_n hx hb dL_law_542 rfl (lv_at hl 3 rfl) ?_
  refine lv_iconst (v := 1) hx hb dL_law_543 (by decide) ?_
  refine k_iadd (v := 1) hx hb (by decide) dL_law_544 ?_
  refine va_sld hx hb hX hbl hbA hS (vpd (by decide)) dL_law_545 ?_
  have hPc := hP.sub (ws' := [(q2, .inr (12, (o12 rm)))]) [0] rfl
  have hDc := hD.sub (ws' := [(q2, .inr (12, (o12 rm)))]) [0] (by decide) rfl
  have hFc := va_free (wc := [(q2, .inr (12, (o12 rm)))]) hD hS hA [0] rfl
  refine va_calli (va_runV (As := [.int (xs (1 : Int32).toNatClampNeg)]) (rest := [.int (-1)]) ⟨hx, hb, hml, hown, hts⟩ (c_X12_taken l dC dI cI cJ q2 rm (xs (1 : Int32).toNatClampNeg) H.size) (cwV 1 hts gL_law_X12_taken rfl rfl rfl (by decide +kernel) ⟨Nat.le_of_ble_eq_true rfl, Nat.le_of_ble_eq_true rfl⟩) ⟨mBlind, va_recv hK hPc (ci := 12) (q0 := 0) rfl rfl, mGo hPc hK hDc hN⟩ rfl rfl hl.1 rfl (lv_room (Nat.le_of_ble_eq_true rfl)) dL_law_546 ⟨Nat.le_of_ble_eq_true rfl, Nat.le_of_ble_eq_true rfl⟩) hS (fun q _ h => hFc q h) hFc (fun r_2 u t H1 locs ht hvm hw hB hz1 hk1 hS => ?_)
  obtain rfl : r_2 = (-1) := hw
  obtain ⟨hP, hD⟩ := va_join (wr := []) (w1 := []) hP hD [0] [] rfl rfl (by decide) (by decide) hk1 hFc va_P0 va_D0
  generalize H1 = H at hP hS ⊢
  have hP : va_P (dC, dI) vwCl [] H := hP
  have hD : va_D A [] := hD
  refine lv_icmp_eq (tgt := 1093) hx hb dL_law_549 (by decide) (fun _ => ?_) (fun c => absurd (by decide) c)
  exact law_tail hx hb hr hml hX hbl hlocks hAz hbA hS (lv_sub hl [0, 3] rfl)
set_option maxHeartbeats 4000000 in
set_option maxRecDepth 100000 in
/-- case 12: row -/
theorem law_12 {p : Program} {l : Launch} {e : Env} {s : State} {m : MethodId} {below : List Frame} {meth : Method} {c : Code} {dC : Nat → ClassId} {dI : Nat → Nat → Nat} {cI cJ : ClassId} {b : Nat} {xs : Nat → Int32} {A : Nat → Prop} {q1 q2 : Nat} {rx rm : Nat → Nat} {og : Nat → Int32} {H : Heap} {locs : List Loc} {ls : Array Slot} (hx : p.tables.exec = Jvm.exec) (hb : c.code = code) (hr : meth.sig.returnType = ret) (hml : c.maxLocals = 4) (hown : s.vm.findClass RL = some m.cls) (hts : ∀ w ∈ lw_tbl, w.before #[Value.ref b] s = true) (hX : va_X b 6 xs s s.heap) (hbl : b < s.heap.size) (hlocks : meth.locks = false) (hA : ∀ q, s.heap.size ≤ q → A q) (hAz : ∀ q, A q → s.heap.size ≤ q) (hbA : ¬ A b) (hK : va_K (dC, dI) vwCl (ty0 cI cJ) s) (hN : gN s) (hP : va_P (dC, dI) vwCl (WX cI q1 rx ++ WM cI q2 rm og) H) (hD : va_D A (WX cI q1 rx ++ WM cI q2 rm og)) (hS : va_S A s.heap H locs) (hl : lv_has ls 4 [(0, .ref b), (1, .ref q1), (2, .ref q2), (3, .int 0)]) : W p l e room_1 s m #[Value.ref b] below meth c H locs 600000 7302250 (lw_Z below #[Value.ref b] s) (F0 m 554 ls []) := by
  have hP := hP.sub (ws' := [(q1, .inr (11, [.ref (rx 0), .ref (rx 1), .ref (rx 2), .ref (rx 3), .ref (rx 4), .ref (rx 5), .ref (rx 6), .ref (rx 7), .ref (rx 8), .ref (rx 9), .ref (rx 10), .ref (rx 11), .ref (rx 12), .ref (rx 13), .int 1])), ((rx 12), .inr (6, [.ref (rx 56), .ref (rx 57), .ref (rx 10), .int 0, .int (-1)])), ((rx 56), .inr (7, [.ref (rx 58), .ref (rx 59), .int 0, .int 0, .int 0, .int 0, .int 0, .int 0, .int 0])), ((rx 10), .inr (9, [.ref (rx 26), .ref (rx 27), .ref (rx 28), .ref (rx 29), .ref (rx 30), .ref (rx 31), .int 0, .int 0, .int 0, .int 0, .int 0])), ((rx 0), .inr (1, [.ref (rx 14), .int 0])), ((rx 14), .inl (cI, 1600, .inl (fun _ => 0))), ((rx 9), .inl (cI, 6, .inl (fun _ => 0))), (q2, .inr (12, (o12 rm))), ((rm 10), .inl (cI, 2, .inl (fun _ => 0))), ((rm 27), .inl (cI, 6, .inl (fun _ => 0)))]) [0, 13, 14, 9, 1, 2, 8, 15, 19, 23] rfl
  have hD := hD.sub (ws' := [(q1, .inr (11, [.ref (rx 0), .ref (rx 1), .ref (rx 2), .ref (rx 3), .ref (rx 4), .ref (rx 5), .ref (rx 6), .ref (rx 7), .ref (rx 8), .ref (rx 9), .ref (rx 10), .ref (rx 11), .ref (rx 12), .ref (rx 13), .int 1])), ((rx 12), .inr (6, [.ref (rx 56), .ref (rx 57), .ref (rx 10), .int 0, .int (-1)])), ((rx 56), .inr (7, [.ref (rx 58), .ref (rx 59), .int 0, .int 0, .int 0, .int 0, .int 0, .int 0, .int 0])), ((rx 10), .inr (9, [.ref (rx 26), .ref (rx 27), .ref (rx 28), .ref (rx 29), .ref (rx 30), .ref (rx 31), .int 0, .int 0, .int 0, .int 0, .int 0])), ((rx 0), .inr (1, [.ref (rx 14), .int 0])), ((rx 14), .inl (cI, 1600, .inl (fun _ => 0))), ((rx 9), .inl (cI, 6, .inl (fun _ => 0))), (q2, .inr (12, (o12 rm))), ((rm 10), .inl (cI, 2, .inl (fun _ => 0))), ((rm 27), .inl (cI, 6, .inl (fun _ => 0)))]) [0, 13, 14, 9, 1, 2, 8, 15, 19, 23] (by decide) rfl
  refine lv_aload_n hx hb dL_law_554 rfl (lv_at hl 1 rfl) ?_
  have hPc := hP.sub (ws' := [(q1, .inr (11, [.ref (rx 0), .ref (rx 1), .ref (rx 2), .ref (rx 3), .ref (rx 4), .ref (rx 5), .ref (rx 6), .ref (rx 7), .ref (rx 8), .ref (rx 9), .ref (rx 10), .ref (rx 11), .ref (rx 12), .ref (rx 13), .int 1])), ((rx 12), .inr (6, [.ref (rx 56), .ref (rx 57), .ref (rx 10), .int 0, .int (-1)])), ((rx 56), .inr (7, [.ref (rx 58), .ref (rx 59), .int 0, .int 0, .int 0, .int 0, .int 0, .int 0, .int 0])), ((rx 10), .inr (9, [.ref (rx 26), .ref (rx 27), .ref (rx 28), .ref (rx 29), .ref (rx 30), .ref (rx 31), .int 0, .int 0, .int 0, .int 0, .int 0])), ((rx 0), .inr (1, [.ref (rx 14), .int 0])), ((rx 14), .inl (cI, 1600, .inl (fun _ => 0))), ((rx 9), .inl (cI, 6, .inl (fun _ => 0)))]) [0, 1, 2, 3, 4, 5, 6] rfl
  have hDc := hD.sub (ws' := [(q1, .inr (11, [.ref (rx 0), .ref (rx 1), .ref (rx 2), .ref (rx 3), .ref (rx 4), .ref (rx 5), .ref (rx 6), .ref (rx 7), .ref (rx 8), .ref (rx 9), .ref (rx 10), .ref (rx 11), .ref (rx 12), .ref (rx 13), .int 1])), ((rx 12), .inr (6, [.ref (rx 56), .ref (rx 57), .ref (rx 10), .int 0, .int (-1)])), ((rx 56), .inr (7, [.ref (rx 58), .ref (rx 59), .int 0, .int 0, .int 0, .int 0, .int 0, .int 0, .int 0])), ((rx 10), .inr (9, [.ref (rx 26), .ref (rx 27), .ref (rx 28), .ref (rx 29), .ref (rx 30), .ref (rx 31), .int 0, .int 0, .int 0, .int 0, .int 0])), ((rx 0), .inr (1, [.ref (rx 14), .int 0])), ((rx 14), .inl (cI, 1600, .inl (fun _ => 0))), ((rx 9), .inl (cI, 6, .inl (fun _ => 0)))]) [0, 1, 2, 3, 4, 5, 6] (by decide) rfl
  have hFc := va_free (wc := [(q1, .inr (11, [.ref (rx 0), .ref (rx 1), .ref (rx 2), .ref (rx 3), .ref (rx 4), .ref (rx 5), .ref (rx 6), .ref (rx 7), .ref (rx 8), .ref (rx 9), .ref (rx 10), .ref (rx 11), .ref (rx 12), .ref (rx 13), .int 1])), ((rx 12), .inr (6, [.ref (rx 56), .ref (rx 57), .ref (rx 10), .int 0, .int (-1)])), ((rx 56), .inr (7, [.ref (rx 58), .ref (rx 59), .int 0, .int 0, .int 0, .int 0, .int 0, .int 0, .int 0])), ((rx 10), .inr (9, [.ref (rx 26), .ref (rx 27), .ref (rx 28), .ref (rx 29), .ref (rx 30), .ref (rx 31), .int 0, .int 0, .int 0, .int 0, .int 0])), ((rx 0), .inr (1, [.ref (rx 14), .int 0])), ((rx 14), .inl (cI, 1600, .inl (fun _ => 0))), ((rx 9), .inl (cI, 6, .inl (fun _ => 0)))]) hD hS hA [0, 1, 2, 3, 4, 5, 6] rfl
  refine va_calli (va_runV (As := []) (rest := []) ⟨hx, hb, hml, hown, hts⟩ (c_X11_row l dC dI cI cJ q1 rx H.size) (cwV 0 hts gL_law_X11_row rfl rfl rfl (by decide +kernel) ⟨Nat.le_of_ble_eq_true rfl, Nat.le_of_ble_eq_true rfl⟩) ⟨mBlind, va_recv hK hPc (ci := 11) (q0 := 0) rfl rfl, mGo hPc hK hDc hN⟩ rfl rfl hl.1 rfl (lv_room (Nat.le_of_ble_eq_true rfl)) dL_law_555 ⟨Nat.le_of_ble_eq_true rfl, Nat.le_of_ble_eq_true rfl⟩) hS (fun q _ h => hFc q h) hFc (fun r_1 u t H1 locs ht hvm hw hB hz1 hk1 hS => ?_)
  obtain rfl : r_1 = (-1) := hw
  obtain ⟨hP, hD⟩ := va_join (wr := [(q2, .inr (12, (o12 rm))), ((rm 10), .inl (cI, 2, .inl (fun _ => 0))), ((rm 27), .inl (cI, 6, .inl (fun _ => 0)))]) (w1 := []) hP hD [0, 1, 2, 3, 4, 5, 6] [7, 8, 9] rfl rfl (by decide) (by decide) hk1 hFc va_P0 va_D0
  generalize H1 = H at hP hS ⊢
  have hP : va_P (dC, dI) vwCl [(q2, .inr (12, (o12 rm))), ((rm 10), .inl (cI, 2, .inl (fun _ => 0))), ((rm 27), .inl (cI, 6, .inl (fun _ => 0)))] H := hP
  have hD : va_D A [(q2, .inr (12, (o12 rm))), ((rm 10), .inl (cI, 2, .inl (fun _ => 0))), ((rm 27), .inl (cI, 6, .inl (fun _ => 0)))] := hD
  refine lv_aload_n hx hb dL_law_558 rfl (lv_at hl 2 rfl) ?_
  have hPc := hP.sub (ws' := [(q2, .inr (12, (o12 rm))), ((rm 10), .inl (cI, 2, .inl (fun _ => 0))), ((rm 27), .inl (cI, 6, .inl (fun _ => 0)))]) [0, 1, 2] rfl
  have hDc := hD.sub (ws' := [(q2, .inr (12, (o12 rm))), ((rm 10), .inl (cI, 2, .inl (fun _ => 0))), ((rm 27), .inl (cI, 6, .inl (fun _ => 0)))]) [0, 1, 2] (by decide) rfl
  have hFc := va_free (wc := [(q2, .inr (12, (o12 rm))), ((rm 10), .inl (cI, 2, .inl (fun _ => 0))), ((rm 27), .inl (cI, 6, .inl (fun _ => 0)))]) hD hS hA [0, 1, 2] rfl
  refine va_calli (va_runV (As := []) (rest := [.int (-1)]) ⟨hx, hb, hml, hown, hts⟩ (c_X12_row l dC dI cI cJ q2 rm H.size) (cwV 0 hts gL_law_X12_row rfl rfl rfl (by decide +kernel) ⟨Nat.le_of_ble_eq_true rfl, Nat.le_of_ble_eq_true rfl⟩) ⟨mBlind, va_recv hK hPc (ci := 12) (q0 := 0) rfl rfl, mGo hPc hK hDc hN⟩ rfl rfl hl.1 rfl (lv_room (Nat.le_of_ble_eq_true rfl)) dL_law_559 ⟨Nat.le_of_ble_eq_true rfl, Nat.le_of_ble_eq_true rfl⟩) hS (fun q _ h => hFc q h) hFc (fun r_2 u t H1 locs ht hvm hw hB hz1 hk1 hS => ?_)
  obtain rfl : r_2 = (-1) := hw
  obtain ⟨hP, hD⟩ := va_join (wr := []) (w1 := []) hP hD [0, 1, 2] [] rfl rfl (by decide) (by decide) hk1 hFc va_P0 va_D0
  generalize H1 = H at hP hS ⊢
  have hP : va_P (dC, dI) vwCl [] H := hP
  have hD : va_D A [] := hD
  refine lv_icmp_eq (tgt := 1093) hx hb dL_law_562 (by decide) (fun _ => ?_) (fun c => absurd (by decide) c)
  exact law_tail hx hb hr hml hX hbl hlocks hAz hbA hS (lv_sub hl [0, 3] rfl)
set_option maxHeartbeats 4000000 in
set_option maxRecDepth 100000 in
/-- case 13: text -/
theorem law_13 {p : Program} {l : Launch} {e : Env} {s : State} {m : MethodId} {below : List Frame} {meth : Method} {c : Code} {dC : Nat → ClassId} {dI : Nat → Nat → Nat} {cI cJ : ClassId} {b : Nat} {xs : Nat → Int32} {A : Nat → Prop} {q1 q2 : Nat} {rx rm : Nat → Nat} {og : Nat → Int32} {H : Heap} {locs : List Loc} {ls : Array Slot} (hx : p.tables.exec = Jvm.exec) (hb : c.code = code) (hr : meth.sig.returnType = ret) (hml : c.maxLocals = 4) (hown : s.vm.findClass RL = some m.cls) (hts : ∀ w ∈ lw_tbl, w.before #[Value.ref b] s = true) (hX : va_X b 6 xs s s.heap) (hbl : b < s.heap.size) (hlocks : meth.locks = false) (hA : ∀ q, s.heap.size ≤ q → A q) (hAz : ∀ q, A q → s.heap.size ≤ q) (hbA : ¬ A b) (hK : va_K (dC, dI) vwCl (ty0 cI cJ) s) (hN : gN s) (hP : va_P (dC, dI) vwCl (WX cI q1 rx ++ WM cI q2 rm og) H) (hD : va_D A (WX cI q1 rx ++ WM cI q2 rm og)) (hS : va_S A s.heap H locs) (hl : lv_has ls 4 [(0, .ref b), (1, .ref q1), (2, .ref q2), (3, .int 0)]) : W p l e room_1 s m #[Value.ref b] below meth c H locs 600000 7302250 (lw_Z below #[Value.ref b] s) (F0 m 567 ls []) := by
  have hP := hP.sub (ws' := [(q1, .inr (11, [.ref (rx 0), .ref (rx 1), .ref (rx 2), .ref (rx 3), .ref (rx 4), .ref (rx 5), .ref (rx 6), .ref (rx 7), .ref (rx 8), .ref (rx 9), .ref (rx 10), .ref (rx 11), .ref (rx 12), .ref (rx 13), .int 1])), ((rx 10), .inr (9, [.ref (rx 26), .ref (rx 27), .ref (rx 28), .ref (rx 29), .ref (rx 30), .ref (rx 31), .int 0, .int 0, .int 0, .int 0, .int 0])), (q2, .inr (12, (o12 rm)))]) [0, 9, 15] rfl
  have hD := hD.sub (ws' := [(q1, .inr (11, [.ref (rx 0), .ref (rx 1), .ref (rx 2), .ref (rx 3), .ref (rx 4), .ref (rx 5), .ref (rx 6), .ref (rx 7), .ref (rx 8), .ref (rx 9), .ref (rx 10), .ref (rx 11), .ref (rx 12), .ref (rx 13), .int 1])), ((rx 10), .inr (9, [.ref (rx 26), .ref (rx 27), .ref (rx 28), .ref (rx 29), .ref (rx 30), .ref (rx 31), .int 0, .int 0, .int 0, .int 0, .int 0])), (q2, .inr (12, (o12 rm)))]) [0, 9, 15] (by decide) rfl
  refine lv_aload_n hx hb dL_law_567 rfl (lv_at hl 1 rfl) ?_
  refine lv_aload_n hx hb dL_law_568 rfl (lv_at hl 0 rfl) ?_
  refine lv_iload_n hx hb dL_law_569 rfl (lv_at hl 3 rfl) ?_
  refine lv_iconst (v := 1) hx hb dL_law_570 (by decide) ?_
  refine k_iadd (v := 1) hx hb (by decide) dL_law_571 ?_
  refine va_sld hx hb hX hbl hbA hS (vpd (by decide)) dL_law_572 ?_
  have hPc := hP.sub (ws' := [(q1, .inr (11, [.ref (rx 0), .ref (rx 1), .ref (rx 2), .ref (rx 3), .ref (rx 4), .ref (rx 5), .ref (rx 6), .ref (rx 7), .ref (rx 8), .ref (rx 9), .ref (rx 10), .ref (rx 11), .ref (rx 12), .ref (rx 13), .int 1])), ((rx 10), .inr (9, [.ref (rx 26), .ref (rx 27), .ref (rx 28), .ref (rx 29), .ref (rx 30), .ref (rx 31), .int 0, .int 0, .int 0, .int 0, .int 0]))]) [0, 1] rfl
  have hDc := hD.sub (ws' := [(q1, .inr (11, [.ref (rx 0), .ref (rx 1), .ref (rx 2), .ref (rx 3), .ref (rx 4), .ref (rx 5), .ref (rx 6), .ref (rx 7), .ref (rx 8), .ref (rx 9), .ref (rx 10), .ref (rx 11), .ref (rx 12), .ref (rx 13), .int 1])), ((rx 10), .inr (9, [.ref (rx 26), .ref (rx 27), .ref (rx 28), .ref (rx 29), .ref (rx 30), .ref (rx 31), .int 0, .int 0, .int 0, .int 0, .int 0]))]) [0, 1] (by decide) rfl
  have hFc := va_free (wc := [(q1, .inr (11, [.ref (rx 0), .ref (rx 1), .ref (rx 2), .ref (rx 3), .ref (rx 4), .ref (rx 5), .ref (rx 6), .ref (rx 7), .ref (rx 8), .ref (rx 9), .ref (rx 10), .ref (rx 11), .ref (rx 12), .ref (rx 13), .int 1])), ((rx 10), .inr (9, [.ref (rx 26), .ref (rx 27), .ref (rx 28), .ref (rx 29), .ref (rx 30), .ref (rx 31), .int 0, .int 0, .int 0, .int 0, .int 0]))]) hD hS hA [0, 1] rfl
  refine va_calli (va_runV (As := [.int (xs (1 : Int32).toNatClampNeg)]) (rest := []) ⟨hx, hb, hml, hown, hts⟩ (c_X11_text l dC dI cI cJ q1 rx (xs (1 : Int32).toNatClampNeg) H.size) (cwV 1 hts gL_law_X11_text rfl rfl rfl (by decide +kernel) ⟨Nat.le_of_ble_eq_true rfl, Nat.le_of_ble_eq_true rfl⟩) ⟨mBlind, va_recv hK hPc (ci := 11) (q0 := 0) rfl rfl, mGo hPc hK hDc hN⟩ rfl rfl hl.1 rfl (lv_room (Nat.le_of_ble_eq_true rfl)) dL_law_573 ⟨Nat.le_of_ble_eq_true rfl, Nat.le_of_ble_eq_true rfl⟩) hS (fun q _ h => hFc q h) hFc (fun r_1 u t H1 locs ht hvm hw hB hz1 hk1 hS => ?_)
  obtain rfl : r_1 = (-1) := hw
  obtain ⟨hP, hD⟩ := va_join (wr := [(q2, .inr (12, (o12 rm)))]) (w1 := []) hP hD [0, 1] [2] rfl rfl (by decide) (by decide) hk1 hFc va_P0 va_D0
  generalize H1 = H at hP hS ⊢
  have hP : va_P (dC, dI) vwCl [(q2, .inr (12, (o12 rm)))] H := hP
  have hD : va_D A [(q2, .inr (12, (o12 rm)))] := hD
  refine lv_aload_n hx hb dL_law_576 rfl (lv_at hl 2 rfl) ?_
  refine lv_aload_n hx hb dL_law_577 rfl (lv_at hl 0 rfl) ?_
  refine lv_iload_n hx hb dL_law_578 rfl (lv_at hl 3 rfl) ?_
  refine lv_iconst (v := 1) hx hb dL_law_579 (by decide) ?_
  refine k_iadd (v := 1) hx hb (by decide) dL_law_580 ?_
  refine va_sld hx hb hX hbl hbA hS (vpd (by decide)) dL_law_581 ?_
  have hPc := hP.sub (ws' := [(q2, .inr (12, (o12 rm)))]) [0] rfl
  have hDc := hD.sub (ws' := [(q2, .inr (12, (o12 rm)))]) [0] (by decide) rfl
  have hFc := va_free (wc := [(q2, .inr (12, (o12 rm)))]) hD hS hA [0] rfl
  refine va_calli (va_runV (As := [.int (xs (1 : Int32).toNatClampNeg)]) (rest := [.int (-1)]) ⟨hx, hb, hml, hown, hts⟩ (c_X12_text l dC dI cI cJ q2 rm (xs (1 : Int32).toNatClampNeg) H.size) (cwV 1 hts gL_law_X12_text rfl rfl rfl (by decide +kernel) ⟨Nat.le_of_ble_eq_true rfl, Nat.le_of_ble_eq_true rfl⟩) ⟨mBlind, va_recv hK hPc (ci := 12) (q0 := 0) rfl rfl, mGo hPc hK hDc hN⟩ rfl rfl hl.1 rfl (lv_room (Nat.le_of_ble_eq_true rfl)) dL_law_582 ⟨Nat.le_of_ble_eq_true rfl, Nat.le_of_ble_eq_true rfl⟩) hS (fun q _ h => hFc q h) hFc (fun r_2 u t H1 locs ht hvm hw hB hz1 hk1 hS => ?_)
  obtain rfl : r_2 = (-1) := hw
  obtain ⟨hP, hD⟩ := va_join (wr := []) (w1 := []) hP hD [0] [] rfl rfl (by decide) (by decide) hk1 hFc va_P0 va_D0
  generalize H1 = H at hP hS ⊢
  have hP : va_P (dC, dI) vwCl [] H := hP
  have hD : va_D A [] := hD
  refine lv_icmp_eq (tgt := 1093) hx hb dL_law_585 (by decide) (fun _ => ?_) (fun c => absurd (by decide) c)
  exact law_tail hx hb hr hml hX hbl hlocks hAz hbA hS (lv_sub hl [0, 3] rfl)
set_option maxHeartbeats 4000000 in
set_option maxRecDepth 100000 in
/-- case 14: octet -/
theorem law_14 {p : Program} {l : Launch} {e : Env} {s : State} {m : MethodId} {below : List Frame} {meth : Method} {c : Code} {dC : Nat → ClassId} {dI : Nat → Nat → Nat} {cI cJ : ClassId} {b : Nat} {xs : Nat → Int32} {A : Nat → Prop} {q1 q2 : Nat} {rx rm : Nat → Nat} {og : Nat → Int32} {H : Heap} {locs : List Loc} {ls : Array Slot} (hx : p.tables.exec = Jvm.exec) (hb : c.code = code) (hr : meth.sig.returnType = ret) (hml : c.maxLocals = 4) (hown : s.vm.findClass RL = some m.cls) (hts : ∀ w ∈ lw_tbl, w.before #[Value.ref b] s = true) (hX : va_X b 6 xs s s.heap) (hbl : b < s.heap.size) (hlocks : meth.locks = false) (hA : ∀ q, s.heap.size ≤ q → A q) (hAz : ∀ q, A q → s.heap.size ≤ q) (hbA : ¬ A b) (hK : va_K (dC, dI) vwCl (ty0 cI cJ) s) (hN : gN s) (hP : va_P (dC, dI) vwCl (WX cI q1 rx ++ WM cI q2 rm og) H) (hD : va_D A (WX cI q1 rx ++ WM cI q2 rm og)) (hS : va_S A s.heap H locs) (hl : lv_has ls 4 [(0, .ref b), (1, .ref q1), (2, .ref q2), (3, .int 0)]) : W p l e room_1 s m #[Value.ref b] below meth c H locs 600000 7302250 (lw_Z below #[Value.ref b] s) (F0 m 590 ls []) := by
  have hP := hP.sub (ws' := [(q1, .inr (11, [.ref (rx 0), .ref (rx 1), .ref (rx 2), .ref (rx 3), .ref (rx 4), .ref (rx 5), .ref (rx 6), .ref (rx 7), .ref (rx 8), .ref (rx 9), .ref (rx 10), .ref (rx 11), .ref (rx 12), .ref (rx 13), .int 1])), ((rx 1), .inr (1, [.ref (rx 15), .int 0])), (q2, .inr (12, (o12 rm)))]) [0, 3, 15] rfl
  have hD := hD.sub (ws' := [(q1, .inr (11, [.ref (rx 0), .ref (rx 1), .ref (rx 2), .ref (rx 3), .ref (rx 4), .ref (rx 5), .ref (rx 6), .ref (rx 7), .ref (rx 8), .ref (rx 9), .ref (rx 10), .ref (rx 11), .ref (rx 12), .ref (rx 13), .int 1])), ((rx 1), .inr (1, [.ref (rx 15), .int 0])), (q2, .inr (12, (o12 rm)))]) [0, 3, 15] (by decide) rfl
  refine lv_aload_n hx hb dL_law_590 rfl (lv_at hl 1 rfl) ?_
  refine lv_aload_n hx hb dL_law_591 rfl (lv_at hl 0 rfl) ?_
  refine lv_iload_n hx hb dL_law_592 rfl (lv_at hl 3 rfl) ?_
  refine lv_iconst (v := 1) hx hb dL_law_593 (by decide) ?_
  refine k_iadd (v := 1) hx hb (by decide) dL_law_594 ?_
  refine va_sld hx hb hX hbl hbA hS (vpd (by decide)) dL_law_595 ?_
  have hPc := hP.sub (ws' := [(q1, .inr (11, [.ref (rx 0), .ref (rx 1), .ref (rx 2), .ref (rx 3), .ref (rx 4), .ref (rx 5), .ref (rx 6), .ref (rx 7), .ref (rx 8), .ref (rx 9), .ref (rx 10), .ref (rx 11), .ref (rx 12), .ref (rx 13), .int 1])), ((rx 1), .inr (1, [.ref (rx 15), .int 0]))]) [0, 1] rfl
  have hDc := hD.sub (ws' := [(q1, .inr (11, [.ref (rx 0), .ref (rx 1), .ref (rx 2), .ref (rx 3), .ref (rx 4), .ref (rx 5), .ref (rx 6), .ref (rx 7), .ref (rx 8), .ref (rx 9), .ref (rx 10), .ref (rx 11), .ref (rx 12), .ref (rx 13), .int 1])), ((rx 1), .inr (1, [.ref (rx 15), .int 0]))]) [0, 1] (by decide) rfl
  have hFc := va_free (wc := [(q1, .inr (11, [.ref (rx 0), .ref (rx 1), .ref (rx 2), .ref (rx 3), .ref (rx 4), .ref (rx 5), .ref (rx 6), .ref (rx 7), .ref (rx 8), .ref (rx 9), .ref (rx 10), .ref (rx 11), .ref (rx 12), .ref (rx 13), .int 1])), ((rx 1), .inr (1, [.ref (rx 15), .int 0]))]) hD hS hA [0, 1] rfl
  refine va_calli (va_runV (As := [.int (xs (1 : Int32).toNatClampNeg)]) (rest := []) ⟨hx, hb, hml, hown, hts⟩ (c_X11_octet l dC dI cI cJ q1 rx (xs (1 : Int32).toNatClampNeg) H.size) (cwV 1 hts gL_law_X11_octet rfl rfl rfl (by decide +kernel) ⟨Nat.le_of_ble_eq_true rfl, Nat.le_of_ble_eq_true rfl⟩) ⟨mBlind, va_recv hK hPc (ci := 11) (q0 := 0) rfl rfl, mGo hPc hK hDc hN⟩ rfl rfl hl.1 rfl (lv_room (Nat.le_of_ble_eq_true rfl)) dL_law_596 ⟨Nat.le_of_ble_eq_true rfl, Nat.le_of_ble_eq_true rfl⟩) hS (fun q _ h => hFc q h) hFc (fun r_1 u t H1 locs ht hvm hw hB hz1 hk1 hS => ?_)
  obtain rfl : r_1 = (-1) := hw
  obtain ⟨hP, hD⟩ := va_join (wr := [(q2, .inr (12, (o12 rm)))]) (w1 := []) hP hD [0, 1] [2] rfl rfl (by decide) (by decide) hk1 hFc va_P0 va_D0
  generalize H1 = H at hP hS ⊢
  have hP : va_P (dC, dI) vwCl [(q2, .inr (12, (o12 rm)))] H := hP
  have hD : va_D A [(q2, .inr (12, (o12 rm)))] := hD
  refine lv_aload_n hx hb dL_law_599 rfl (lv_at hl 2 rfl) ?_
  refine lv_aload_n hx hb dL_law_600 rfl (lv_at hl 0 rfl) ?_
  refine lv_iload_n hx hb dL_law_601 rfl (lv_at hl 3 rfl) ?_
  refine lv_iconst (v := 1) hx hb dL_law_602 (by decide) ?_
  refine k_iadd (v := 1) hx hb (by decide) dL_law_603 ?_
  refine va_sld hx hb hX hbl hbA hS (vpd (by decide)) dL_law_604 ?_
  have hPc := hP.sub (ws' := [(q2, .inr (12, (o12 rm)))]) [0] rfl
  have hDc := hD.sub (ws' := [(q2, .inr (12, (o12 rm)))]) [0] (by decide) rfl
  have hFc := va_free (wc := [(q2, .inr (12, (o12 rm)))]) hD hS hA [0] rfl
  refine va_calli (va_runV (As := [.int (xs (1 : Int32).toNatClampNeg)]) (rest := [.int (-1)]) ⟨hx, hb, hml, hown, hts⟩ (c_X12_octet l dC dI cI cJ q2 rm (xs (1 : Int32).toNatClampNeg) H.size) (cwV 1 hts gL_law_X12_octet rfl rfl rfl (by decide +kernel) ⟨Nat.le_of_ble_eq_true rfl, Nat.le_of_ble_eq_true rfl⟩) ⟨mBlind, va_recv hK hPc (ci := 12) (q0 := 0) rfl rfl, mGo hPc hK hDc hN⟩ rfl rfl hl.1 rfl (lv_room (Nat.le_of_ble_eq_true rfl)) dL_law_605 ⟨Nat.le_of_ble_eq_true rfl, Nat.le_of_ble_eq_true rfl⟩) hS (fun q _ h => hFc q h) hFc (fun r_2 u t H1 locs ht hvm hw hB hz1 hk1 hS => ?_)
  obtain rfl : r_2 = (-1) := hw
  obtain ⟨hP, hD⟩ := va_join (wr := []) (w1 := []) hP hD [0] [] rfl rfl (by decide) (by decide) hk1 hFc va_P0 va_D0
  generalize H1 = H at hP hS ⊢
  have hP : va_P (dC, dI) vwCl [] H := hP
  have hD : va_D A [] := hD
  refine lv_icmp_eq (tgt := 1093) hx hb dL_law_608 (by decide) (fun _ => ?_) (fun c => absurd (by decide) c)
  exact law_tail hx hb hr hml hX hbl hlocks hAz hbA hS (lv_sub hl [0, 3] rfl)
set_option maxHeartbeats 4000000 in
set_option maxRecDepth 100000 in
/-- case 15: tree -/
theorem law_15 {p : Program} {l : Launch} {e : Env} {s : State} {m : MethodId} {below : List Frame} {meth : Method} {c : Code} {dC : Nat → ClassId} {dI : Nat → Nat → Nat} {cI cJ : ClassId} {b : Nat} {xs : Nat → Int32} {A : Nat → Prop} {q1 q2 : Nat} {rx rm : Nat → Nat} {og : Nat → Int32} {H : Heap} {locs : List Loc} {ls : Array Slot} (hx : p.tables.exec = Jvm.exec) (hb : c.code = code) (hr : meth.sig.returnType = ret) (hml : c.maxLocals = 4) (hown : s.vm.findClass RL = some m.cls) (hts : ∀ w ∈ lw_tbl, w.before #[Value.ref b] s = true) (hX : va_X b 6 xs s s.heap) (hbl : b < s.heap.size) (hlocks : meth.locks = false) (hA : ∀ q, s.heap.size ≤ q → A q) (hAz : ∀ q, A q → s.heap.size ≤ q) (hbA : ¬ A b) (hK : va_K (dC, dI) vwCl (ty0 cI cJ) s) (hN : gN s) (hP : va_P (dC, dI) vwCl (WX cI q1 rx ++ WM cI q2 rm og) H) (hD : va_D A (WX cI q1 rx ++ WM cI q2 rm og)) (hS : va_S A s.heap H locs) (hl : lv_has ls 4 [(0, .ref b), (1, .ref q1), (2, .ref q2), (3, .int 0)]) : W p l e room_1 s m #[Value.ref b] below meth c H locs 600000 7302250 (lw_Z below #[Value.ref b] s) (F0 m 613 ls []) := by
  have hP := hP.sub (ws' := [(q1, .inr (11, [.ref (rx 0), .ref (rx 1), .ref (rx 2), .ref (rx 3), .ref (rx 4), .ref (rx 5), .ref (rx 6), .ref (rx 7), .ref (rx 8), .ref (rx 9), .ref (rx 10), .ref (rx 11), .ref (rx 12), .ref (rx 13), .int 1])), ((rx 10), .inr (9, [.ref (rx 26), .ref (rx 27), .ref (rx 28), .ref (rx 29), .ref (rx 30), .ref (rx 31), .int 0, .int 0, .int 0, .int 0, .int 0])), (q2, .inr (12, (o12 rm)))]) [0, 9, 15] rfl
  have hD := hD.sub (ws' := [(q1, .inr (11, [.ref (rx 0), .ref (rx 1), .ref (rx 2), .ref (rx 3), .ref (rx 4), .ref (rx 5), .ref (rx 6), .ref (rx 7), .ref (rx 8), .ref (rx 9), .ref (rx 10), .ref (rx 11), .ref (rx 12), .ref (rx 13), .int 1])), ((rx 10), .inr (9, [.ref (rx 26), .ref (rx 27), .ref (rx 28), .ref (rx 29), .ref (rx 30), .ref (rx 31), .int 0, .int 0, .int 0, .int 0, .int 0])), (q2, .inr (12, (o12 rm)))]) [0, 9, 15] (by decide) rfl
  refine lv_aload_n hx hb dL_law_613 rfl (lv_at hl 1 rfl) ?_
  refine lv_aload_n hx hb dL_law_614 rfl (lv_at hl 0 rfl) ?_
  refine lv_iload_n hx hb dL_law_615 rfl (lv_at hl 3 rfl) ?_
  refine lv_iconst (v := 1) hx hb dL_law_616 (by decide) ?_
  refine k_iadd (v := 1) hx hb (by decide) dL_law_617 ?_
  refine va_sld hx hb hX hbl hbA hS (vpd (by decide)) dL_law_618 ?_
  refine lv_aload_n hx hb dL_law_619 rfl (lv_at hl 0 rfl) ?_
  refine lv_iload_n hx hb dL_law_620 rfl (lv_at hl 3 rfl) ?_
  refine lv_iconst (v := 2) hx hb dL_law_621 (by decide) ?_
  refine k_iadd (v := 2) hx hb (by decide) dL_law_622 ?_
  refine va_sld hx hb hX hbl hbA hS (vpd (by decide)) dL_law_623 ?_
  have hPc := hP.sub (ws' := [(q1, .inr (11, [.ref (rx 0), .ref (rx 1), .ref (rx 2), .ref (rx 3), .ref (rx 4), .ref (rx 5), .ref (rx 6), .ref (rx 7), .ref (rx 8), .ref (rx 9), .ref (rx 10), .ref (rx 11), .ref (rx 12), .ref (rx 13), .int 1])), ((rx 10), .inr (9, [.ref (rx 26), .ref (rx 27), .ref (rx 28), .ref (rx 29), .ref (rx 30), .ref (rx 31), .int 0, .int 0, .int 0, .int 0, .int 0]))]) [0, 1] rfl
  have hDc := hD.sub (ws' := [(q1, .inr (11, [.ref (rx 0), .ref (rx 1), .ref (rx 2), .ref (rx 3), .ref (rx 4), .ref (rx 5), .ref (rx 6), .ref (rx 7), .ref (rx 8), .ref (rx 9), .ref (rx 10), .ref (rx 11), .ref (rx 12), .ref (rx 13), .int 1])), ((rx 10), .inr (9, [.ref (rx 26), .ref (rx 27), .ref (rx 28), .ref (rx 29), .ref (rx 30), .ref (rx 31), .int 0, .int 0, .int 0, .int 0, .int 0]))]) [0, 1] (by decide) rfl
  have hFc := va_free (wc := [(q1, .inr (11, [.ref (rx 0), .ref (rx 1), .ref (rx 2), .ref (rx 3), .ref (rx 4), .ref (rx 5), .ref (rx 6), .ref (rx 7), .ref (rx 8), .ref (rx 9), .ref (rx 10), .ref (rx 11), .ref (rx 12), .ref (rx 13), .int 1])), ((rx 10), .inr (9, [.ref (rx 26), .ref (rx 27), .ref (rx 28), .ref (rx 29), .ref (rx 30), .ref (rx 31), .int 0, .int 0, .int 0, .int 0, .int 0]))]) hD hS hA [0, 1] rfl
  refine va_calli (va_runV (As := [.int (xs (1 : Int32).toNatClampNeg), .int (xs (2 : Int32).toNatClampNeg)]) (rest := []) ⟨hx, hb, hml, hown, hts⟩ (c_X11_tree l dC dI cI cJ q1 rx (xs (1 : Int32).toNatClampNeg) (xs (2 : Int32).toNatClampNeg) H.size) (cwV 2 hts gL_law_X11_tree rfl rfl rfl (by decide +kernel) ⟨Nat.le_of_ble_eq_true rfl, Nat.le_of_ble_eq_true rfl⟩) ⟨mBlind, va_recv hK hPc (ci := 11) (q0 := 0) rfl rfl, mGo hPc hK hDc hN⟩ rfl rfl hl.1 rfl (lv_room (Nat.le_of_ble_eq_true rfl)) dL_law_624 ⟨Nat.le_of_ble_eq_true rfl, Nat.le_of_ble_eq_true rfl⟩) hS (fun q _ h => hFc q h) hFc (fun r_1 u t H1 locs ht hvm hw hB hz1 hk1 hS => ?_)
  obtain rfl : r_1 = (-1) := hw
  obtain ⟨hP, hD⟩ := va_join (wr := [(q2, .inr (12, (o12 rm)))]) (w1 := []) hP hD [0, 1] [2] rfl rfl (by decide) (by decide) hk1 hFc va_P0 va_D0
  generalize H1 = H at hP hS ⊢
  have hP : va_P (dC, dI) vwCl [(q2, .inr (12, (o12 rm)))] H := hP
  have hD : va_D A [(q2, .inr (12, (o12 rm)))] := hD
  refine lv_aload_n hx hb dL_law_627 rfl (lv_at hl 2 rfl) ?_
  refine lv_aload_n hx hb dL_law_628 rfl (lv_at hl 0 rfl) ?_
  refine lv_iload_n hx hb dL_law_629 rfl (lv_at hl 3 rfl) ?_
  refine lv_iconst (v := 1) hx hb dL_law_630 (by decide) ?_
  refine k_iadd (v := 1) hx hb (by decide) dL_law_631 ?_
  refine va_sld hx hb hX hbl hbA hS (vpd (by decide)) dL_law_632 ?_
  refine lv_aload_n hx hb dL_law_633 rfl (lv_at hl 0 rfl) ?_
  refine lv_iload_n hx hb dL_law_634 rfl (lv_at hl 3 rfl) ?_
  refine lv_iconst (v := 2) hx hb dL_law_635 (by decide) ?_
  refine k_iadd (v := 2) hx hb (by decide) dL_law_636 ?_
  refine va_sld hx hb hX hbl hbA hS (vpd (by decide)) dL_law_637 ?_
  have hPc := hP.sub (ws' := [(q2, .inr (12, (o12 rm)))]) [0] rfl
  have hDc := hD.sub (ws' := [(q2, .inr (12, (o12 rm)))]) [0] (by decide) rfl
  have hFc := va_free (wc := [(q2, .inr (12, (o12 rm)))]) hD hS hA [0] rfl
  refine va_calli (va_runV (As := [.int (xs (1 : Int32).toNatClampNeg), .int (xs (2 : Int32).toNatClampNeg)]) (rest := [.int (-1)]) ⟨hx, hb, hml, hown, hts⟩ (c_X12_tree l dC dI cI cJ q2 rm (xs (1 : Int32).toNatClampNeg) (xs (2 : Int32).toNatClampNeg) H.size) (cwV 2 hts gL_law_X12_tree rfl rfl rfl (by decide +kernel) ⟨Nat.le_of_ble_eq_true rfl, Nat.le_of_ble_eq_true rfl⟩) ⟨mBlind, va_recv hK hPc (ci := 12) (q0 := 0) rfl rfl, mGo hPc hK hDc hN⟩ rfl rfl hl.1 rfl (lv_room (Nat.le_of_ble_eq_true rfl)) dL_law_638 ⟨Nat.le_of_ble_eq_true rfl, Nat.le_of_ble_eq_true rfl⟩) hS (fun q _ h => hFc q h) hFc (fun r_2 u t H1 locs ht hvm hw hB hz1 hk1 hS => ?_)
  obtain rfl : r_2 = (-1) := hw
  obtain ⟨hP, hD⟩ := va_join (wr := []) (w1 := []) hP hD [0] [] rfl rfl (by decide) (by decide) hk1 hFc va_P0 va_D0
  generalize H1 = H at hP hS ⊢
  have hP : va_P (dC, dI) vwCl [] H := hP
  have hD : va_D A [] := hD
  refine lv_icmp_eq (tgt := 1093) hx hb dL_law_641 (by decide) (fun _ => ?_) (fun c => absurd (by decide) c)
  exact law_tail hx hb hr hml hX hbl hlocks hAz hbA hS (lv_sub hl [0, 3] rfl)
set_option maxHeartbeats 4000000 in
set_option maxRecDepth 100000 in
/-- case 16: first -/
theorem law_16 {p : Program} {l : Launch} {e : Env} {s : State} {m : MethodId} {below : List Frame} {meth : Method} {c : Code} {dC : Nat → ClassId} {dI : Nat → Nat → Nat} {cI cJ : ClassId} {b : Nat} {xs : Nat → Int32} {A : Nat → Prop} {q1 q2 : Nat} {rx rm : Nat → Nat} {og : Nat → Int32} {H : Heap} {locs : List Loc} {ls : Array Slot} (hx : p.tables.exec = Jvm.exec) (hb : c.code = code) (hr : meth.sig.returnType = ret) (hml : c.maxLocals = 4) (hown : s.vm.findClass RL = some m.cls) (hts : ∀ w ∈ lw_tbl, w.before #[Value.ref b] s = true) (hX : va_X b 6 xs s s.heap) (hbl : b < s.heap.size) (hlocks : meth.locks = false) (hA : ∀ q, s.heap.size ≤ q → A q) (hAz : ∀ q, A q → s.heap.size ≤ q) (hbA : ¬ A b) (hK : va_K (dC, dI) vwCl (ty0 cI cJ) s) (hN : gN s) (hP : va_P (dC, dI) vwCl (WX cI q1 rx ++ WM cI q2 rm og) H) (hD : va_D A (WX cI q1 rx ++ WM cI q2 rm og)) (hS : va_S A s.heap H locs) (hl : lv_has ls 4 [(0, .ref b), (1, .ref q1), (2, .ref q2), (3, .int 0)]) : W p l e room_1 s m #[Value.ref b] below meth c H locs 600000 7302250 (lw_Z below #[Value.ref b] s) (F0 m 646 ls []) := by
  have hP := hP.sub (ws' := [(q1, .inr (11, [.ref (rx 0), .ref (rx 1), .ref (rx 2), .ref (rx 3), .ref (rx 4), .ref (rx 5), .ref (rx 6), .ref (rx 7), .ref (rx 8), .ref (rx 9), .ref (rx 10), .ref (rx 11), .ref (rx 12), .ref (rx 13), .int 1])), ((rx 10), .inr (9, [.ref (rx 26), .ref (rx 27), .ref (rx 28), .ref (rx 29), .ref (rx 30), .ref (rx 31), .int 0, .int 0, .int 0, .int 0, .int 0])), (q2, .inr (12, (o12 rm)))]) [0, 9, 15] rfl
  have hD := hD.sub (ws' := [(q1, .inr (11, [.ref (rx 0), .ref (rx 1), .ref (rx 2), .ref (rx 3), .ref (rx 4), .ref (rx 5), .ref (rx 6), .ref (rx 7), .ref (rx 8), .ref (rx 9), .ref (rx 10), .ref (rx 11), .ref (rx 12), .ref (rx 13), .int 1])), ((rx 10), .inr (9, [.ref (rx 26), .ref (rx 27), .ref (rx 28), .ref (rx 29), .ref (rx 30), .ref (rx 31), .int 0, .int 0, .int 0, .int 0, .int 0])), (q2, .inr (12, (o12 rm)))]) [0, 9, 15] (by decide) rfl
  refine lv_aload_n hx hb dL_law_646 rfl (lv_at hl 1 rfl) ?_
  refine lv_aload_n hx hb dL_law_647 rfl (lv_at hl 0 rfl) ?_
  refine lv_iload_n hx hb dL_law_648 rfl (lv_at hl 3 rfl) ?_
  refine lv_iconst (v := 1) hx hb dL_law_649 (by decide) ?_
  refine k_iadd (v := 1) hx hb (by decide) dL_law_650 ?_
  refine va_sld hx hb hX hbl hbA hS (vpd (by decide)) dL_law_651 ?_
  have hPc := hP.sub (ws' := [(q1, .inr (11, [.ref (rx 0), .ref (rx 1), .ref (rx 2), .ref (rx 3), .ref (rx 4), .ref (rx 5), .ref (rx 6), .ref (rx 7), .ref (rx 8), .ref (rx 9), .ref (rx 10), .ref (rx 11), .ref (rx 12), .ref (rx 13), .int 1])), ((rx 10), .inr (9, [.ref (rx 26), .ref (rx 27), .ref (rx 28), .ref (rx 29), .ref (rx 30), .ref (rx 31), .int 0, .int 0, .int 0, .int 0, .int 0]))]) [0, 1] rfl
  have hDc := hD.sub (ws' := [(q1, .inr (11, [.ref (rx 0), .ref (rx 1), .ref (rx 2), .ref (rx 3), .ref (rx 4), .ref (rx 5), .ref (rx 6), .ref (rx 7), .ref (rx 8), .ref (rx 9), .ref (rx 10), .ref (rx 11), .ref (rx 12), .ref (rx 13), .int 1])), ((rx 10), .inr (9, [.ref (rx 26), .ref (rx 27), .ref (rx 28), .ref (rx 29), .ref (rx 30), .ref (rx 31), .int 0, .int 0, .int 0, .int 0, .int 0]))]) [0, 1] (by decide) rfl
  have hFc := va_free (wc := [(q1, .inr (11, [.ref (rx 0), .ref (rx 1), .ref (rx 2), .ref (rx 3), .ref (rx 4), .ref (rx 5), .ref (rx 6), .ref (rx 7), .ref (rx 8), .ref (rx 9), .ref (rx 10), .ref (rx 11), .ref (rx 12), .ref (rx 13), .int 1])), ((rx 10), .inr (9, [.ref (rx 26), .ref (rx 27), .ref (rx 28), .ref (rx 29), .ref (rx 30), .ref (rx 31), .int 0, .int 0, .int 0, .int 0, .int 0]))]) hD hS hA [0, 1] rfl
  refine va_calli (va_runV (As := [.int (xs (1 : Int32).toNatClampNeg)]) (rest := []) ⟨hx, hb, hml, hown, hts⟩ (c_X11_first l dC dI cI cJ q1 rx (xs (1 : Int32).toNatClampNeg) H.size) (cwV 1 hts gL_law_X11_first rfl rfl rfl (by decide +kernel) ⟨Nat.le_of_ble_eq_true rfl, Nat.le_of_ble_eq_true rfl⟩) ⟨mBlind, va_recv hK hPc (ci := 11) (q0 := 0) rfl rfl, mGo hPc hK hDc hN⟩ rfl rfl hl.1 rfl (lv_room (Nat.le_of_ble_eq_true rfl)) dL_law_652 ⟨Nat.le_of_ble_eq_true rfl, Nat.le_of_ble_eq_true rfl⟩) hS (fun q _ h => hFc q h) hFc (fun r_1 u t H1 locs ht hvm hw hB hz1 hk1 hS => ?_)
  obtain rfl : r_1 = (-1) := hw
  obtain ⟨hP, hD⟩ := va_join (wr := [(q2, .inr (12, (o12 rm)))]) (w1 := []) hP hD [0, 1] [2] rfl rfl (by decide) (by decide) hk1 hFc va_P0 va_D0
  generalize H1 = H at hP hS ⊢
  have hP : va_P (dC, dI) vwCl [(q2, .inr (12, (o12 rm)))] H := hP
  have hD : va_D A [(q2, .inr (12, (o12 rm)))] := hD
  refine lv_aload_n hx hb dL_law_655 rfl (lv_at hl 2 rfl) ?_
  refine lv_aload_n hx hb dL_law_656 rfl (lv_at hl 0 rfl) ?_
  refine lv_iload_n hx hb dL_law_657 rfl (lv_at hl 3 rfl) ?_
  refine lv_iconst (v := 1) hx hb dL_law_658 (by decide) ?_
  refine k_iadd (v := 1) hx hb (by decide) dL_law_659 ?_
  refine va_sld hx hb hX hbl hbA hS (vpd (by decide)) dL_law_660 ?_
  have hPc := hP.sub (ws' := [(q2, .inr (12, (o12 rm)))]) [0] rfl
  have hDc := hD.sub (ws' := [(q2, .inr (12, (o12 rm)))]) [0] (by decide) rfl
  have hFc := va_free (wc := [(q2, .inr (12, (o12 rm)))]) hD hS hA [0] rfl
  refine va_calli (va_runV (As := [.int (xs (1 : Int32).toNatClampNeg)]) (rest := [.int (-1)]) ⟨hx, hb, hml, hown, hts⟩ (c_X12_first l dC dI cI cJ q2 rm (xs (1 : Int32).toNatClampNeg) H.size) (cwV 1 hts gL_law_X12_first rfl rfl rfl (by decide +kernel) ⟨Nat.le_of_ble_eq_true rfl, Nat.le_of_ble_eq_true rfl⟩) ⟨mBlind, va_recv hK hPc (ci := 12) (q0 := 0) rfl rfl, mGo hPc hK hDc hN⟩ rfl rfl hl.1 rfl (lv_room (Nat.le_of_ble_eq_true rfl)) dL_law_661 ⟨Nat.le_of_ble_eq_true rfl, Nat.le_of_ble_eq_true rfl⟩) hS (fun q _ h => hFc q h) hFc (fun r_2 u t H1 locs ht hvm hw hB hz1 hk1 hS => ?_)
  obtain rfl : r_2 = (-1) := hw
  obtain ⟨hP, hD⟩ := va_join (wr := []) (w1 := []) hP hD [0] [] rfl rfl (by decide) (by decide) hk1 hFc va_P0 va_D0
  generalize H1 = H at hP hS ⊢
  have hP : va_P (dC, dI) vwCl [] H := hP
  have hD : va_D A [] := hD
  refine lv_icmp_eq (tgt := 1093) hx hb dL_law_664 (by decide) (fun _ => ?_) (fun c => absurd (by decide) c)
  exact law_tail hx hb hr hml hX hbl hlocks hAz hbA hS (lv_sub hl [0, 3] rfl)
set_option maxHeartbeats 4000000 in
set_option maxRecDepth 100000 in
/-- case 17: scopes -/
theorem law_17 {p : Program} {l : Launch} {e : Env} {s : State} {m : MethodId} {below : List Frame} {meth : Method} {c : Code} {dC : Nat → ClassId} {dI : Nat → Nat → Nat} {cI cJ : ClassId} {b : Nat} {xs : Nat → Int32} {A : Nat → Prop} {q1 q2 : Nat} {rx rm : Nat → Nat} {og : Nat → Int32} {H : Heap} {locs : List Loc} {ls : Array Slot} (hx : p.tables.exec = Jvm.exec) (hb : c.code = code) (hr : meth.sig.returnType = ret) (hml : c.maxLocals = 4) (hown : s.vm.findClass RL = some m.cls) (hts : ∀ w ∈ lw_tbl, w.before #[Value.ref b] s = true) (hX : va_X b 6 xs s s.heap) (hbl : b < s.heap.size) (hlocks : meth.locks = false) (hA : ∀ q, s.heap.size ≤ q → A q) (hAz : ∀ q, A q → s.heap.size ≤ q) (hbA : ¬ A b) (hK : va_K (dC, dI) vwCl (ty0 cI cJ) s) (hN : gN s) (hP : va_P (dC, dI) vwCl (WX cI q1 rx ++ WM cI q2 rm og) H) (hD : va_D A (WX cI q1 rx ++ WM cI q2 rm og)) (hS : va_S A s.heap H locs) (hl : lv_has ls 4 [(0, .ref b), (1, .ref q1), (2, .ref q2), (3, .int 0)]) : W p l e room_1 s m #[Value.ref b] below meth c H locs 600000 7302250 (lw_Z below #[Value.ref b] s) (F0 m 669 ls []) := by
  have hP := hP.sub (ws' := [(q1, .inr (11, [.ref (rx 0), .ref (rx 1), .ref (rx 2), .ref (rx 3), .ref (rx 4), .ref (rx 5), .ref (rx 6), .ref (rx 7), .ref (rx 8), .ref (rx 9), .ref (rx 10), .ref (rx 11), .ref (rx 12), .ref (rx 13), .int 1])), ((rx 10), .inr (9, [.ref (rx 26), .ref (rx 27), .ref (rx 28), .ref (rx 29), .ref (rx 30), .ref (rx 31), .int 0, .int 0, .int 0, .int 0, .int 0])), (q2, .inr (12, (o12 rm)))]) [0, 9, 15] rfl
  have hD := hD.sub (ws' := [(q1, .inr (11, [.ref (rx 0), .ref (rx 1), .ref (rx 2), .ref (rx 3), .ref (rx 4), .ref (rx 5), .ref (rx 6), .ref (rx 7), .ref (rx 8), .ref (rx 9), .ref (rx 10), .ref (rx 11), .ref (rx 12), .ref (rx 13), .int 1])), ((rx 10), .inr (9, [.ref (rx 26), .ref (rx 27), .ref (rx 28), .ref (rx 29), .ref (rx 30), .ref (rx 31), .int 0, .int 0, .int 0, .int 0, .int 0])), (q2, .inr (12, (o12 rm)))]) [0, 9, 15] (by decide) rfl
  refine lv_aload_n hx hb dL_law_669 rfl (lv_at hl 1 rfl) ?_
  refine lv_aload_n hx hb dL_law_670 rfl (lv_at hl 0 rfl) ?_
  refine lv_iload_n hx hb dL_law_671 rfl (lv_at hl 3 rfl) ?_
  refine lv_iconst (v := 1) hx hb dL_law_672 (by decide) ?_
  refine k_iadd (v := 1) hx hb (by decide) dL_law_673 ?_
  refine va_sld hx hb hX hbl hbA hS (vpd (by decide)) dL_law_674 ?_
  refine lv_aload_n hx hb dL_law_675 rfl (lv_at hl 0 rfl) ?_
  refine lv_iload_n hx hb dL_law_676 rfl (lv_at hl 3 rfl) ?_
  refine lv_iconst (v := 2) hx hb dL_law_677 (by decide) ?_
  refine k_iadd (v := 2) hx hb (by decide) dL_law_678 ?_
  refine va_sld hx hb hX hbl hbA hS (vpd (by decide)) dL_law_679 ?_
  refine lv_aload_n hx hb dL_law_680 rfl (lv_at hl 0 rfl) ?_
  refine lv_iload_n hx hb dL_law_681 rfl (lv_at hl 3 rfl) ?_
  refine lv_iconst (v := 3) hx hb dL_law_682 (by decide) ?_
  refine k_iadd (v := 3) hx hb (by decide) dL_law_683 ?_
  refine va_sld hx hb hX hbl hbA hS (vpd (by decide)) dL_law_684 ?_
  have hPc := hP.sub (ws' := [(q1, .inr (11, [.ref (rx 0), .ref (rx 1), .ref (rx 2), .ref (rx 3), .ref (rx 4), .ref (rx 5), .ref (rx 6), .ref (rx 7), .ref (rx 8), .ref (rx 9), .ref (rx 10), .ref (rx 11), .ref (rx 12), .ref (rx 13), .int 1])), ((rx 10), .inr (9, [.ref (rx 26), .ref (rx 27), .ref (rx 28), .ref (rx 29), .ref (rx 30), .ref (rx 31), .int 0, .int 0, .int 0, .int 0, .int 0]))]) [0, 1] rfl
  have hDc := hD.sub (ws' := [(q1, .inr (11, [.ref (rx 0), .ref (rx 1), .ref (rx 2), .ref (rx 3), .ref (rx 4), .ref (rx 5), .ref (rx 6), .ref (rx 7), .ref (rx 8), .ref (rx 9), .ref (rx 10), .ref (rx 11), .ref (rx 12), .ref (rx 13), .int 1])), ((rx 10), .inr (9, [.ref (rx 26), .ref (rx 27), .ref (rx 28), .ref (rx 29), .ref (rx 30), .ref (rx 31), .int 0, .int 0, .int 0, .int 0, .int 0]))]) [0, 1] (by decide) rfl
  have hFc := va_free (wc := [(q1, .inr (11, [.ref (rx 0), .ref (rx 1), .ref (rx 2), .ref (rx 3), .ref (rx 4), .ref (rx 5), .ref (rx 6), .ref (rx 7), .ref (rx 8), .ref (rx 9), .ref (rx 10), .ref (rx 11), .ref (rx 12), .ref (rx 13), .int 1])), ((rx 10), .inr (9, [.ref (rx 26), .ref (rx 27), .ref (rx 28), .ref (rx 29), .ref (rx 30), .ref (rx 31), .int 0, .int 0, .int 0, .int 0, .int 0]))]) hD hS hA [0, 1] rfl
  refine va_calli (va_runV (As := [.int (xs (1 : Int32).toNatClampNeg), .int (xs (2 : Int32).toNatClampNeg), .int (xs (3 : Int32).toNatClampNeg)]) (rest := []) ⟨hx, hb, hml, hown, hts⟩ (c_X11_scopes l dC dI cI cJ q1 rx (xs (1 : Int32).toNatClampNeg) (xs (2 : Int32).toNatClampNeg) (xs (3 : Int32).toNatClampNeg) H.size) (cwV 3 hts gL_law_X11_scopes rfl rfl rfl (by decide +kernel) ⟨Nat.le_of_ble_eq_true rfl, Nat.le_of_ble_eq_true rfl⟩) ⟨mBlind, va_recv hK hPc (ci := 11) (q0 := 0) rfl rfl, mGo hPc hK hDc hN⟩ rfl rfl hl.1 rfl (lv_room (Nat.le_of_ble_eq_true rfl)) dL_law_685 ⟨Nat.le_of_ble_eq_true rfl, Nat.le_of_ble_eq_true rfl⟩) hS (fun q _ h => hFc q h) hFc (fun r_1 u t H1 locs ht hvm hw hB hz1 hk1 hS => ?_)
  obtain rfl : r_1 = (-1) := hw
  obtain ⟨hP, hD⟩ := va_join (wr := [(q2, .inr (12, (o12 rm)))]) (w1 := []) hP hD [0, 1] [2] rfl rfl (by decide) (by decide) hk1 hFc va_P0 va_D0
  generalize H1 = H at hP hS ⊢
  have hP : va_P (dC, dI) vwCl [(q2, .inr (12, (o12 rm)))] H := hP
  have hD : va_D A [(q2, .inr (12, (o12 rm)))] := hD
  refine lv_aload_n hx hb dL_law_688 rfl (lv_at hl 2 rfl) ?_
  refine lv_aload_n hx hb dL_law_689 rfl (lv_at hl 0 rfl) ?_
  refine lv_iload_n hx hb dL_law_690 rfl (lv_at hl 3 rfl) ?_
  refine lv_iconst (v := 1) hx hb dL_law_691 (by decide) ?_
  refine k_iadd (v := 1) hx hb (by decide) dL_law_692 ?_
  refine va_sld hx hb hX hbl hbA hS (vpd (by decide)) dL_law_693 ?_
  refine lv_aload_n hx hb dL_law_694 rfl (lv_at hl 0 rfl) ?_
  refine lv_iload_n hx hb dL_law_695 rfl (lv_at hl 3 rfl) ?_
  refine lv_iconst (v := 2) hx hb dL_law_696 (by decide) ?_
  refine k_iadd (v := 2) hx hb (by decide) dL_law_697 ?_
  refine va_sld hx hb hX hbl hbA hS (vpd (by decide)) dL_law_698 ?_
  refine lv_aload_n hx hb dL_law_699 rfl (lv_at hl 0 rfl) ?_
  refine lv_iload_n hx hb dL_law_700 rfl (lv_at hl 3 rfl) ?_
  refine lv_iconst (v := 3) hx hb dL_law_701 (by decide) ?_
  refine k_iadd (v := 3) hx hb (by decide) dL_law_702 ?_
  refine va_sld hx hb hX hbl hbA hS (vpd (by decide)) dL_law_703 ?_
  have hPc := hP.sub (ws' := [(q2, .inr (12, (o12 rm)))]) [0] rfl
  have hDc := hD.sub (ws' := [(q2, .inr (12, (o12 rm)))]) [0] (by decide) rfl
  have hFc := va_free (wc := [(q2, .inr (12, (o12 rm)))]) hD hS hA [0] rfl
  refine va_calli (va_runV (As := [.int (xs (1 : Int32).toNatClampNeg), .int (xs (2 : Int32).toNatClampNeg), .int (xs (3 : Int32).toNatClampNeg)]) (rest := [.int (-1)]) ⟨hx, hb, hml, hown, hts⟩ (c_X12_scopes l dC dI cI cJ q2 rm (xs (1 : Int32).toNatClampNeg) (xs (2 : Int32).toNatClampNeg) (xs (3 : Int32).toNatClampNeg) H.size) (cwV 3 hts gL_law_X12_scopes rfl rfl rfl (by decide +kernel) ⟨Nat.le_of_ble_eq_true rfl, Nat.le_of_ble_eq_true rfl⟩) ⟨mBlind, va_recv hK hPc (ci := 12) (q0 := 0) rfl rfl, mGo hPc hK hDc hN⟩ rfl rfl hl.1 rfl (lv_room (Nat.le_of_ble_eq_true rfl)) dL_law_704 ⟨Nat.le_of_ble_eq_true rfl, Nat.le_of_ble_eq_true rfl⟩) hS (fun q _ h => hFc q h) hFc (fun r_2 u t H1 locs ht hvm hw hB hz1 hk1 hS => ?_)
  obtain rfl : r_2 = (-1) := hw
  obtain ⟨hP, hD⟩ := va_join (wr := []) (w1 := []) hP hD [0] [] rfl rfl (by decide) (by decide) hk1 hFc va_P0 va_D0
  generalize H1 = H at hP hS ⊢
  have hP : va_P (dC, dI) vwCl [] H := hP
  have hD : va_D A [] := hD
  refine lv_icmp_eq (tgt := 1093) hx hb dL_law_707 (by decide) (fun _ => ?_) (fun c => absurd (by decide) c)
  exact law_tail hx hb hr hml hX hbl hlocks hAz hbA hS (lv_sub hl [0, 3] rfl)
set_option maxHeartbeats 4000000 in
set_option maxRecDepth 100000 in
/-- case 18: safe -/
theorem law_18 {p : Program} {l : Launch} {e : Env} {s : State} {m : MethodId} {below : List Frame} {meth : Method} {c : Code} {dC : Nat → ClassId} {dI : Nat → Nat → Nat} {cI cJ : ClassId} {b : Nat} {xs : Nat → Int32} {A : Nat → Prop} {q1 q2 : Nat} {rx rm : Nat → Nat} {og : Nat → Int32} {H : Heap} {locs : List Loc} {ls : Array Slot} (hx : p.tables.exec = Jvm.exec) (hb : c.code = code) (hr : meth.sig.returnType = ret) (hml : c.maxLocals = 4) (hown : s.vm.findClass RL = some m.cls) (hts : ∀ w ∈ lw_tbl, w.before #[Value.ref b] s = true) (hX : va_X b 6 xs s s.heap) (hbl : b < s.heap.size) (hlocks : meth.locks = false) (hA : ∀ q, s.heap.size ≤ q → A q) (hAz : ∀ q, A q → s.heap.size ≤ q) (hbA : ¬ A b) (hK : va_K (dC, dI) vwCl (ty0 cI cJ) s) (hN : gN s) (hP : va_P (dC, dI) vwCl (WX cI q1 rx ++ WM cI q2 rm og) H) (hD : va_D A (WX cI q1 rx ++ WM cI q2 rm og)) (hS : va_S A s.heap H locs) (hl : lv_has ls 4 [(0, .ref b), (1, .ref q1), (2, .ref q2), (3, .int 0)]) : W p l e room_1 s m #[Value.ref b] below meth c H locs 600000 7302250 (lw_Z below #[Value.ref b] s) (F0 m 712 ls []) := by
  have hP := hP.sub (ws' := [(q1, .inr (11, [.ref (rx 0), .ref (rx 1), .ref (rx 2), .ref (rx 3), .ref (rx 4), .ref (rx 5), .ref (rx 6), .ref (rx 7), .ref (rx 8), .ref (rx 9), .ref (rx 10), .ref (rx 11), .ref (rx 12), .ref (rx 13), .int 1])), ((rx 5), .inr (5, [.ref (rx 16), .int 0, .int 0, .int 0])), (q2, .inr (12, (o12 rm)))]) [0, 5, 15] rfl
  have hD := hD.sub (ws' := [(q1, .inr (11, [.ref (rx 0), .ref (rx 1), .ref (rx 2), .ref (rx 3), .ref (rx 4), .ref (rx 5), .ref (rx 6), .ref (rx 7), .ref (rx 8), .ref (rx 9), .ref (rx 10), .ref (rx 11), .ref (rx 12), .ref (rx 13), .int 1])), ((rx 5), .inr (5, [.ref (rx 16), .int 0, .int 0, .int 0])), (q2, .inr (12, (o12 rm)))]) [0, 5, 15] (by decide) rfl
  refine lv_aload_n hx hb dL_law_712 rfl (lv_at hl 1 rfl) ?_
  refine lv_aload_n hx hb dL_law_713 rfl (lv_at hl 0 rfl) ?_
  refine lv_iload_n hx hb dL_law_714 rfl (lv_at hl 3 rfl) ?_
  refine lv_iconst (v := 1) hx hb dL_law_715 (by decide) ?_
  refine k_iadd (v := 1) hx hb (by decide) dL_law_716 ?_
  refine va_sld hx hb hX hbl hbA hS (vpd (by decide)) dL_law_717 ?_
  refine lv_aload_n hx hb dL_law_718 rfl (lv_at hl 0 rfl) ?_
  refine lv_iload_n hx hb dL_law_719 rfl (lv_at hl 3 rfl) ?_
  refine lv_iconst (v := 2) hx hb dL_law_720 (by decide) ?_
  refine k_iadd (v := 2) hx hb (by decide) dL_law_721 ?_
  refine va_sld hx hb hX hbl hbA hS (vpd (by decide)) dL_law_722 ?_
  have hPc := hP.sub (ws' := [(q1, .inr (11, [.ref (rx 0), .ref (rx 1), .ref (rx 2), .ref (rx 3), .ref (rx 4), .ref (rx 5), .ref (rx 6), .ref (rx 7), .ref (rx 8), .ref (rx 9), .ref (rx 10), .ref (rx 11), .ref (rx 12), .ref (rx 13), .int 1])), ((rx 5), .inr (5, [.ref (rx 16), .int 0, .int 0, .int 0]))]) [0, 1] rfl
  have hDc := hD.sub (ws' := [(q1, .inr (11, [.ref (rx 0), .ref (rx 1), .ref (rx 2), .ref (rx 3), .ref (rx 4), .ref (rx 5), .ref (rx 6), .ref (rx 7), .ref (rx 8), .ref (rx 9), .ref (rx 10), .ref (rx 11), .ref (rx 12), .ref (rx 13), .int 1])), ((rx 5), .inr (5, [.ref (rx 16), .int 0, .int 0, .int 0]))]) [0, 1] (by decide) rfl
  have hFc := va_free (wc := [(q1, .inr (11, [.ref (rx 0), .ref (rx 1), .ref (rx 2), .ref (rx 3), .ref (rx 4), .ref (rx 5), .ref (rx 6), .ref (rx 7), .ref (rx 8), .ref (rx 9), .ref (rx 10), .ref (rx 11), .ref (rx 12), .ref (rx 13), .int 1])), ((rx 5), .inr (5, [.ref (rx 16), .int 0, .int 0, .int 0]))]) hD hS hA [0, 1] rfl
  refine va_calli (va_runV (As := [.int (xs (1 : Int32).toNatClampNeg), .int (xs (2 : Int32).toNatClampNeg)]) (rest := []) ⟨hx, hb, hml, hown, hts⟩ (c_X11_safe l dC dI cI cJ q1 rx (xs (1 : Int32).toNatClampNeg) (xs (2 : Int32).toNatClampNeg) H.size) (cwV 2 hts gL_law_X11_safe rfl rfl rfl (by decide +kernel) ⟨Nat.le_of_ble_eq_true rfl, Nat.le_of_ble_eq_true rfl⟩) ⟨mBlind, va_recv hK hPc (ci := 11) (q0 := 0) rfl rfl, mGo hPc hK hDc hN⟩ rfl rfl hl.1 rfl (lv_room (Nat.le_of_ble_eq_true rfl)) dL_law_723 ⟨Nat.le_of_ble_eq_true rfl, Nat.le_of_ble_eq_true rfl⟩) hS (fun q _ h => hFc q h) hFc (fun r_1 u t H1 locs ht hvm hw hB hz1 hk1 hS => ?_)
  obtain rfl : r_1 = (-1) := hw
  obtain ⟨hP, hD⟩ := va_join (wr := [(q2, .inr (12, (o12 rm)))]) (w1 := []) hP hD [0, 1] [2] rfl rfl (by decide) (by decide) hk1 hFc va_P0 va_D0
  generalize H1 = H at hP hS ⊢
  have hP : va_P (dC, dI) vwCl [(q2, .inr (12, (o12 rm)))] H := hP
  have hD : va_D A [(q2, .inr (12, (o12 rm)))] := hD
  refine lv_aload_n hx hb dL_law_726 rfl (lv_at hl 2 rfl) ?_
  refine lv_aload_n hx hb dL_law_727 rfl (lv_at hl 0 rfl) ?_
  refine lv_iload_n hx hb dL_law_728 rfl (lv_at hl 3 rfl) ?_
  refine lv_iconst (v := 1) hx hb dL_law_729 (by decide) ?_
  refine k_iadd (v := 1) hx hb (by decide) dL_law_730 ?_
  refine va_sld hx hb hX hbl hbA hS (vpd (by decide)) dL_law_731 ?_
  refine lv_aload_n hx hb dL_law_732 rfl (lv_at hl 0 rfl) ?_
  refine lv_iload_n hx hb dL_law_733 rfl (lv_at hl 3 rfl) ?_
  refine lv_iconst (v := 2) hx hb dL_law_734 (by decide) ?_
  refine k_iadd (v := 2) hx hb (by decide) dL_law_735 ?_
  refine va_sld hx hb hX hbl hbA hS (vpd (by decide)) dL_law_736 ?_
  have hPc := hP.sub (ws' := [(q2, .inr (12, (o12 rm)))]) [0] rfl
  have hDc := hD.sub (ws' := [(q2, .inr (12, (o12 rm)))]) [0] (by decide) rfl
  have hFc := va_free (wc := [(q2, .inr (12, (o12 rm)))]) hD hS hA [0] rfl
  refine va_calli (va_runV (As := [.int (xs (1 : Int32).toNatClampNeg), .int (xs (2 : Int32).toNatClampNeg)]) (rest := [.int (-1)]) ⟨hx, hb, hml, hown, hts⟩ (c_X12_safe l dC dI cI cJ q2 rm (xs (1 : Int32).toNatClampNeg) (xs (2 : Int32).toNatClampNeg) H.size) (cwV 2 hts gL_law_X12_safe rfl rfl rfl (by decide +kernel) ⟨Nat.le_of_ble_eq_true rfl, Nat.le_of_ble_eq_true rfl⟩) ⟨mBlind, va_recv hK hPc (ci := 12) (q0 := 0) rfl rfl, mGo hPc hK hDc hN⟩ rfl rfl hl.1 rfl (lv_room (Nat.le_of_ble_eq_true rfl)) dL_law_737 ⟨Nat.le_of_ble_eq_true rfl, Nat.le_of_ble_eq_true rfl⟩) hS (fun q _ h => hFc q h) hFc (fun r_2 u t H1 locs ht hvm hw hB hz1 hk1 hS => ?_)
  obtain rfl : r_2 = (-1) := hw
  obtain ⟨hP, hD⟩ := va_join (wr := []) (w1 := []) hP hD [0] [] rfl rfl (by decide) (by decide) hk1 hFc va_P0 va_D0
  generalize H1 = H at hP hS ⊢
  have hP : va_P (dC, dI) vwCl [] H := hP
  have hD : va_D A [] := hD
  refine lv_icmp_eq (tgt := 1093) hx hb dL_law_740 (by decide) (fun _ => ?_) (fun c => absurd (by decide) c)
  exact law_tail hx hb hr hml hX hbl hlocks hAz hbA hS (lv_sub hl [0, 3] rfl)
set_option maxHeartbeats 4000000 in
set_option maxRecDepth 100000 in
/-- case 19: best -/
theorem law_19 {p : Program} {l : Launch} {e : Env} {s : State} {m : MethodId} {below : List Frame} {meth : Method} {c : Code} {dC : Nat → ClassId} {dI : Nat → Nat → Nat} {cI cJ : ClassId} {b : Nat} {xs : Nat → Int32} {A : Nat → Prop} {q1 q2 : Nat} {rx rm : Nat → Nat} {og : Nat → Int32} {H : Heap} {locs : List Loc} {ls : Array Slot} (hx : p.tables.exec = Jvm.exec) (hb : c.code = code) (hr : meth.sig.returnType = ret) (hml : c.maxLocals = 4) (hown : s.vm.findClass RL = some m.cls) (hts : ∀ w ∈ lw_tbl, w.before #[Value.ref b] s = true) (hX : va_X b 6 xs s s.heap) (hbl : b < s.heap.size) (hlocks : meth.locks = false) (hA : ∀ q, s.heap.size ≤ q → A q) (hAz : ∀ q, A q → s.heap.size ≤ q) (hbA : ¬ A b) (hK : va_K (dC, dI) vwCl (ty0 cI cJ) s) (hN : gN s) (hP : va_P (dC, dI) vwCl (WX cI q1 rx ++ WM cI q2 rm og) H) (hD : va_D A (WX cI q1 rx ++ WM cI q2 rm og)) (hS : va_S A s.heap H locs) (hl : lv_has ls 4 [(0, .ref b), (1, .ref q1), (2, .ref q2), (3, .int 0)]) : W p l e room_1 s m #[Value.ref b] below meth c H locs 600000 7302250 (lw_Z below #[Value.ref b] s) (F0 m 745 ls []) := by
  have hP := hP.sub (ws' := [(q1, .inr (11, [.ref (rx 0), .ref (rx 1), .ref (rx 2), .ref (rx 3), .ref (rx 4), .ref (rx 5), .ref (rx 6), .ref (rx 7), .ref (rx 8), .ref (rx 9), .ref (rx 10), .ref (rx 11), .ref (rx 12), .ref (rx 13), .int 1])), ((rx 10), .inr (9, [.ref (rx 26), .ref (rx 27), .ref (rx 28), .ref (rx 29), .ref (rx 30), .ref (rx 31), .int 0, .int 0, .int 0, .int 0, .int 0])), (q2, .inr (12, (o12 rm)))]) [0, 9, 15] rfl
  have hD := hD.sub (ws' := [(q1, .inr (11, [.ref (rx 0), .ref (rx 1), .ref (rx 2), .ref (rx 3), .ref (rx 4), .ref (rx 5), .ref (rx 6), .ref (rx 7), .ref (rx 8), .ref (rx 9), .ref (rx 10), .ref (rx 11), .ref (rx 12), .ref (rx 13), .int 1])), ((rx 10), .inr (9, [.ref (rx 26), .ref (rx 27), .ref (rx 28), .ref (rx 29), .ref (rx 30), .ref (rx 31), .int 0, .int 0, .int 0, .int 0, .int 0])), (q2, .inr (12, (o12 rm)))]) [0, 9, 15] (by decide) rfl
  refine lv_aload_n hx hb dL_law_745 rfl (lv_at hl 1 rfl) ?_
  refine lv_aload_n hx hb dL_law_746 rfl (lv_at hl 0 rfl) ?_
  refine lv_iload_n hx hb dL_law_747 rfl (lv_at hl 3 rfl) ?_
  refine lv_iconst (v := 1) hx hb dL_law_748 (by decide) ?_
  refine k_iadd (v := 1) hx hb (by decide) dL_law_749 ?_
  refine va_sld hx hb hX hbl hbA hS (vpd (by decide)) dL_law_750 ?_
  have hPc := hP.sub (ws' := [(q1, .inr (11, [.ref (rx 0), .ref (rx 1), .ref (rx 2), .ref (rx 3), .ref (rx 4), .ref (rx 5), .ref (rx 6), .ref (rx 7), .ref (rx 8), .ref (rx 9), .ref (rx 10), .ref (rx 11), .ref (rx 12), .ref (rx 13), .int 1])), ((rx 10), .inr (9, [.ref (rx 26), .ref (rx 27), .ref (rx 28), .ref (rx 29), .ref (rx 30), .ref (rx 31), .int 0, .int 0, .int 0, .int 0, .int 0]))]) [0, 1] rfl
  have hDc := hD.sub (ws' := [(q1, .inr (11, [.ref (rx 0), .ref (rx 1), .ref (rx 2), .ref (rx 3), .ref (rx 4), .ref (rx 5), .ref (rx 6), .ref (rx 7), .ref (rx 8), .ref (rx 9), .ref (rx 10), .ref (rx 11), .ref (rx 12), .ref (rx 13), .int 1])), ((rx 10), .inr (9, [.ref (rx 26), .ref (rx 27), .ref (rx 28), .ref (rx 29), .ref (rx 30), .ref (rx 31), .int 0, .int 0, .int 0, .int 0, .int 0]))]) [0, 1] (by decide) rfl
  have hFc := va_free (wc := [(q1, .inr (11, [.ref (rx 0), .ref (rx 1), .ref (rx 2), .ref (rx 3), .ref (rx 4), .ref (rx 5), .ref (rx 6), .ref (rx 7), .ref (rx 8), .ref (rx 9), .ref (rx 10), .ref (rx 11), .ref (rx 12), .ref (rx 13), .int 1])), ((rx 10), .inr (9, [.ref (rx 26), .ref (rx 27), .ref (rx 28), .ref (rx 29), .ref (rx 30), .ref (rx 31), .int 0, .int 0, .int 0, .int 0, .int 0]))]) hD hS hA [0, 1] rfl
  refine va_calli (va_runV (As := [.int (xs (1 : Int32).toNatClampNeg)]) (rest := []) ⟨hx, hb, hml, hown, hts⟩ (c_X11_best l dC dI cI cJ q1 rx (xs (1 : Int32).toNatClampNeg) H.size) (cwV 1 hts gL_law_X11_best rfl rfl rfl (by decide +kernel) ⟨Nat.le_of_ble_eq_true rfl, Nat.le_of_ble_eq_true rfl⟩) ⟨mBlind, va_recv hK hPc (ci := 11) (q0 := 0) rfl rfl, mGo hPc hK hDc hN⟩ rfl rfl hl.1 rfl (lv_room (Nat.le_of_ble_eq_true rfl)) dL_law_751 ⟨Nat.le_of_ble_eq_true rfl, Nat.le_of_ble_eq_true rfl⟩) hS (fun q _ h => hFc q h) hFc (fun r_1 u t H1 locs ht hvm hw hB hz1 hk1 hS => ?_)
  obtain rfl : r_1 = (-1) := hw
  obtain ⟨hP, hD⟩ := va_join (wr := [(q2, .inr (12, (o12 rm)))]) (w1 := []) hP hD [0, 1] [2] rfl rfl (by decide) (by decide) hk1 hFc va_P0 va_D0
  generalize H1 = H at hP hS ⊢
  have hP : va_P (dC, dI) vwCl [(q2, .inr (12, (o12 rm)))] H := hP
  have hD : va_D A [(q2, .inr (12, (o12 rm)))] := hD
  refine lv_aload_n hx hb dL_law_754 rfl (lv_at hl 2 rfl) ?_
  refine lv_aload_n hx hb dL_law_755 rfl (lv_at hl 0 rfl) ?_
  refine lv_iload_n hx hb dL_law_756 rfl (lv_at hl 3 rfl) ?_
  refine lv_iconst (v := 1) hx hb dL_law_757 (by decide) ?_
  refine k_iadd (v := 1) hx hb (by decide) dL_law_758 ?_
  refine va_sld hx hb hX hbl hbA hS (vpd (by decide)) dL_law_759 ?_
  have hPc := hP.sub (ws' := [(q2, .inr (12, (o12 rm)))]) [0] rfl
  have hDc := hD.sub (ws' := [(q2, .inr (12, (o12 rm)))]) [0] (by decide) rfl
  have hFc := va_free (wc := [(q2, .inr (12, (o12 rm)))]) hD hS hA [0] rfl
  refine va_calli (va_runV (As := [.int (xs (1 : Int32).toNatClampNeg)]) (rest := [.int (-1)]) ⟨hx, hb, hml, hown, hts⟩ (c_X12_best l dC dI cI cJ q2 rm (xs (1 : Int32).toNatClampNeg) H.size) (cwV 1 hts gL_law_X12_best rfl rfl rfl (by decide +kernel) ⟨Nat.le_of_ble_eq_true rfl, Nat.le_of_ble_eq_true rfl⟩) ⟨mBlind, va_recv hK hPc (ci := 12) (q0 := 0) rfl rfl, mGo hPc hK hDc hN⟩ rfl rfl hl.1 rfl (lv_room (Nat.le_of_ble_eq_true rfl)) dL_law_760 ⟨Nat.le_of_ble_eq_true rfl, Nat.le_of_ble_eq_true rfl⟩) hS (fun q _ h => hFc q h) hFc (fun r_2 u t H1 locs ht hvm hw hB hz1 hk1 hS => ?_)
  obtain rfl : r_2 = (-1) := hw
  obtain ⟨hP, hD⟩ := va_join (wr := []) (w1 := []) hP hD [0] [] rfl rfl (by decide) (by decide) hk1 hFc va_P0 va_D0
  generalize H1 = H at hP hS ⊢
  have hP : va_P (dC, dI) vwCl [] H := hP
  have hD : va_D A [] := hD
  refine lv_icmp_eq (tgt := 1093) hx hb dL_law_763 (by decide) (fun _ => ?_) (fun c => absurd (by decide) c)
  exact law_tail hx hb hr hml hX hbl hlocks hAz hbA hS (lv_sub hl [0, 3] rfl)
set_option maxHeartbeats 4000000 in
set_option maxRecDepth 100000 in
/-- case 20: see -/
theorem law_20 {p : Program} {l : Launch} {e : Env} {s : State} {m : MethodId} {below : List Frame} {meth : Method} {c : Code} {dC : Nat → ClassId} {dI : Nat → Nat → Nat} {cI cJ : ClassId} {b : Nat} {xs : Nat → Int32} {A : Nat → Prop} {q1 q2 : Nat} {rx rm : Nat → Nat} {og : Nat → Int32} {H : Heap} {locs : List Loc} {ls : Array Slot} (hx : p.tables.exec = Jvm.exec) (hb : c.code = code) (hr : meth.sig.returnType = ret) (hml : c.maxLocals = 4) (hown : s.vm.findClass RL = some m.cls) (hts : ∀ w ∈ lw_tbl, w.before #[Value.ref b] s = true) (hX : va_X b 6 xs s s.heap) (hbl : b < s.heap.size) (hlocks : meth.locks = false) (hA : ∀ q, s.heap.size ≤ q → A q) (hAz : ∀ q, A q → s.heap.size ≤ q) (hbA : ¬ A b) (hK : va_K (dC, dI) vwCl (ty0 cI cJ) s) (hN : gN s) (hP : va_P (dC, dI) vwCl (WX cI q1 rx ++ WM cI q2 rm og) H) (hD : va_D A (WX cI q1 rx ++ WM cI q2 rm og)) (hS : va_S A s.heap H locs) (hl : lv_has ls 4 [(0, .ref b), (1, .ref q1), (2, .ref q2), (3, .int 0)]) : W p l e room_1 s m #[Value.ref b] below meth c H locs 600000 7302250 (lw_Z below #[Value.ref b] s) (F0 m 768 ls []) := by
  have hP := hP.sub (ws' := [(q1, .inr (11, [.ref (rx 0), .ref (rx 1), .ref (rx 2), .ref (rx 3), .ref (rx 4), .ref (rx 5), .ref (rx 6), .ref (rx 7), .ref (rx 8), .ref (rx 9), .ref (rx 10), .ref (rx 11), .ref (rx 12), .ref (rx 13), .int 1])), ((rx 10), .inr (9, [.ref (rx 26), .ref (rx 27), .ref (rx 28), .ref (rx 29), .ref (rx 30), .ref (rx 31), .int 0, .int 0, .int 0, .int 0, .int 0])), ((rx 0), .inr (1, [.ref (rx 14), .int 0])), ((rx 9), .inl (cI, 6, .inl (fun _ => 0))), (q2, .inr (12, (o12 rm))), ((rm 27), .inl (cI, 6, .inl (fun _ => 0)))]) [0, 9, 1, 8, 15, 23] rfl
  have hD := hD.sub (ws' := [(q1, .inr (11, [.ref (rx 0), .ref (rx 1), .ref (rx 2), .ref (rx 3), .ref (rx 4), .ref (rx 5), .ref (rx 6), .ref (rx 7), .ref (rx 8), .ref (rx 9), .ref (rx 10), .ref (rx 11), .ref (rx 12), .ref (rx 13), .int 1])), ((rx 10), .inr (9, [.ref (rx 26), .ref (rx 27), .ref (rx 28), .ref (rx 29), .ref (rx 30), .ref (rx 31), .int 0, .int 0, .int 0, .int 0, .int 0])), ((rx 0), .inr (1, [.ref (rx 14), .int 0])), ((rx 9), .inl (cI, 6, .inl (fun _ => 0))), (q2, .inr (12, (o12 rm))), ((rm 27), .inl (cI, 6, .inl (fun _ => 0)))]) [0, 9, 1, 8, 15, 23] (by decide) rfl
  refine lv_aload_n hx hb dL_law_768 rfl (lv_at hl 1 rfl) ?_
  have hPc := hP.sub (ws' := [(q1, .inr (11, [.ref (rx 0), .ref (rx 1), .ref (rx 2), .ref (rx 3), .ref (rx 4), .ref (rx 5), .ref (rx 6), .ref (rx 7), .ref (rx 8), .ref (rx 9), .ref (rx 10), .ref (rx 11), .ref (rx 12), .ref (rx 13), .int 1])), ((rx 10), .inr (9, [.ref (rx 26), .ref (rx 27), .ref (rx 28), .ref (rx 29), .ref (rx 30), .ref (rx 31), .int 0, .int 0, .int 0, .int 0, .int 0])), ((rx 0), .inr (1, [.ref (rx 14), .int 0])), ((rx 9), .inl (cI, 6, .inl (fun _ => 0)))]) [0, 1, 2, 3] rfl
  have hDc := hD.sub (ws' := [(q1, .inr (11, [.ref (rx 0), .ref (rx 1), .ref (rx 2), .ref (rx 3), .ref (rx 4), .ref (rx 5), .ref (rx 6), .ref (rx 7), .ref (rx 8), .ref (rx 9), .ref (rx 10), .ref (rx 11), .ref (rx 12), .ref (rx 13), .int 1])), ((rx 10), .inr (9, [.ref (rx 26), .ref (rx 27), .ref (rx 28), .ref (rx 29), .ref (rx 30), .ref (rx 31), .int 0, .int 0, .int 0, .int 0, .int 0])), ((rx 0), .inr (1, [.ref (rx 14), .int 0])), ((rx 9), .inl (cI, 6, .inl (fun _ => 0)))]) [0, 1, 2, 3] (by decide) rfl
  have hFc := va_free (wc := [(q1, .inr (11, [.ref (rx 0), .ref (rx 1), .ref (rx 2), .ref (rx 3), .ref (rx 4), .ref (rx 5), .ref (rx 6), .ref (rx 7), .ref (rx 8), .ref (rx 9), .ref (rx 10), .ref (rx 11), .ref (rx 12), .ref (rx 13), .int 1])), ((rx 10), .inr (9, [.ref (rx 26), .ref (rx 27), .ref (rx 28), .ref (rx 29), .ref (rx 30), .ref (rx 31), .int 0, .int 0, .int 0, .int 0, .int 0])), ((rx 0), .inr (1, [.ref (rx 14), .int 0])), ((rx 9), .inl (cI, 6, .inl (fun _ => 0)))]) hD hS hA [0, 1, 2, 3] rfl
  refine va_calli (va_runV (As := []) (rest := []) ⟨hx, hb, hml, hown, hts⟩ (c_X11_see l dC dI cI cJ q1 rx H.size) (cwV 0 hts gL_law_X11_see rfl rfl rfl (by decide +kernel) ⟨Nat.le_of_ble_eq_true rfl, Nat.le_of_ble_eq_true rfl⟩) ⟨mBlind, va_recv hK hPc (ci := 11) (q0 := 0) rfl rfl, mGo hPc hK hDc hN⟩ rfl rfl hl.1 rfl (lv_room (Nat.le_of_ble_eq_true rfl)) dL_law_769 ⟨Nat.le_of_ble_eq_true rfl, Nat.le_of_ble_eq_true rfl⟩) hS (fun q _ h => hFc q h) hFc (fun r_1 u t H1 locs ht hvm hw hB hz1 hk1 hS => ?_)
  obtain rfl : r_1 = (-1) := hw
  obtain ⟨hP, hD⟩ := va_join (wr := [(q2, .inr (12, (o12 rm))), ((rm 27), .inl (cI, 6, .inl (fun _ => 0)))]) (w1 := []) hP hD [0, 1, 2, 3] [4, 5] rfl rfl (by decide) (by decide) hk1 hFc va_P0 va_D0
  generalize H1 = H at hP hS ⊢
  have hP : va_P (dC, dI) vwCl [(q2, .inr (12, (o12 rm))), ((rm 27), .inl (cI, 6, .inl (fun _ => 0)))] H := hP
  have hD : va_D A [(q2, .inr (12, (o12 rm))), ((rm 27), .inl (cI, 6, .inl (fun _ => 0)))] := hD
  refine lv_aload_n hx hb dL_law_772 rfl (lv_at hl 2 rfl) ?_
  have hPc := hP.sub (ws' := [(q2, .inr (12, (o12 rm))), ((rm 27), .inl (cI, 6, .inl (fun _ => 0)))]) [0, 1] rfl
  have hDc := hD.sub (ws' := [(q2, .inr (12, (o12 rm))), ((rm 27), .inl (cI, 6, .inl (fun _ => 0)))]) [0, 1] (by decide) rfl
  have hFc := va_free (wc := [(q2, .inr (12, (o12 rm))), ((rm 27), .inl (cI, 6, .inl (fun _ => 0)))]) hD hS hA [0, 1] rfl
  refine va_calli (va_runV (As := []) (rest := [.int (-1)]) ⟨hx, hb, hml, hown, hts⟩ (c_X12_see l dC dI cI cJ q2 rm H.size) (cwV 0 hts gL_law_X12_see rfl rfl rfl (by decide +kernel) ⟨Nat.le_of_ble_eq_true rfl, Nat.le_of_ble_eq_true rfl⟩) ⟨mBlind, va_recv hK hPc (ci := 12) (q0 := 0) rfl rfl, mGo hPc hK hDc hN⟩ rfl rfl hl.1 rfl (lv_room (Nat.le_of_ble_eq_true rfl)) dL_law_773 ⟨Nat.le_of_ble_eq_true rfl, Nat.le_of_ble_eq_true rfl⟩) hS (fun q _ h => hFc q h) hFc (fun r_2 u t H1 locs ht hvm hw hB hz1 hk1 hS => ?_)
  obtain rfl : r_2 = (-1) := hw
  obtain ⟨hP, hD⟩ := va_join (wr := []) (w1 := []) hP hD [0, 1] [] rfl rfl (by decide) (by decide) hk1 hFc va_P0 va_D0
  generalize H1 = H at hP hS ⊢
  have hP : va_P (dC, dI) vwCl [] H := hP
  have hD : va_D A [] := hD
  refine lv_icmp_eq (tgt := 1093) hx hb dL_law_776 (by decide) (fun _ => ?_) (fun c => absurd (by decide) c)
  exact law_tail hx hb hr hml hX hbl hlocks hAz hbA hS (lv_sub hl [0, 3] rfl)
set_option maxHeartbeats 4000000 in
set_option maxRecDepth 100000 in
/-- case 21: sets -/
theorem law_21 {p : Program} {l : Launch} {e : Env} {s : State} {m : MethodId} {below : List Frame} {meth : Method} {c : Code} {dC : Nat → ClassId} {dI : Nat → Nat → Nat} {cI cJ : ClassId} {b : Nat} {xs : Nat → Int32} {A : Nat → Prop} {q1 q2 : Nat} {rx rm : Nat → Nat} {og : Nat → Int32} {H : Heap} {locs : List Loc} {ls : Array Slot} (hx : p.tables.exec = Jvm.exec) (hb : c.code = code) (hr : meth.sig.returnType = ret) (hml : c.maxLocals = 4) (hown : s.vm.findClass RL = some m.cls) (hts : ∀ w ∈ lw_tbl, w.before #[Value.ref b] s = true) (hX : va_X b 6 xs s s.heap) (hbl : b < s.heap.size) (hlocks : meth.locks = false) (hA : ∀ q, s.heap.size ≤ q → A q) (hAz : ∀ q, A q → s.heap.size ≤ q) (hbA : ¬ A b) (hK : va_K (dC, dI) vwCl (ty0 cI cJ) s) (hN : gN s) (hP : va_P (dC, dI) vwCl (WX cI q1 rx ++ WM cI q2 rm og) H) (hD : va_D A (WX cI q1 rx ++ WM cI q2 rm og)) (hS : va_S A s.heap H locs) (hl : lv_has ls 4 [(0, .ref b), (1, .ref q1), (2, .ref q2), (3, .int 0)]) : W p l e room_1 s m #[Value.ref b] below meth c H locs 600000 7302250 (lw_Z below #[Value.ref b] s) (F0 m 781 ls []) := by
  have hP := hP.sub (ws' := [(q1, .inr (11, [.ref (rx 0), .ref (rx 1), .ref (rx 2), .ref (rx 3), .ref (rx 4), .ref (rx 5), .ref (rx 6), .ref (rx 7), .ref (rx 8), .ref (rx 9), .ref (rx 10), .ref (rx 11), .ref (rx 12), .ref (rx 13), .int 1])), ((rx 10), .inr (9, [.ref (rx 26), .ref (rx 27), .ref (rx 28), .ref (rx 29), .ref (rx 30), .ref (rx 31), .int 0, .int 0, .int 0, .int 0, .int 0])), (q2, .inr (12, (o12 rm)))]) [0, 9, 15] rfl
  have hD := hD.sub (ws' := [(q1, .inr (11, [.ref (rx 0), .ref (rx 1), .ref (rx 2), .ref (rx 3), .ref (rx 4), .ref (rx 5), .ref (rx 6), .ref (rx 7), .ref (rx 8), .ref (rx 9), .ref (rx 10), .ref (rx 11), .ref (rx 12), .ref (rx 13), .int 1])), ((rx 10), .inr (9, [.ref (rx 26), .ref (rx 27), .ref (rx 28), .ref (rx 29), .ref (rx 30), .ref (rx 31), .int 0, .int 0, .int 0, .int 0, .int 0])), (q2, .inr (12, (o12 rm)))]) [0, 9, 15] (by decide) rfl
  refine lv_aload_n hx hb dL_law_781 rfl (lv_at hl 1 rfl) ?_
  refine lv_aload_n hx hb dL_law_782 rfl (lv_at hl 0 rfl) ?_
  refine lv_iload_n hx hb dL_law_783 rfl (lv_at hl 3 rfl) ?_
  refine lv_iconst (v := 1) hx hb dL_law_784 (by decide) ?_
  refine k_iadd (v := 1) hx hb (by decide) dL_law_785 ?_
  refine va_sld hx hb hX hbl hbA hS (vpd (by decide)) dL_law_786 ?_
  have hPc := hP.sub (ws' := [(q1, .inr (11, [.ref (rx 0), .ref (rx 1), .ref (rx 2), .ref (rx 3), .ref (rx 4), .ref (rx 5), .ref (rx 6), .ref (rx 7), .ref (rx 8), .ref (rx 9), .ref (rx 10), .ref (rx 11), .ref (rx 12), .ref (rx 13), .int 1])), ((rx 10), .inr (9, [.ref (rx 26), .ref (rx 27), .ref (rx 28), .ref (rx 29), .ref (rx 30), .ref (rx 31), .int 0, .int 0, .int 0, .int 0, .int 0]))]) [0, 1] rfl
  have hDc := hD.sub (ws' := [(q1, .inr (11, [.ref (rx 0), .ref (rx 1), .ref (rx 2), .ref (rx 3), .ref (rx 4), .ref (rx 5), .ref (rx 6), .ref (rx 7), .ref (rx 8), .ref (rx 9), .ref (rx 10), .ref (rx 11), .ref (rx 12), .ref (rx 13), .int 1])), ((rx 10), .inr (9, [.ref (rx 26), .ref (rx 27), .ref (rx 28), .ref (rx 29), .ref (rx 30), .ref (rx 31), .int 0, .int 0, .int 0, .int 0, .int 0]))]) [0, 1] (by decide) rfl
  have hFc := va_free (wc := [(q1, .inr (11, [.ref (rx 0), .ref (rx 1), .ref (rx 2), .ref (rx 3), .ref (rx 4), .ref (rx 5), .ref (rx 6), .ref (rx 7), .ref (rx 8), .ref (rx 9), .ref (rx 10), .ref (rx 11), .ref (rx 12), .ref (rx 13), .int 1])), ((rx 10), .inr (9, [.ref (rx 26), .ref (rx 27), .ref (rx 28), .ref (rx 29), .ref (rx 30), .ref (rx 31), .int 0, .int 0, .int 0, .int 0, .int 0]))]) hD hS hA [0, 1] rfl
  refine va_calli (va_runV (As := [.int (xs (1 : Int32).toNatClampNeg)]) (rest := []) ⟨hx, hb, hml, hown, hts⟩ (c_X11_sets l dC dI cI cJ q1 rx (xs (1 : Int32).toNatClampNeg) H.size) (cwV 1 hts gL_law_X11_sets rfl rfl rfl (by decide +kernel) ⟨Nat.le_of_ble_eq_true rfl, Nat.le_of_ble_eq_true rfl⟩) ⟨mBlind, va_recv hK hPc (ci := 11) (q0 := 0) rfl rfl, mGo hPc hK hDc hN⟩ rfl rfl hl.1 rfl (lv_room (Nat.le_of_ble_eq_true rfl)) dL_law_787 ⟨Nat.le_of_ble_eq_true rfl, Nat.le_of_ble_eq_true rfl⟩) hS (fun q _ h => hFc q h) hFc (fun r_1 u t H1 locs ht hvm hw hB hz1 hk1 hS => ?_)
  obtain rfl : r_1 = (-1) := hw
  obtain ⟨hP, hD⟩ := va_join (wr := [(q2, .inr (12, (o12 rm)))]) (w1 := []) hP hD [0, 1] [2] rfl rfl (by decide) (by decide) hk1 hFc va_P0 va_D0
  generalize H1 = H at hP hS ⊢
  have hP : va_P (dC, dI) vwCl [(q2, .inr (12, (o12 rm)))] H := hP
  have hD : va_D A [(q2, .inr (12, (o12 rm)))] := hD
  refine lv_aload_n hx hb dL_law_790 rfl (lv_at hl 2 rfl) ?_
  refine lv_aload_n hx hb dL_law_791 rfl (lv_at hl 0 rfl) ?_
  refine lv_iload_n hx hb dL_law_792 rfl (lv_at hl 3 rfl) ?_
  refine lv_iconst (v := 1) hx hb dL_law_793 (by decide) ?_
  refine k_iadd (v := 1) hx hb (by decide) dL_law_794 ?_
  refine va_sld hx hb hX hbl hbA hS (vpd (by decide)) dL_law_795 ?_
  have hPc := hP.sub (ws' := [(q2, .inr (12, (o12 rm)))]) [0] rfl
  have hDc := hD.sub (ws' := [(q2, .inr (12, (o12 rm)))]) [0] (by decide) rfl
  have hFc := va_free (wc := [(q2, .inr (12, (o12 rm)))]) hD hS hA [0] rfl
  refine va_calli (va_runV (As := [.int (xs (1 : Int32).toNatClampNeg)]) (rest := [.int (-1)]) ⟨hx, hb, hml, hown, hts⟩ (c_X12_sets l dC dI cI cJ q2 rm (xs (1 : Int32).toNatClampNeg) H.size) (cwV 1 hts gL_law_X12_sets rfl rfl rfl (by decide +kernel) ⟨Nat.le_of_ble_eq_true rfl, Nat.le_of_ble_eq_true rfl⟩) ⟨mBlind, va_recv hK hPc (ci := 12) (q0 := 0) rfl rfl, mGo hPc hK hDc hN⟩ rfl rfl hl.1 rfl (lv_room (Nat.le_of_ble_eq_true rfl)) dL_law_796 ⟨Nat.le_of_ble_eq_true rfl, Nat.le_of_ble_eq_true rfl⟩) hS (fun q _ h => hFc q h) hFc (fun r_2 u t H1 locs ht hvm hw hB hz1 hk1 hS => ?_)
  obtain rfl : r_2 = (-1) := hw
  obtain ⟨hP, hD⟩ := va_join (wr := []) (w1 := []) hP hD [0] [] rfl rfl (by decide) (by decide) hk1 hFc va_P0 va_D0
  generalize H1 = H at hP hS ⊢
  have hP : va_P (dC, dI) vwCl [] H := hP
  have hD : va_D A [] := hD
  refine lv_icmp_eq (tgt := 1093) hx hb dL_law_799 (by decide) (fun _ => ?_) (fun c => absurd (by decide) c)
  exact law_tail hx hb hr hml hX hbl hlocks hAz hbA hS (lv_sub hl [0, 3] rfl)
set_option maxHeartbeats 4000000 in
set_option maxRecDepth 100000 in
/-- case 22: tells -/
theorem law_22 {p : Program} {l : Launch} {e : Env} {s : State} {m : MethodId} {below : List Frame} {meth : Method} {c : Code} {dC : Nat → ClassId} {dI : Nat → Nat → Nat} {cI cJ : ClassId} {b : Nat} {xs : Nat → Int32} {A : Nat → Prop} {q1 q2 : Nat} {rx rm : Nat → Nat} {og : Nat → Int32} {H : Heap} {locs : List Loc} {ls : Array Slot} (hx : p.tables.exec = Jvm.exec) (hb : c.code = code) (hr : meth.sig.returnType = ret) (hml : c.maxLocals = 4) (hown : s.vm.findClass RL = some m.cls) (hts : ∀ w ∈ lw_tbl, w.before #[Value.ref b] s = true) (hX : va_X b 6 xs s s.heap) (hbl : b < s.heap.size) (hlocks : meth.locks = false) (hA : ∀ q, s.heap.size ≤ q → A q) (hAz : ∀ q, A q → s.heap.size ≤ q) (hbA : ¬ A b) (hK : va_K (dC, dI) vwCl (ty0 cI cJ) s) (hN : gN s) (hP : va_P (dC, dI) vwCl (WX cI q1 rx ++ WM cI q2 rm og) H) (hD : va_D A (WX cI q1 rx ++ WM cI q2 rm og)) (hS : va_S A s.heap H locs) (hl : lv_has ls 4 [(0, .ref b), (1, .ref q1), (2, .ref q2), (3, .int 0)]) : W p l e room_1 s m #[Value.ref b] below meth c H locs 600000 7302250 (lw_Z below #[Value.ref b] s) (F0 m 804 ls []) := by
  have hP := hP.sub (ws' := [(q1, .inr (11, [.ref (rx 0), .ref (rx 1), .ref (rx 2), .ref (rx 3), .ref (rx 4), .ref (rx 5), .ref (rx 6), .ref (rx 7), .ref (rx 8), .ref (rx 9), .ref (rx 10), .ref (rx 11), .ref (rx 12), .ref (rx 13), .int 1])), ((rx 10), .inr (9, [.ref (rx 26), .ref (rx 27), .ref (rx 28), .ref (rx 29), .ref (rx 30), .ref (rx 31), .int 0, .int 0, .int 0, .int 0, .int 0])), (q2, .inr (12, (o12 rm)))]) [0, 9, 15] rfl
  have hD := hD.sub (ws' := [(q1, .inr (11, [.ref (rx 0), .ref (rx 1), .ref (rx 2), .ref (rx 3), .ref (rx 4), .ref (rx 5), .ref (rx 6), .ref (rx 7), .ref (rx 8), .ref (rx 9), .ref (rx 10), .ref (rx 11), .ref (rx 12), .ref (rx 13), .int 1])), ((rx 10), .inr (9, [.ref (rx 26), .ref (rx 27), .ref (rx 28), .ref (rx 29), .ref (rx 30), .ref (rx 31), .int 0, .int 0, .int 0, .int 0, .int 0])), (q2, .inr (12, (o12 rm)))]) [0, 9, 15] (by decide) rfl
  refine lv_aload_n hx hb dL_law_804 rfl (lv_at hl 1 rfl) ?_
  refine lv_aload_n hx hb dL_law_805 rfl (lv_at hl 0 rfl) ?_
  refine lv_iload_n hx hb dL_law_806 rfl (lv_at hl 3 rfl) ?_
  refine lv_iconst (v := 1) hx hb dL_law_807 (by decide) ?_
  refine k_iadd (v := 1) hx hb (by decide) dL_law_808 ?_
  refine va_sld hx hb hX hbl hbA hS (vpd (by decide)) dL_law_809 ?_
  have hPc := hP.sub (ws' := [(q1, .inr (11, [.ref (rx 0), .ref (rx 1), .ref (rx 2), .ref (rx 3), .ref (rx 4), .ref (rx 5), .ref (rx 6), .ref (rx 7), .ref (rx 8), .ref (rx 9), .ref (rx 10), .ref (rx 11), .ref (rx 12), .ref (rx 13), .int 1])), ((rx 10), .inr (9, [.ref (rx 26), .ref (rx 27), .ref (rx 28), .ref (rx 29), .ref (rx 30), .ref (rx 31), .int 0, .int 0, .int 0, .int 0, .int 0]))]) [0, 1] rfl
  have hDc := hD.sub (ws' := [(q1, .inr (11, [.ref (rx 0), .ref (rx 1), .ref (rx 2), .ref (rx 3), .ref (rx 4), .ref (rx 5), .ref (rx 6), .ref (rx 7), .ref (rx 8), .ref (rx 9), .ref (rx 10), .ref (rx 11), .ref (rx 12), .ref (rx 13), .int 1])), ((rx 10), .inr (9, [.ref (rx 26), .ref (rx 27), .ref (rx 28), .ref (rx 29), .ref (rx 30), .ref (rx 31), .int 0, .int 0, .int 0, .int 0, .int 0]))]) [0, 1] (by decide) rfl
  have hFc := va_free (wc := [(q1, .inr (11, [.ref (rx 0), .ref (rx 1), .ref (rx 2), .ref (rx 3), .ref (rx 4), .ref (rx 5), .ref (rx 6), .ref (rx 7), .ref (rx 8), .ref (rx 9), .ref (rx 10), .ref (rx 11), .ref (rx 12), .ref (rx 13), .int 1])), ((rx 10), .inr (9, [.ref (rx 26), .ref (rx 27), .ref (rx 28), .ref (rx 29), .ref (rx 30), .ref (rx 31), .int 0, .int 0, .int 0, .int 0, .int 0]))]) hD hS hA [0, 1] rfl
  refine va_calli (va_runV (As := [.int (xs (1 : Int32).toNatClampNeg)]) (rest := []) ⟨hx, hb, hml, hown, hts⟩ (c_X11_tells l dC dI cI cJ q1 rx (xs (1 : Int32).toNatClampNeg) H.size) (cwV 1 hts gL_law_X11_tells rfl rfl rfl (by decide +kernel) ⟨Nat.le_of_ble_eq_true rfl, Nat.le_of_ble_eq_true rfl⟩) ⟨mBlind, va_recv hK hPc (ci := 11) (q0 := 0) rfl rfl, mGo hPc hK hDc hN⟩ rfl rfl hl.1 rfl (lv_room (Nat.le_of_ble_eq_true rfl)) dL_law_810 ⟨Nat.le_of_ble_eq_true rfl, Nat.le_of_ble_eq_true rfl⟩) hS (fun q _ h => hFc q h) hFc (fun r_1 u t H1 locs ht hvm hw hB hz1 hk1 hS => ?_)
  obtain rfl : r_1 = (-1) := hw
  obtain ⟨hP, hD⟩ := va_join (wr := [(q2, .inr (12, (o12 rm)))]) (w1 := []) hP hD [0, 1] [2] rfl rfl (by decide) (by decide) hk1 hFc va_P0 va_D0
  generalize H1 = H at hP hS ⊢
  have hP : va_P (dC, dI) vwCl [(q2, .inr (12, (o12 rm)))] H := hP
  have hD : va_D A [(q2, .inr (12, (o12 rm)))] := hD
  refine lv_aload_n hx hb dL_law_813 rfl (lv_at hl 2 rfl) ?_
  refine lv_aload_n hx hb dL_law_814 rfl (lv_at hl 0 rfl) ?_
  refine lv_iload_n hx hb dL_law_815 rfl (lv_at hl 3 rfl) ?_
  refine lv_iconst (v := 1) hx hb dL_law_816 (by decide) ?_
  refine k_iadd (v := 1) hx hb (by decide) dL_law_817 ?_
  refine va_sld hx hb hX hbl hbA hS (vpd (by decide)) dL_law_818 ?_
  have hPc := hP.sub (ws' := [(q2, .inr (12, (o12 rm)))]) [0] rfl
  have hDc := hD.sub (ws' := [(q2, .inr (12, (o12 rm)))]) [0] (by decide) rfl
  have hFc := va_free (wc := [(q2, .inr (12, (o12 rm)))]) hD hS hA [0] rfl
  refine va_calli (va_runV (As := [.int (xs (1 : Int32).toNatClampNeg)]) (rest := [.int (-1)]) ⟨hx, hb, hml, hown, hts⟩ (c_X12_tells l dC dI cI cJ q2 rm (xs (1 : Int32).toNatClampNeg) H.size) (cwV 1 hts gL_law_X12_tells rfl rfl rfl (by decide +kernel) ⟨Nat.le_of_ble_eq_true rfl, Nat.le_of_ble_eq_true rfl⟩) ⟨mBlind, va_recv hK hPc (ci := 12) (q0 := 0) rfl rfl, mGo hPc hK hDc hN⟩ rfl rfl hl.1 rfl (lv_room (Nat.le_of_ble_eq_true rfl)) dL_law_819 ⟨Nat.le_of_ble_eq_true rfl, Nat.le_of_ble_eq_true rfl⟩) hS (fun q _ h => hFc q h) hFc (fun r_2 u t H1 locs ht hvm hw hB hz1 hk1 hS => ?_)
  obtain rfl : r_2 = (-1) := hw
  obtain ⟨hP, hD⟩ := va_join (wr := []) (w1 := []) hP hD [0] [] rfl rfl (by decide) (by decide) hk1 hFc va_P0 va_D0
  generalize H1 = H at hP hS ⊢
  have hP : va_P (dC, dI) vwCl [] H := hP
  have hD : va_D A [] := hD
  refine lv_icmp_eq (tgt := 1093) hx hb dL_law_822 (by decide) (fun _ => ?_) (fun c => absurd (by decide) c)
  exact law_tail hx hb hr hml hX hbl hlocks hAz hbA hS (lv_sub hl [0, 3] rfl)
set_option maxHeartbeats 4000000 in
set_option maxRecDepth 100000 in
/-- case 23: run -/
theorem law_23 {p : Program} {l : Launch} {e : Env} {s : State} {m : MethodId} {below : List Frame} {meth : Method} {c : Code} {dC : Nat → ClassId} {dI : Nat → Nat → Nat} {cI cJ : ClassId} {b : Nat} {xs : Nat → Int32} {A : Nat → Prop} {q1 q2 : Nat} {rx rm : Nat → Nat} {og : Nat → Int32} {H : Heap} {locs : List Loc} {ls : Array Slot} (hx : p.tables.exec = Jvm.exec) (hb : c.code = code) (hr : meth.sig.returnType = ret) (hml : c.maxLocals = 4) (hown : s.vm.findClass RL = some m.cls) (hts : ∀ w ∈ lw_tbl, w.before #[Value.ref b] s = true) (hX : va_X b 6 xs s s.heap) (hbl : b < s.heap.size) (hlocks : meth.locks = false) (hA : ∀ q, s.heap.size ≤ q → A q) (hAz : ∀ q, A q → s.heap.size ≤ q) (hbA : ¬ A b) (hK : va_K (dC, dI) vwCl (ty0 cI cJ) s) (hN : gN s) (hP : va_P (dC, dI) vwCl (WX cI q1 rx ++ WM cI q2 rm og) H) (hD : va_D A (WX cI q1 rx ++ WM cI q2 rm og)) (hS : va_S A s.heap H locs) (hl : lv_has ls 4 [(0, .ref b), (1, .ref q1), (2, .ref q2), (3, .int 0)]) : W p l e room_1 s m #[Value.ref b] below meth c H locs 600000 7302250 (lw_Z below #[Value.ref b] s) (F0 m 827 ls []) := by
  have hP := hP.sub (ws' := [(q1, .inr (11, [.ref (rx 0), .ref (rx 1), .ref (rx 2), .ref (rx 3), .ref (rx 4), .ref (rx 5), .ref (rx 6), .ref (rx 7), .ref (rx 8), .ref (rx 9), .ref (rx 10), .ref (rx 11), .ref (rx 12), .ref (rx 13), .int 1])), ((rx 10), .inr (9, [.ref (rx 26), .ref (rx 27), .ref (rx 28), .ref (rx 29), .ref (rx 30), .ref (rx 31), .int 0, .int 0, .int 0, .int 0, .int 0])), ((rx 9), .inl (cI, 6, .inl (fun _ => 0))), (q2, .inr (12, (o12 rm))), ((rm 27), .inl (cI, 6, .inl (fun _ => 0)))]) [0, 9, 8, 15, 23] rfl
  have hD := hD.sub (ws' := [(q1, .inr (11, [.ref (rx 0), .ref (rx 1), .ref (rx 2), .ref (rx 3), .ref (rx 4), .ref (rx 5), .ref (rx 6), .ref (rx 7), .ref (rx 8), .ref (rx 9), .ref (rx 10), .ref (rx 11), .ref (rx 12), .ref (rx 13), .int 1])), ((rx 10), .inr (9, [.ref (rx 26), .ref (rx 27), .ref (rx 28), .ref (rx 29), .ref (rx 30), .ref (rx 31), .int 0, .int 0, .int 0, .int 0, .int 0])), ((rx 9), .inl (cI, 6, .inl (fun _ => 0))), (q2, .inr (12, (o12 rm))), ((rm 27), .inl (cI, 6, .inl (fun _ => 0)))]) [0, 9, 8, 15, 23] (by decide) rfl
  refine lv_aload_n hx hb dL_law_827 rfl (lv_at hl 1 rfl) ?_
  refine lv_aload_n hx hb dL_law_828 rfl (lv_at hl 0 rfl) ?_
  refine lv_iload_n hx hb dL_law_829 rfl (lv_at hl 3 rfl) ?_
  refine lv_iconst (v := 1) hx hb dL_law_830 (by decide) ?_
  refine k_iadd (v := 1) hx hb (by decide) dL_law_831 ?_
  refine va_sld hx hb hX hbl hbA hS (vpd (by decide)) dL_law_832 ?_
  have hPc := hP.sub (ws' := [(q1, .inr (11, [.ref (rx 0), .ref (rx 1), .ref (rx 2), .ref (rx 3), .ref (rx 4), .ref (rx 5), .ref (rx 6), .ref (rx 7), .ref (rx 8), .ref (rx 9), .ref (rx 10), .ref (rx 11), .ref (rx 12), .ref (rx 13), .int 1])), ((rx 10), .inr (9, [.ref (rx 26), .ref (rx 27), .ref (rx 28), .ref (rx 29), .ref (rx 30), .ref (rx 31), .int 0, .int 0, .int 0, .int 0, .int 0])), ((rx 9), .inl (cI, 6, .inl (fun _ => 0)))]) [0, 1, 2] rfl
  have hDc := hD.sub (ws' := [(q1, .inr (11, [.ref (rx 0), .ref (rx 1), .ref (rx 2), .ref (rx 3), .ref (rx 4), .ref (rx 5), .ref (rx 6), .ref (rx 7), .ref (rx 8), .ref (rx 9), .ref (rx 10), .ref (rx 11), .ref (rx 12), .ref (rx 13), .int 1])), ((rx 10), .inr (9, [.ref (rx 26), .ref (rx 27), .ref (rx 28), .ref (rx 29), .ref (rx 30), .ref (rx 31), .int 0, .int 0, .int 0, .int 0, .int 0])), ((rx 9), .inl (cI, 6, .inl (fun _ => 0)))]) [0, 1, 2] (by decide) rfl
  have hFc := va_free (wc := [(q1, .inr (11, [.ref (rx 0), .ref (rx 1), .ref (rx 2), .ref (rx 3), .ref (rx 4), .ref (rx 5), .ref (rx 6), .ref (rx 7), .ref (rx 8), .ref (rx 9), .ref (rx 10), .ref (rx 11), .ref (rx 12), .ref (rx 13), .int 1])), ((rx 10), .inr (9, [.ref (rx 26), .ref (rx 27), .ref (rx 28), .ref (rx 29), .ref (rx 30), .ref (rx 31), .int 0, .int 0, .int 0, .int 0, .int 0])), ((rx 9), .inl (cI, 6, .inl (fun _ => 0)))]) hD hS hA [0, 1, 2] rfl
  refine va_calli (va_runV (As := [.int (xs (1 : Int32).toNatClampNeg)]) (rest := []) ⟨hx, hb, hml, hown, hts⟩ (c_X11_run l dC dI cI cJ q1 rx (xs (1 : Int32).toNatClampNeg) H.size) (cwV 1 hts gL_law_X11_run rfl rfl rfl (by decide +kernel) ⟨Nat.le_of_ble_eq_true rfl, Nat.le_of_ble_eq_true rfl⟩) ⟨mBlind, va_recv hK hPc (ci := 11) (q0 := 0) rfl rfl, mGo hPc hK hDc hN⟩ rfl rfl hl.1 rfl (lv_room (Nat.le_of_ble_eq_true rfl)) dL_law_833 ⟨Nat.le_of_ble_eq_true rfl, Nat.le_of_ble_eq_true rfl⟩) hS (fun q _ h => hFc q h) hFc (fun r_1 u t H1 locs ht hvm hw hB hz1 hk1 hS => ?_)
  obtain rfl : r_1 = (-1) := hw
  obtain ⟨hP, hD⟩ := va_join (wr := [(q2, .inr (12, (o12 rm))), ((rm 27), .inl (cI, 6, .inl (fun _ => 0)))]) (w1 := []) hP hD [0, 1, 2] [3, 4] rfl rfl (by decide) (by decide) hk1 hFc va_P0 va_D0
  generalize H1 = H at hP hS ⊢
  have hP : va_P (dC, dI) vwCl [(q2, .inr (12, (o12 rm))), ((rm 27), .inl (cI, 6, .inl (fun _ => 0)))] H := hP
  have hD : va_D A [(q2, .inr (12, (o12 rm))), ((rm 27), .inl (cI, 6, .inl (fun _ => 0)))] := hD
  refine lv_aload_n hx hb dL_law_836 rfl (lv_at hl 2 rfl) ?_
  refine lv_aload_n hx hb dL_law_837 rfl (lv_at hl 0 rfl) ?_
  refine lv_iload_n hx hb dL_law_838 rfl (lv_at hl 3 rfl) ?_
  refine lv_iconst (v := 1) hx hb dL_law_839 (by decide) ?_
  refine k_iadd (v := 1) hx hb (by decide) dL_law_840 ?_
  refine va_sld hx hb hX hbl hbA hS (vpd (by decide)) dL_law_841 ?_
  have hPc := hP.sub (ws' := [(q2, .inr (12, (o12 rm))), ((rm 27), .inl (cI, 6, .inl (fun _ => 0)))]) [0, 1] rfl
  have hDc := hD.sub (ws' := [(q2, .inr (12, (o12 rm))), ((rm 27), .inl (cI, 6, .inl (fun _ => 0)))]) [0, 1] (by decide) rfl
  have hFc := va_free (wc := [(q2, .inr (12, (o12 rm))), ((rm 27), .inl (cI, 6, .inl (fun _ => 0)))]) hD hS hA [0, 1] rfl
  refine va_calli (va_runV (As := [.int (xs (1 : Int32).toNatClampNeg)]) (rest := [.int (-1)]) ⟨hx, hb, hml, hown, hts⟩ (c_X12_run l dC dI cI cJ q2 rm (xs (1 : Int32).toNatClampNeg) H.size) (cwV 1 hts gL_law_X12_run rfl rfl rfl (by decide +kernel) ⟨Nat.le_of_ble_eq_true rfl, Nat.le_of_ble_eq_true rfl⟩) ⟨mBlind, va_recv hK hPc (ci := 12) (q0 := 0) rfl rfl, mGo hPc hK hDc hN⟩ rfl rfl hl.1 rfl (lv_room (Nat.le_of_ble_eq_true rfl)) dL_law_842 ⟨Nat.le_of_ble_eq_true rfl, Nat.le_of_ble_eq_true rfl⟩) hS (fun q _ h => hFc q h) hFc (fun r_2 u t H1 locs ht hvm hw hB hz1 hk1 hS => ?_)
  obtain rfl : r_2 = (-1) := hw
  obtain ⟨hP, hD⟩ := va_join (wr := []) (w1 := []) hP hD [0, 1] [] rfl rfl (by decide) (by decide) hk1 hFc va_P0 va_D0
  generalize H1 = H at hP hS ⊢
  have hP : va_P (dC, dI) vwCl [] H := hP
  have hD : va_D A [] := hD
  refine lv_icmp_eq (tgt := 1093) hx hb dL_law_845 (by decide) (fun _ => ?_) (fun c => absurd (by decide) c)
  exact law_tail hx hb hr hml hX hbl hlocks hAz hbA hS (lv_sub hl [0, 3] rfl)
set_option maxHeartbeats 4000000 in
set_option maxRecDepth 100000 in
/-- case 24: chance -/
theorem law_24 {p : Program} {l : Launch} {e : Env} {s : State} {m : MethodId} {below : List Frame} {meth : Method} {c : Code} {dC : Nat → ClassId} {dI : Nat → Nat → Nat} {cI cJ : ClassId} {b : Nat} {xs : Nat → Int32} {A : Nat → Prop} {q1 q2 : Nat} {rx rm : Nat → Nat} {og : Nat → Int32} {H : Heap} {locs : List Loc} {ls : Array Slot} (hx : p.tables.exec = Jvm.exec) (hb : c.code = code) (hr : meth.sig.returnType = ret) (hml : c.maxLocals = 4) (hown : s.vm.findClass RL = some m.cls) (hts : ∀ w ∈ lw_tbl, w.before #[Value.ref b] s = true) (hX : va_X b 6 xs s s.heap) (hbl : b < s.heap.size) (hlocks : meth.locks = false) (hA : ∀ q, s.heap.size ≤ q → A q) (hAz : ∀ q, A q → s.heap.size ≤ q) (hbA : ¬ A b) (hK : va_K (dC, dI) vwCl (ty0 cI cJ) s) (hN : gN s) (hP : va_P (dC, dI) vwCl (WX cI q1 rx ++ WM cI q2 rm og) H) (hD : va_D A (WX cI q1 rx ++ WM cI q2 rm og)) (hS : va_S A s.heap H locs) (hl : lv_has ls 4 [(0, .ref b), (1, .ref q1), (2, .ref q2), (3, .int 0)]) : W p l e room_1 s m #[Value.ref b] below meth c H locs 600000 7302250 (lw_Z below #[Value.ref b] s) (F0 m 850 ls []) := by
  have hP := hP.sub (ws' := [(q1, .inr (11, [.ref (rx 0), .ref (rx 1), .ref (rx 2), .ref (rx 3), .ref (rx 4), .ref (rx 5), .ref (rx 6), .ref (rx 7), .ref (rx 8), .ref (rx 9), .ref (rx 10), .ref (rx 11), .ref (rx 12), .ref (rx 13), .int 1])), ((rx 10), .inr (9, [.ref (rx 26), .ref (rx 27), .ref (rx 28), .ref (rx 29), .ref (rx 30), .ref (rx 31), .int 0, .int 0, .int 0, .int 0, .int 0])), ((rx 9), .inl (cI, 6, .inl (fun _ => 0))), (q2, .inr (12, (o12 rm))), ((rm 27), .inl (cI, 6, .inl (fun _ => 0)))]) [0, 9, 8, 15, 23] rfl
  have hD := hD.sub (ws' := [(q1, .inr (11, [.ref (rx 0), .ref (rx 1), .ref (rx 2), .ref (rx 3), .ref (rx 4), .ref (rx 5), .ref (rx 6), .ref (rx 7), .ref (rx 8), .ref (rx 9), .ref (rx 10), .ref (rx 11), .ref (rx 12), .ref (rx 13), .int 1])), ((rx 10), .inr (9, [.ref (rx 26), .ref (rx 27), .ref (rx 28), .ref (rx 29), .ref (rx 30), .ref (rx 31), .int 0, .int 0, .int 0, .int 0, .int 0])), ((rx 9), .inl (cI, 6, .inl (fun _ => 0))), (q2, .inr (12, (o12 rm))), ((rm 27), .inl (cI, 6, .inl (fun _ => 0)))]) [0, 9, 8, 15, 23] (by decide) rfl
  refine lv_aload_n hx hb dL_law_850 rfl (lv_at hl 1 rfl) ?_
  refine lv_aload_n hx hb dL_law_851 rfl (lv_at hl 0 rfl) ?_
  refine lv_iload_n hx hb dL_law_852 rfl (lv_at hl 3 rfl) ?_
  refine lv_iconst (v := 1) hx hb dL_law_853 (by decide) ?_
  refine k_iadd (v := 1) hx hb (by decide) dL_law_854 ?_
  refine va_sld hx hb hX hbl hbA hS (vpd (by decide)) dL_law_855 ?_
  have hPc := hP.sub (ws' := [(q1, .inr (11, [.ref (rx 0), .ref (rx 1), .ref (rx 2), .ref (rx 3), .ref (rx 4), .ref (rx 5), .ref (rx 6), .ref (rx 7), .ref (rx 8), .ref (rx 9), .ref (rx 10), .ref (rx 11), .ref (rx 12), .ref (rx 13), .int 1])), ((rx 10), .inr (9, [.ref (rx 26), .ref (rx 27), .ref (rx 28), .ref (rx 29), .ref (rx 30), .ref (rx 31), .int 0, .int 0, .int 0, .int 0, .int 0])), ((rx 9), .inl (cI, 6, .inl (fun _ => 0)))]) [0, 1, 2] rfl
  have hDc := hD.sub (ws' := [(q1, .inr (11, [.ref (rx 0), .ref (rx 1), .ref (rx 2), .ref (rx 3), .ref (rx 4), .ref (rx 5), .ref (rx 6), .ref (rx 7), .ref (rx 8), .ref (rx 9), .ref (rx 10), .ref (rx 11), .ref (rx 12), .ref (rx 13), .int 1])), ((rx 10), .inr (9, [.ref (rx 26), .ref (rx 27), .ref (rx 28), .ref (rx 29), .ref (rx 30), .ref (rx 31), .int 0, .int 0, .int 0, .int 0, .int 0])), ((rx 9), .inl (cI, 6, .inl (fun _ => 0)))]) [0, 1, 2] (by decide) rfl
  have hFc := va_free (wc := [(q1, .inr (11, [.ref (rx 0), .ref (rx 1), .ref (rx 2), .ref (rx 3), .ref (rx 4), .ref (rx 5), .ref (rx 6), .ref (rx 7), .ref (rx 8), .ref (rx 9), .ref (rx 10), .ref (rx 11), .ref (rx 12), .ref (rx 13), .int 1])), ((rx 10), .inr (9, [.ref (rx 26), .ref (rx 27), .ref (rx 28), .ref (rx 29), .ref (rx 30), .ref (rx 31), .int 0, .int 0, .int 0, .int 0, .int 0])), ((rx 9), .inl (cI, 6, .inl (fun _ => 0)))]) hD hS hA [0, 1, 2] rfl
  refine va_calli (va_runV (As := [.int (xs (1 : Int32).toNatClampNeg)]) (rest := []) ⟨hx, hb, hml, hown, hts⟩ (c_X11_chance l dC dI cI cJ q1 rx (xs (1 : Int32).toNatClampNeg) H.size) (cwV 1 hts gL_law_X11_chance rfl rfl rfl (by decide +kernel) ⟨Nat.le_of_ble_eq_true rfl, Nat.le_of_ble_eq_true rfl⟩) ⟨mBlind, va_recv hK hPc (ci := 11) (q0 := 0) rfl rfl, mGo hPc hK hDc hN⟩ rfl rfl hl.1 rfl (lv_room (Nat.le_of_ble_eq_true rfl)) dL_law_856 ⟨Nat.le_of_ble_eq_true rfl, Nat.le_of_ble_eq_true rfl⟩) hS (fun q _ h => hFc q h) hFc (fun r_1 u t H1 locs ht hvm hw hB hz1 hk1 hS => ?_)
  obtain rfl : r_1 = (-1) := hw
  obtain ⟨hP, hD⟩ := va_join (wr := [(q2, .inr (12, (o12 rm))), ((rm 27), .inl (cI, 6, .inl (fun _ => 0)))]) (w1 := []) hP hD [0, 1, 2] [3, 4] rfl rfl (by decide) (by decide) hk1 hFc va_P0 va_D0
  generalize H1 = H at hP hS ⊢
  have hP : va_P (dC, dI) vwCl [(q2, .inr (12, (o12 rm))), ((rm 27), .inl (cI, 6, .inl (fun _ => 0)))] H := hP
  have hD : va_D A [(q2, .inr (12, (o12 rm))), ((rm 27), .inl (cI, 6, .inl (fun _ => 0)))] := hD
  refine lv_aload_n hx hb dL_law_859 rfl (lv_at hl 2 rfl) ?_
  refine lv_aload_n hx hb dL_law_860 rfl (lv_at hl 0 rfl) ?_
  refine lv_iload_n hx hb dL_law_861 rfl (lv_at hl 3 rfl) ?_
  refine lv_iconst (v := 1) hx hb dL_law_862 (by decide) ?_
  refine k_iadd (v := 1) hx hb (by decide) dL_law_863 ?_
  refine va_sld hx hb hX hbl hbA hS (vpd (by decide)) dL_law_864 ?_
  have hPc := hP.sub (ws' := [(q2, .inr (12, (o12 rm))), ((rm 27), .inl (cI, 6, .inl (fun _ => 0)))]) [0, 1] rfl
  have hDc := hD.sub (ws' := [(q2, .inr (12, (o12 rm))), ((rm 27), .inl (cI, 6, .inl (fun _ => 0)))]) [0, 1] (by decide) rfl
  have hFc := va_free (wc := [(q2, .inr (12, (o12 rm))), ((rm 27), .inl (cI, 6, .inl (fun _ => 0)))]) hD hS hA [0, 1] rfl
  refine va_calli (va_runV (As := [.int (xs (1 : Int32).toNatClampNeg)]) (rest := [.int (-1)]) ⟨hx, hb, hml, hown, hts⟩ (c_X12_chance l dC dI cI cJ q2 rm (xs (1 : Int32).toNatClampNeg) H.size) (cwV 1 hts gL_law_X12_chance rfl rfl rfl (by decide +kernel) ⟨Nat.le_of_ble_eq_true rfl, Nat.le_of_ble_eq_true rfl⟩) ⟨mBlind, va_recv hK hPc (ci := 12) (q0 := 0) rfl rfl, mGo hPc hK hDc hN⟩ rfl rfl hl.1 rfl (lv_room (Nat.le_of_ble_eq_true rfl)) dL_law_865 ⟨Nat.le_of_ble_eq_true rfl, Nat.le_of_ble_eq_true rfl⟩) hS (fun q _ h => hFc q h) hFc (fun r_2 u t H1 locs ht hvm hw hB hz1 hk1 hS => ?_)
  obtain rfl : r_2 = (-1) := hw
  obtain ⟨hP, hD⟩ := va_join (wr := []) (w1 := []) hP hD [0, 1] [] rfl rfl (by decide) (by decide) hk1 hFc va_P0 va_D0
  generalize H1 = H at hP hS ⊢
  have hP : va_P (dC, dI) vwCl [] H := hP
  have hD : va_D A [] := hD
  refine lv_icmp_eq (tgt := 1093) hx hb dL_law_868 (by decide) (fun _ => ?_) (fun c => absurd (by decide) c)
  exact law_tail hx hb hr hml hX hbl hlocks hAz hbA hS (lv_sub hl [0, 3] rfl)
set_option maxHeartbeats 4000000 in
set_option maxRecDepth 100000 in
/-- case 25: swap -/
theorem law_25 {p : Program} {l : Launch} {e : Env} {s : State} {m : MethodId} {below : List Frame} {meth : Method} {c : Code} {dC : Nat → ClassId} {dI : Nat → Nat → Nat} {cI cJ : ClassId} {b : Nat} {xs : Nat → Int32} {A : Nat → Prop} {q1 q2 : Nat} {rx rm : Nat → Nat} {og : Nat → Int32} {H : Heap} {locs : List Loc} {ls : Array Slot} (hx : p.tables.exec = Jvm.exec) (hb : c.code = code) (hr : meth.sig.returnType = ret) (hml : c.maxLocals = 4) (hown : s.vm.findClass RL = some m.cls) (hts : ∀ w ∈ lw_tbl, w.before #[Value.ref b] s = true) (hX : va_X b 6 xs s s.heap) (hbl : b < s.heap.size) (hlocks : meth.locks = false) (hA : ∀ q, s.heap.size ≤ q → A q) (hAz : ∀ q, A q → s.heap.size ≤ q) (hbA : ¬ A b) (hK : va_K (dC, dI) vwCl (ty0 cI cJ) s) (hN : gN s) (hP : va_P (dC, dI) vwCl (WX cI q1 rx ++ WM cI q2 rm og) H) (hD : va_D A (WX cI q1 rx ++ WM cI q2 rm og)) (hS : va_S A s.heap H locs) (hl : lv_has ls 4 [(0, .ref b), (1, .ref q1), (2, .ref q2), (3, .int 0)]) : W p l e room_1 s m #[Value.ref b] below meth c H locs 600000 7302250 (lw_Z below #[Value.ref b] s) (F0 m 873 ls []) := by
  have hP := hP.sub (ws' := [(q1, .inr (11, [.ref (rx 0), .ref (rx 1), .ref (rx 2), .ref (rx 3), .ref (rx 4), .ref (rx 5), .ref (rx 6), .ref (rx 7), .ref (rx 8), .ref (rx 9), .ref (rx 10), .ref (rx 11), .ref (rx 12), .ref (rx 13), .int 1])), ((rx 5), .inr (5, [.ref (rx 16), .int 0, .int 0, .int 0])), ((rx 9), .inl (cI, 6, .inl (fun _ => 0))), (q2, .inr (12, (o12 rm))), ((rm 27), .inl (cI, 6, .inl (fun _ => 0)))]) [0, 5, 8, 15, 23] rfl
  have hD := hD.sub (ws' := [(q1, .inr (11, [.ref (rx 0), .ref (rx 1), .ref (rx 2), .ref (rx 3), .ref (rx 4), .ref (rx 5), .ref (rx 6), .ref (rx 7), .ref (rx 8), .ref (rx 9), .ref (rx 10), .ref (rx 11), .ref (rx 12), .ref (rx 13), .int 1])), ((rx 5), .inr (5, [.ref (rx 16), .int 0, .int 0, .int 0])), ((rx 9), .inl (cI, 6, .inl (fun _ => 0))), (q2, .inr (12, (o12 rm))), ((rm 27), .inl (cI, 6, .inl (fun _ => 0)))]) [0, 5, 8, 15, 23] (by decide) rfl
  refine lv_aload_n hx hb dL_law_873 rfl (lv_at hl 1 rfl) ?_
  refine lv_aload_n hx hb dL_law_874 rfl (lv_at hl 0 rfl) ?_
  refine lv_iload_n hx hb dL_law_875 rfl (lv_at hl 3 rfl) ?_
  refine lv_iconst (v := 1) hx hb dL_law_876 (by decide) ?_
  refine k_iadd (v := 1) hx hb (by decide) dL_law_877 ?_
  refine va_sld hx hb hX hbl hbA hS (vpd (by decide)) dL_law_878 ?_
  refine lv_aload_n hx hb dL_law_879 rfl (lv_at hl 0 rfl) ?_
  refine lv_iload_n hx hb dL_law_880 rfl (lv_at hl 3 rfl) ?_
  refine lv_iconst (v := 2) hx hb dL_law_881 (by decide) ?_
  refine k_iadd (v := 2) hx hb (by decide) dL_law_882 ?_
  refine va_sld hx hb hX hbl hbA hS (vpd (by decide)) dL_law_883 ?_
  have hPc := hP.sub (ws' := [(q1, .inr (11, [.ref (rx 0), .ref (rx 1), .ref (rx 2), .ref (rx 3), .ref (rx 4), .ref (rx 5), .ref (rx 6), .ref (rx 7), .ref (rx 8), .ref (rx 9), .ref (rx 10), .ref (rx 11), .ref (rx 12), .ref (rx 13), .int 1])), ((rx 5), .inr (5, [.ref (rx 16), .int 0, .int 0, .int 0])), ((rx 9), .inl (cI, 6, .inl (fun _ => 0)))]) [0, 1, 2] rfl
  have hDc := hD.sub (ws' := [(q1, .inr (11, [.ref (rx 0), .ref (rx 1), .ref (rx 2), .ref (rx 3), .ref (rx 4), .ref (rx 5), .ref (rx 6), .ref (rx 7), .ref (rx 8), .ref (rx 9), .ref (rx 10), .ref (rx 11), .ref (rx 12), .ref (rx 13), .int 1])), ((rx 5), .inr (5, [.ref (rx 16), .int 0, .int 0, .int 0])), ((rx 9), .inl (cI, 6, .inl (fun _ => 0)))]) [0, 1, 2] (by decide) rfl
  have hFc := va_free (wc := [(q1, .inr (11, [.ref (rx 0), .ref (rx 1), .ref (rx 2), .ref (rx 3), .ref (rx 4), .ref (rx 5), .ref (rx 6), .ref (rx 7), .ref (rx 8), .ref (rx 9), .ref (rx 10), .ref (rx 11), .ref (rx 12), .ref (rx 13), .int 1])), ((rx 5), .inr (5, [.ref (rx 16), .int 0, .int 0, .int 0])), ((rx 9), .inl (cI, 6, .inl (fun _ => 0)))]) hD hS hA [0, 1, 2] rfl
  refine va_calli (va_runV (As := [.int (xs (1 : Int32).toNatClampNeg), .int (xs (2 : Int32).toNatClampNeg)]) (rest := []) ⟨hx, hb, hml, hown, hts⟩ (c_X11_swap l dC dI cI cJ q1 rx (xs (1 : Int32).toNatClampNeg) (xs (2 : Int32).toNatClampNeg) H.size) (cwV 2 hts gL_law_X11_swap rfl rfl rfl (by decide +kernel) ⟨Nat.le_of_ble_eq_true rfl, Nat.le_of_ble_eq_true rfl⟩) ⟨mBlind, va_recv hK hPc (ci := 11) (q0 := 0) rfl rfl, mGo hPc hK hDc hN⟩ rfl rfl hl.1 rfl (lv_room (Nat.le_of_ble_eq_true rfl)) dL_law_884 ⟨Nat.le_of_ble_eq_true rfl, Nat.le_of_ble_eq_true rfl⟩) hS (fun q _ h => hFc q h) hFc (fun r_1 u t H1 locs ht hvm hw hB hz1 hk1 hS => ?_)
  obtain rfl : r_1 = 0 := hw
  obtain ⟨hP, hD⟩ := va_join (wr := [(q2, .inr (12, (o12 rm))), ((rm 27), .inl (cI, 6, .inl (fun _ => 0)))]) (w1 := []) hP hD [0, 1, 2] [3, 4] rfl rfl (by decide) (by decide) hk1 hFc va_P0 va_D0
  generalize H1 = H at hP hS ⊢
  have hP : va_P (dC, dI) vwCl [(q2, .inr (12, (o12 rm))), ((rm 27), .inl (cI, 6, .inl (fun _ => 0)))] H := hP
  have hD : va_D A [(q2, .inr (12, (o12 rm))), ((rm 27), .inl (cI, 6, .inl (fun _ => 0)))] := hD
  refine lv_aload_n hx hb dL_law_887 rfl (lv_at hl 2 rfl) ?_
  refine lv_aload_n hx hb dL_law_888 rfl (lv_at hl 0 rfl) ?_
  refine lv_iload_n hx hb dL_law_889 rfl (lv_at hl 3 rfl) ?_
  refine lv_iconst (v := 1) hx hb dL_law_890 (by decide) ?_
  refine k_iadd (v := 1) hx hb (by decide) dL_law_891 ?_
  refine va_sld hx hb hX hbl hbA hS (vpd (by decide)) dL_law_892 ?_
  refine lv_aload_n hx hb dL_law_893 rfl (lv_at hl 0 rfl) ?_
  refine lv_iload_n hx hb dL_law_894 rfl (lv_at hl 3 rfl) ?_
  refine lv_iconst (v := 2) hx hb dL_law_895 (by decide) ?_
  refine k_iadd (v := 2) hx hb (by decide) dL_law_896 ?_
  refine va_sld hx hb hX hbl hbA hS (vpd (by decide)) dL_law_897 ?_
  have hPc := hP.sub (ws' := [(q2, .inr (12, (o12 rm))), ((rm 27), .inl (cI, 6, .inl (fun _ => 0)))]) [0, 1] rfl
  have hDc := hD.sub (ws' := [(q2, .inr (12, (o12 rm))), ((rm 27), .inl (cI, 6, .inl (fun _ => 0)))]) [0, 1] (by decide) rfl
  have hFc := va_free (wc := [(q2, .inr (12, (o12 rm))), ((rm 27), .inl (cI, 6, .inl (fun _ => 0)))]) hD hS hA [0, 1] rfl
  refine va_calli (va_runV (As := [.int (xs (1 : Int32).toNatClampNeg), .int (xs (2 : Int32).toNatClampNeg)]) (rest := [.int 0]) ⟨hx, hb, hml, hown, hts⟩ (c_X12_swap l dC dI cI cJ q2 rm (xs (1 : Int32).toNatClampNeg) (xs (2 : Int32).toNatClampNeg) H.size) (cwV 2 hts gL_law_X12_swap rfl rfl rfl (by decide +kernel) ⟨Nat.le_of_ble_eq_true rfl, Nat.le_of_ble_eq_true rfl⟩) ⟨mBlind, va_recv hK hPc (ci := 12) (q0 := 0) rfl rfl, mGo hPc hK hDc hN⟩ rfl rfl hl.1 rfl (lv_room (Nat.le_of_ble_eq_true rfl)) dL_law_898 ⟨Nat.le_of_ble_eq_true rfl, Nat.le_of_ble_eq_true rfl⟩) hS (fun q _ h => hFc q h) hFc (fun r_2 u t H1 locs ht hvm hw hB hz1 hk1 hS => ?_)
  obtain rfl : r_2 = 0 := hw
  obtain ⟨hP, hD⟩ := va_join (wr := []) (w1 := []) hP hD [0, 1] [] rfl rfl (by decide) (by decide) hk1 hFc va_P0 va_D0
  generalize H1 = H at hP hS ⊢
  have hP : va_P (dC, dI) vwCl [] H := hP
  have hD : va_D A [] := hD
  refine lv_icmp_eq (tgt := 1093) hx hb dL_law_901 (by decide) (fun _ => ?_) (fun c => absurd (by decide) c)
  exact law_tail hx hb hr hml hX hbl hlocks hAz hbA hS (lv_sub hl [0, 3] rfl)
set_option maxHeartbeats 4000000 in
set_option maxRecDepth 100000 in
/-- case 26: drop -/
theorem law_26 {p : Program} {l : Launch} {e : Env} {s : State} {m : MethodId} {below : List Frame} {meth : Method} {c : Code} {dC : Nat → ClassId} {dI : Nat → Nat → Nat} {cI cJ : ClassId} {b : Nat} {xs : Nat → Int32} {A : Nat → Prop} {q1 q2 : Nat} {rx rm : Nat → Nat} {og : Nat → Int32} {H : Heap} {locs : List Loc} {ls : Array Slot} (hx : p.tables.exec = Jvm.exec) (hb : c.code = code) (hr : meth.sig.returnType = ret) (hml : c.maxLocals = 4) (hown : s.vm.findClass RL = some m.cls) (hts : ∀ w ∈ lw_tbl, w.before #[Value.ref b] s = true) (hX : va_X b 6 xs s s.heap) (hbl : b < s.heap.size) (hlocks : meth.locks = false) (hA : ∀ q, s.heap.size ≤ q → A q) (hAz : ∀ q, A q → s.heap.size ≤ q) (hbA : ¬ A b) (hK : va_K (dC, dI) vwCl (ty0 cI cJ) s) (hN : gN s) (hP : va_P (dC, dI) vwCl (WX cI q1 rx ++ WM cI q2 rm og) H) (hD : va_D A (WX cI q1 rx ++ WM cI q2 rm og)) (hS : va_S A s.heap H locs) (hl : lv_has ls 4 [(0, .ref b), (1, .ref q1), (2, .ref q2), (3, .int 0)]) : W p l e room_1 s m #[Value.ref b] below meth c H locs 600000 7302250 (lw_Z below #[Value.ref b] s) (F0 m 906 ls []) := by
  have hP := hP.sub (ws' := [(q1, .inr (11, [.ref (rx 0), .ref (rx 1), .ref (rx 2), .ref (rx 3), .ref (rx 4), .ref (rx 5), .ref (rx 6), .ref (rx 7), .ref (rx 8), .ref (rx 9), .ref (rx 10), .ref (rx 11), .ref (rx 12), .ref (rx 13), .int 1])), ((rx 5), .inr (5, [.ref (rx 16), .int 0, .int 0, .int 0])), ((rx 9), .inl (cI, 6, .inl (fun _ => 0))), (q2, .inr (12, (o12 rm))), ((rm 27), .inl (cI, 6, .inl (fun _ => 0)))]) [0, 5, 8, 15, 23] rfl
  have hD := hD.sub (ws' := [(q1, .inr (11, [.ref (rx 0), .ref (rx 1), .ref (rx 2), .ref (rx 3), .ref (rx 4), .ref (rx 5), .ref (rx 6), .ref (rx 7), .ref (rx 8), .ref (rx 9), .ref (rx 10), .ref (rx 11), .ref (rx 12), .ref (rx 13), .int 1])), ((rx 5), .inr (5, [.ref (rx 16), .int 0, .int 0, .int 0])), ((rx 9), .inl (cI, 6, .inl (fun _ => 0))), (q2, .inr (12, (o12 rm))), ((rm 27), .inl (cI, 6, .inl (fun _ => 0)))]) [0, 5, 8, 15, 23] (by decide) rfl
  refine lv_aload_n hx hb dL_law_906 rfl (lv_at hl 1 rfl) ?_
  refine lv_aload_n hx hb dL_law_907 rfl (lv_at hl 0 rfl) ?_
  refine lv_iload_n hx hb dL_law_908 rfl (lv_at hl 3 rfl) ?_
  refine lv_iconst (v := 1) hx hb dL_law_909 (by decide) ?_
  refine k_iadd (v := 1) hx hb (by decide) dL_law_910 ?_
  refine va_sld hx hb hX hbl hbA hS (vpd (by decide)) dL_law_911 ?_
  have hPc := hP.sub (ws' := [(q1, .inr (11, [.ref (rx 0), .ref (rx 1), .ref (rx 2), .ref (rx 3), .ref (rx 4), .ref (rx 5), .ref (rx 6), .ref (rx 7), .ref (rx 8), .ref (rx 9), .ref (rx 10), .ref (rx 11), .ref (rx 12), .ref (rx 13), .int 1])), ((rx 5), .inr (5, [.ref (rx 16), .int 0, .int 0, .int 0])), ((rx 9), .inl (cI, 6, .inl (fun _ => 0)))]) [0, 1, 2] rfl
  have hDc := hD.sub (ws' := [(q1, .inr (11, [.ref (rx 0), .ref (rx 1), .ref (rx 2), .ref (rx 3), .ref (rx 4), .ref (rx 5), .ref (rx 6), .ref (rx 7), .ref (rx 8), .ref (rx 9), .ref (rx 10), .ref (rx 11), .ref (rx 12), .ref (rx 13), .int 1])), ((rx 5), .inr (5, [.ref (rx 16), .int 0, .int 0, .int 0])), ((rx 9), .inl (cI, 6, .inl (fun _ => 0)))]) [0, 1, 2] (by decide) rfl
  have hFc := va_free (wc := [(q1, .inr (11, [.ref (rx 0), .ref (rx 1), .ref (rx 2), .ref (rx 3), .ref (rx 4), .ref (rx 5), .ref (rx 6), .ref (rx 7), .ref (rx 8), .ref (rx 9), .ref (rx 10), .ref (rx 11), .ref (rx 12), .ref (rx 13), .int 1])), ((rx 5), .inr (5, [.ref (rx 16), .int 0, .int 0, .int 0])), ((rx 9), .inl (cI, 6, .inl (fun _ => 0)))]) hD hS hA [0, 1, 2] rfl
  refine va_calli (va_runV (As := [.int (xs (1 : Int32).toNatClampNeg)]) (rest := []) ⟨hx, hb, hml, hown, hts⟩ (c_X11_drop l dC dI cI cJ q1 rx (xs (1 : Int32).toNatClampNeg) H.size) (cwV 1 hts gL_law_X11_drop rfl rfl rfl (by decide +kernel) ⟨Nat.le_of_ble_eq_true rfl, Nat.le_of_ble_eq_true rfl⟩) ⟨mBlind, va_recv hK hPc (ci := 11) (q0 := 0) rfl rfl, mGo hPc hK hDc hN⟩ rfl rfl hl.1 rfl (lv_room (Nat.le_of_ble_eq_true rfl)) dL_law_912 ⟨Nat.le_of_ble_eq_true rfl, Nat.le_of_ble_eq_true rfl⟩) hS (fun q _ h => hFc q h) hFc (fun r_1 u t H1 locs ht hvm hw hB hz1 hk1 hS => ?_)
  obtain rfl : r_1 = 0 := hw
  obtain ⟨hP, hD⟩ := va_join (wr := [(q2, .inr (12, (o12 rm))), ((rm 27), .inl (cI, 6, .inl (fun _ => 0)))]) (w1 := []) hP hD [0, 1, 2] [3, 4] rfl rfl (by decide) (by decide) hk1 hFc va_P0 va_D0
  generalize H1 = H at hP hS ⊢
  have hP : va_P (dC, dI) vwCl [(q2, .inr (12, (o12 rm))), ((rm 27), .inl (cI, 6, .inl (fun _ => 0)))] H := hP
  have hD : va_D A [(q2, .inr (12, (o12 rm))), ((rm 27), .inl (cI, 6, .inl (fun _ => 0)))] := hD
  refine lv_aload_n hx hb dL_law_915 rfl (lv_at hl 2 rfl) ?_
  refine lv_aload_n hx hb dL_law_916 rfl (lv_at hl 0 rfl) ?_
  refine lv_iload_n hx hb dL_law_917 rfl (lv_at hl 3 rfl) ?_
  refine lv_iconst (v := 1) hx hb dL_law_918 (by decide) ?_
  refine k_iadd (v := 1) hx hb (by decide) dL_law_919 ?_
  refine va_sld hx hb hX hbl hbA hS (vpd (by decide)) dL_law_920 ?_
  have hPc := hP.sub (ws' := [(q2, .inr (12, (o12 rm))), ((rm 27), .inl (cI, 6, .inl (fun _ => 0)))]) [0, 1] rfl
  have hDc := hD.sub (ws' := [(q2, .inr (12, (o12 rm))), ((rm 27), .inl (cI, 6, .inl (fun _ => 0)))]) [0, 1] (by decide) rfl
  have hFc := va_free (wc := [(q2, .inr (12, (o12 rm))), ((rm 27), .inl (cI, 6, .inl (fun _ => 0)))]) hD hS hA [0, 1] rfl
  refine va_calli (va_runV (As := [.int (xs (1 : Int32).toNatClampNeg)]) (rest := [.int 0]) ⟨hx, hb, hml, hown, hts⟩ (c_X12_drop l dC dI cI cJ q2 rm (xs (1 : Int32).toNatClampNeg) H.size) (cwV 1 hts gL_law_X12_drop rfl rfl rfl (by decide +kernel) ⟨Nat.le_of_ble_eq_true rfl, Nat.le_of_ble_eq_true rfl⟩) ⟨mBlind, va_recv hK hPc (ci := 12) (q0 := 0) rfl rfl, mGo hPc hK hDc hN⟩ rfl rfl hl.1 rfl (lv_room (Nat.le_of_ble_eq_true rfl)) dL_law_921 ⟨Nat.le_of_ble_eq_true rfl, Nat.le_of_ble_eq_true rfl⟩) hS (fun q _ h => hFc q h) hFc (fun r_2 u t H1 locs ht hvm hw hB hz1 hk1 hS => ?_)
  obtain rfl : r_2 = 0 := hw
  obtain ⟨hP, hD⟩ := va_join (wr := []) (w1 := []) hP hD [0, 1] [] rfl rfl (by decide) (by decide) hk1 hFc va_P0 va_D0
  generalize H1 = H at hP hS ⊢
  have hP : va_P (dC, dI) vwCl [] H := hP
  have hD : va_D A [] := hD
  refine lv_icmp_eq (tgt := 1093) hx hb dL_law_924 (by decide) (fun _ => ?_) (fun c => absurd (by decide) c)
  exact law_tail hx hb hr hml hX hbl hlocks hAz hbA hS (lv_sub hl [0, 3] rfl)
set_option maxHeartbeats 4000000 in
set_option maxRecDepth 100000 in
/-- case 27: turn -/
theorem law_27 {p : Program} {l : Launch} {e : Env} {s : State} {m : MethodId} {below : List Frame} {meth : Method} {c : Code} {dC : Nat → ClassId} {dI : Nat → Nat → Nat} {cI cJ : ClassId} {b : Nat} {xs : Nat → Int32} {A : Nat → Prop} {q1 q2 : Nat} {rx rm : Nat → Nat} {og : Nat → Int32} {H : Heap} {locs : List Loc} {ls : Array Slot} (hx : p.tables.exec = Jvm.exec) (hb : c.code = code) (hr : meth.sig.returnType = ret) (hml : c.maxLocals = 4) (hown : s.vm.findClass RL = some m.cls) (hts : ∀ w ∈ lw_tbl, w.before #[Value.ref b] s = true) (hX : va_X b 6 xs s s.heap) (hbl : b < s.heap.size) (hlocks : meth.locks = false) (hA : ∀ q, s.heap.size ≤ q → A q) (hAz : ∀ q, A q → s.heap.size ≤ q) (hbA : ¬ A b) (hK : va_K (dC, dI) vwCl (ty0 cI cJ) s) (hN : gN s) (hP : va_P (dC, dI) vwCl (WX cI q1 rx ++ WM cI q2 rm og) H) (hD : va_D A (WX cI q1 rx ++ WM cI q2 rm og)) (hS : va_S A s.heap H locs) (hl : lv_has ls 4 [(0, .ref b), (1, .ref q1), (2, .ref q2), (3, .int 0)]) : W p l e room_1 s m #[Value.ref b] below meth c H locs 600000 7302250 (lw_Z below #[Value.ref b] s) (F0 m 929 ls []) := by
  have hP := hP.sub (ws' := [(q1, .inr (11, [.ref (rx 0), .ref (rx 1), .ref (rx 2), .ref (rx 3), .ref (rx 4), .ref (rx 5), .ref (rx 6), .ref (rx 7), .ref (rx 8), .ref (rx 9), .ref (rx 10), .ref (rx 11), .ref (rx 12), .ref (rx 13), .int 1])), ((rx 10), .inr (9, [.ref (rx 26), .ref (rx 27), .ref (rx 28), .ref (rx 29), .ref (rx 30), .ref (rx 31), .int 0, .int 0, .int 0, .int 0, .int 0])), ((rx 9), .inl (cI, 6, .inl (fun _ => 0))), (q2, .inr (12, (o12 rm))), ((rm 27), .inl (cI, 6, .inl (fun _ => 0)))]) [0, 9, 8, 15, 23] rfl
  have hD := hD.sub (ws' := [(q1, .inr (11, [.ref (rx 0), .ref (rx 1), .ref (rx 2), .ref (rx 3), .ref (rx 4), .ref (rx 5), .ref (rx 6), .ref (rx 7), .ref (rx 8), .ref (rx 9), .ref (rx 10), .ref (rx 11), .ref (rx 12), .ref (rx 13), .int 1])), ((rx 10), .inr (9, [.ref (rx 26), .ref (rx 27), .ref (rx 28), .ref (rx 29), .ref (rx 30), .ref (rx 31), .int 0, .int 0, .int 0, .int 0, .int 0])), ((rx 9), .inl (cI, 6, .inl (fun _ => 0))), (q2, .inr (12, (o12 rm))), ((rm 27), .inl (cI, 6, .inl (fun _ => 0)))]) [0, 9, 8, 15, 23] (by decide) rfl
  refine lv_aload_n hx hb dL_law_929 rfl (lv_at hl 1 rfl) ?_
  refine lv_aload_n hx hb dL_law_930 rfl (lv_at hl 0 rfl) ?_
  refine lv_iload_n hx hb dL_law_931 rfl (lv_at hl 3 rfl) ?_
  refine lv_iconst (v := 1) hx hb dL_law_932 (by decide) ?_
  refine k_iadd (v := 1) hx hb (by decide) dL_law_933 ?_
  refine va_sld hx hb hX hbl hbA hS (vpd (by decide)) dL_law_934 ?_
  have hPc := hP.sub (ws' := [(q1, .inr (11, [.ref (rx 0), .ref (rx 1), .ref (rx 2), .ref (rx 3), .ref (rx 4), .ref (rx 5), .ref (rx 6), .ref (rx 7), .ref (rx 8), .ref (rx 9), .ref (rx 10), .ref (rx 11), .ref (rx 12), .ref (rx 13), .int 1])), ((rx 10), .inr (9, [.ref (rx 26), .ref (rx 27), .ref (rx 28), .ref (rx 29), .ref (rx 30), .ref (rx 31), .int 0, .int 0, .int 0, .int 0, .int 0])), ((rx 9), .inl (cI, 6, .inl (fun _ => 0)))]) [0, 1, 2] rfl
  have hDc := hD.sub (ws' := [(q1, .inr (11, [.ref (rx 0), .ref (rx 1), .ref (rx 2), .ref (rx 3), .ref (rx 4), .ref (rx 5), .ref (rx 6), .ref (rx 7), .ref (rx 8), .ref (rx 9), .ref (rx 10), .ref (rx 11), .ref (rx 12), .ref (rx 13), .int 1])), ((rx 10), .inr (9, [.ref (rx 26), .ref (rx 27), .ref (rx 28), .ref (rx 29), .ref (rx 30), .ref (rx 31), .int 0, .int 0, .int 0, .int 0, .int 0])), ((rx 9), .inl (cI, 6, .inl (fun _ => 0)))]) [0, 1, 2] (by decide) rfl
  have hFc := va_free (wc := [(q1, .inr (11, [.ref (rx 0), .ref (rx 1), .ref (rx 2), .ref (rx 3), .ref (rx 4), .ref (rx 5), .ref (rx 6), .ref (rx 7), .ref (rx 8), .ref (rx 9), .ref (rx 10), .ref (rx 11), .ref (rx 12), .ref (rx 13), .int 1])), ((rx 10), .inr (9, [.ref (rx 26), .ref (rx 27), .ref (rx 28), .ref (rx 29), .ref (rx 30), .ref (rx 31), .int 0, .int 0, .int 0, .int 0, .int 0])), ((rx 9), .inl (cI, 6, .inl (fun _ => 0)))]) hD hS hA [0, 1, 2] rfl
  refine va_calli (va_runV (As := [.int (xs (1 : Int32).toNatClampNeg)]) (rest := []) ⟨hx, hb, hml, hown, hts⟩ (c_X11_turn l dC dI cI cJ q1 rx (xs (1 : Int32).toNatClampNeg) H.size) (cwV 1 hts gL_law_X11_turn rfl rfl rfl (by decide +kernel) ⟨Nat.le_of_ble_eq_true rfl, Nat.le_of_ble_eq_true rfl⟩) ⟨mBlind, va_recv hK hPc (ci := 11) (q0 := 0) rfl rfl, mGo hPc hK hDc hN⟩ rfl rfl hl.1 rfl (lv_room (Nat.le_of_ble_eq_true rfl)) dL_law_935 ⟨Nat.le_of_ble_eq_true rfl, Nat.le_of_ble_eq_true rfl⟩) hS (fun q _ h => hFc q h) hFc (fun r_1 u t H1 locs ht hvm hw hB hz1 hk1 hS => ?_)
  obtain rfl : r_1 = (-1) := hw
  obtain ⟨hP, hD⟩ := va_join (wr := [(q2, .inr (12, (o12 rm))), ((rm 27), .inl (cI, 6, .inl (fun _ => 0)))]) (w1 := []) hP hD [0, 1, 2] [3, 4] rfl rfl (by decide) (by decide) hk1 hFc va_P0 va_D0
  generalize H1 = H at hP hS ⊢
  have hP : va_P (dC, dI) vwCl [(q2, .inr (12, (o12 rm))), ((rm 27), .inl (cI, 6, .inl (fun _ => 0)))] H := hP
  have hD : va_D A [(q2, .inr (12, (o12 rm))), ((rm 27), .inl (cI, 6, .inl (fun _ => 0)))] := hD
  refine lv_aload_n hx hb dL_law_938 rfl (lv_at hl 2 rfl) ?_
  refine lv_aload_n hx hb dL_law_939 rfl (lv_at hl 0 rfl) ?_
  refine lv_iload_n hx hb dL_law_940 rfl (lv_at hl 3 rfl) ?_
  refine lv_iconst (v := 1) hx hb dL_law_941 (by decide) ?_
  refine k_iadd (v := 1) hx hb (by decide) dL_law_942 ?_
  refine va_sld hx hb hX hbl hbA hS (vpd (by decide)) dL_law_943 ?_
  have hPc := hP.sub (ws' := [(q2, .inr (12, (o12 rm))), ((rm 27), .inl (cI, 6, .inl (fun _ => 0)))]) [0, 1] rfl
  have hDc := hD.sub (ws' := [(q2, .inr (12, (o12 rm))), ((rm 27), .inl (cI, 6, .inl (fun _ => 0)))]) [0, 1] (by decide) rfl
  have hFc := va_free (wc := [(q2, .inr (12, (o12 rm))), ((rm 27), .inl (cI, 6, .inl (fun _ => 0)))]) hD hS hA [0, 1] rfl
  refine va_calli (va_runV (As := [.int (xs (1 : Int32).toNatClampNeg)]) (rest := [.int (-1)]) ⟨hx, hb, hml, hown, hts⟩ (c_X12_turn l dC dI cI cJ q2 rm (xs (1 : Int32).toNatClampNeg) H.size) (cwV 1 hts gL_law_X12_turn rfl rfl rfl (by decide +kernel) ⟨Nat.le_of_ble_eq_true rfl, Nat.le_of_ble_eq_true rfl⟩) ⟨mBlind, va_recv hK hPc (ci := 12) (q0 := 0) rfl rfl, mGo hPc hK hDc hN⟩ rfl rfl hl.1 rfl (lv_room (Nat.le_of_ble_eq_true rfl)) dL_law_944 ⟨Nat.le_of_ble_eq_true rfl, Nat.le_of_ble_eq_true rfl⟩) hS (fun q _ h => hFc q h) hFc (fun r_2 u t H1 locs ht hvm hw hB hz1 hk1 hS => ?_)
  obtain rfl : r_2 = (-1) := hw
  obtain ⟨hP, hD⟩ := va_join (wr := []) (w1 := []) hP hD [0, 1] [] rfl rfl (by decide) (by decide) hk1 hFc va_P0 va_D0
  generalize H1 = H at hP hS ⊢
  have hP : va_P (dC, dI) vwCl [] H := hP
  have hD : va_D A [] := hD
  refine lv_icmp_eq (tgt := 1093) hx hb dL_law_947 (by decide) (fun _ => ?_) (fun c => absurd (by decide) c)
  exact law_tail hx hb hr hml hX hbl hlocks hAz hbA hS (lv_sub hl [0, 3] rfl)
set_option maxHeartbeats 4000000 in
set_option maxRecDepth 100000 in
/-- case 28: choose -/
theorem law_28 {p : Program} {l : Launch} {e : Env} {s : State} {m : MethodId} {below : List Frame} {meth : Method} {c : Code} {dC : Nat → ClassId} {dI : Nat → Nat → Nat} {cI cJ : ClassId} {b : Nat} {xs : Nat → Int32} {A : Nat → Prop} {q1 q2 : Nat} {rx rm : Nat → Nat} {og : Nat → Int32} {H : Heap} {locs : List Loc} {ls : Array Slot} (hx : p.tables.exec = Jvm.exec) (hb : c.code = code) (hr : meth.sig.returnType = ret) (hml : c.maxLocals = 4) (hown : s.vm.findClass RL = some m.cls) (hts : ∀ w ∈ lw_tbl, w.before #[Value.ref b] s = true) (hX : va_X b 6 xs s s.heap) (hbl : b < s.heap.size) (hlocks : meth.locks = false) (hA : ∀ q, s.heap.size ≤ q → A q) (hAz : ∀ q, A q → s.heap.size ≤ q) (hbA : ¬ A b) (hK : va_K (dC, dI) vwCl (ty0 cI cJ) s) (hN : gN s) (hP : va_P (dC, dI) vwCl (WX cI q1 rx ++ WM cI q2 rm og) H) (hD : va_D A (WX cI q1 rx ++ WM cI q2 rm og)) (hS : va_S A s.heap H locs) (hl : lv_has ls 4 [(0, .ref b), (1, .ref q1), (2, .ref q2), (3, .int 0)]) : W p l e room_1 s m #[Value.ref b] below meth c H locs 600000 7302250 (lw_Z below #[Value.ref b] s) (F0 m 952 ls []) := by
  have hP := hP.sub (ws' := [(q1, .inr (11, [.ref (rx 0), .ref (rx 1), .ref (rx 2), .ref (rx 3), .ref (rx 4), .ref (rx 5), .ref (rx 6), .ref (rx 7), .ref (rx 8), .ref (rx 9), .ref (rx 10), .ref (rx 11), .ref (rx 12), .ref (rx 13), .int 1])), ((rx 10), .inr (9, [.ref (rx 26), .ref (rx 27), .ref (rx 28), .ref (rx 29), .ref (rx 30), .ref (rx 31), .int 0, .int 0, .int 0, .int 0, .int 0])), ((rx 9), .inl (cI, 6, .inl (fun _ => 0))), (q2, .inr (12, (o12 rm))), ((rm 27), .inl (cI, 6, .inl (fun _ => 0)))]) [0, 9, 8, 15, 23] rfl
  have hD := hD.sub (ws' := [(q1, .inr (11, [.ref (rx 0), .ref (rx 1), .ref (rx 2), .ref (rx 3), .ref (rx 4), .ref (rx 5), .ref (rx 6), .ref (rx 7), .ref (rx 8), .ref (rx 9), .ref (rx 10), .ref (rx 11), .ref (rx 12), .ref (rx 13), .int 1])), ((rx 10), .inr (9, [.ref (rx 26), .ref (rx 27), .ref (rx 28), .ref (rx 29), .ref (rx 30), .ref (rx 31), .int 0, .int 0, .int 0, .int 0, .int 0])), ((rx 9), .inl (cI, 6, .inl (fun _ => 0))), (q2, .inr (12, (o12 rm))), ((rm 27), .inl (cI, 6, .inl (fun _ => 0)))]) [0, 9, 8, 15, 23] (by decide) rfl
  refine lv_aload_n hx hb dL_law_952 rfl (lv_at hl 1 rfl) ?_
  refine lv_aload_n hx hb dL_law_953 rfl (lv_at hl 0 rfl) ?_
  refine lv_iload_n hx hb dL_law_954 rfl (lv_at hl 3 rfl) ?_
  refine lv_iconst (v := 1) hx hb dL_law_955 (by decide) ?_
  refine k_iadd (v := 1) hx hb (by decide) dL_law_956 ?_
  refine va_sld hx hb hX hbl hbA hS (vpd (by decide)) dL_law_957 ?_
  have hPc := hP.sub (ws' := [(q1, .inr (11, [.ref (rx 0), .ref (rx 1), .ref (rx 2), .ref (rx 3), .ref (rx 4), .ref (rx 5), .ref (rx 6), .ref (rx 7), .ref (rx 8), .ref (rx 9), .ref (rx 10), .ref (rx 11), .ref (rx 12), .ref (rx 13), .int 1])), ((rx 10), .inr (9, [.ref (rx 26), .ref (rx 27), .ref (rx 28), .ref (rx 29), .ref (rx 30), .ref (rx 31), .int 0, .int 0, .int 0, .int 0, .int 0])), ((rx 9), .inl (cI, 6, .inl (fun _ => 0)))]) [0, 1, 2] rfl
  have hDc := hD.sub (ws' := [(q1, .inr (11, [.ref (rx 0), .ref (rx 1), .ref (rx 2), .ref (rx 3), .ref (rx 4), .ref (rx 5), .ref (rx 6), .ref (rx 7), .ref (rx 8), .ref (rx 9), .ref (rx 10), .ref (rx 11), .ref (rx 12), .ref (rx 13), .int 1])), ((rx 10), .inr (9, [.ref (rx 26), .ref (rx 27), .ref (rx 28), .ref (rx 29), .ref (rx 30), .ref (rx 31), .int 0, .int 0, .int 0, .int 0, .int 0])), ((rx 9), .inl (cI, 6, .inl (fun _ => 0)))]) [0, 1, 2] (by decide) rfl
  have hFc := va_free (wc := [(q1, .inr (11, [.ref (rx 0), .ref (rx 1), .ref (rx 2), .ref (rx 3), .ref (rx 4), .ref (rx 5), .ref (rx 6), .ref (rx 7), .ref (rx 8), .ref (rx 9), .ref (rx 10), .ref (rx 11), .ref (rx 12), .ref (rx 13), .int 1])), ((rx 10), .inr (9, [.ref (rx 26), .ref (rx 27), .ref (rx 28), .ref (rx 29), .ref (rx 30), .ref (rx 31), .int 0, .int 0, .int 0, .int 0, .int 0])), ((rx 9), .inl (cI, 6, .inl (fun _ => 0)))]) hD hS hA [0, 1, 2] rfl
  refine va_calli (va_runV (As := [.int (xs (1 : Int32).toNatClampNeg)]) (rest := []) ⟨hx, hb, hml, hown, hts⟩ (c_X11_choose l dC dI cI cJ q1 rx (xs (1 : Int32).toNatClampNeg) H.size) (cwV 1 hts gL_law_X11_choose rfl rfl rfl (by decide +kernel) ⟨Nat.le_of_ble_eq_true rfl, Nat.le_of_ble_eq_true rfl⟩) ⟨mBlind, va_recv hK hPc (ci := 11) (q0 := 0) rfl rfl, mGo hPc hK hDc hN⟩ rfl rfl hl.1 rfl (lv_room (Nat.le_of_ble_eq_true rfl)) dL_law_958 ⟨Nat.le_of_ble_eq_true rfl, Nat.le_of_ble_eq_true rfl⟩) hS (fun q _ h => hFc q h) hFc (fun r_1 u t H1 locs ht hvm hw hB hz1 hk1 hS => ?_)
  obtain rfl : r_1 = 0 := hw
  obtain ⟨hP, hD⟩ := va_join (wr := [(q2, .inr (12, (o12 rm))), ((rm 27), .inl (cI, 6, .inl (fun _ => 0)))]) (w1 := []) hP hD [0, 1, 2] [3, 4] rfl rfl (by decide) (by decide) hk1 hFc va_P0 va_D0
  generalize H1 = H at hP hS ⊢
  have hP : va_P (dC, dI) vwCl [(q2, .inr (12, (o12 rm))), ((rm 27), .inl (cI, 6, .inl (fun _ => 0)))] H := hP
  have hD : va_D A [(q2, .inr (12, (o12 rm))), ((rm 27), .inl (cI, 6, .inl (fun _ => 0)))] := hD
  refine lv_aload_n hx hb dL_law_961 rfl (lv_at hl 2 rfl) ?_
  refine lv_aload_n hx hb dL_law_962 rfl (lv_at hl 0 rfl) ?_
  refine lv_iload_n hx hb dL_law_963 rfl (lv_at hl 3 rfl) ?_
  refine lv_iconst (v := 1) hx hb dL_law_964 (by decide) ?_
  refine k_iadd (v := 1) hx hb (by decide) dL_law_965 ?_
  refine va_sld hx hb hX hbl hbA hS (vpd (by decide)) dL_law_966 ?_
  have hPc := hP.sub (ws' := [(q2, .inr (12, (o12 rm))), ((rm 27), .inl (cI, 6, .inl (fun _ => 0)))]) [0, 1] rfl
  have hDc := hD.sub (ws' := [(q2, .inr (12, (o12 rm))), ((rm 27), .inl (cI, 6, .inl (fun _ => 0)))]) [0, 1] (by decide) rfl
  have hFc := va_free (wc := [(q2, .inr (12, (o12 rm))), ((rm 27), .inl (cI, 6, .inl (fun _ => 0)))]) hD hS hA [0, 1] rfl
  refine va_calli (va_runV (As := [.int (xs (1 : Int32).toNatClampNeg)]) (rest := [.int 0]) ⟨hx, hb, hml, hown, hts⟩ (c_X12_choose l dC dI cI cJ q2 rm (xs (1 : Int32).toNatClampNeg) H.size) (cwV 1 hts gL_law_X12_choose rfl rfl rfl (by decide +kernel) ⟨Nat.le_of_ble_eq_true rfl, Nat.le_of_ble_eq_true rfl⟩) ⟨mBlind, va_recv hK hPc (ci := 12) (q0 := 0) rfl rfl, mGo hPc hK hDc hN⟩ rfl rfl hl.1 rfl (lv_room (Nat.le_of_ble_eq_true rfl)) dL_law_967 ⟨Nat.le_of_ble_eq_true rfl, Nat.le_of_ble_eq_true rfl⟩) hS (fun q _ h => hFc q h) hFc (fun r_2 u t H1 locs ht hvm hw hB hz1 hk1 hS => ?_)
  obtain rfl : r_2 = 0 := hw
  obtain ⟨hP, hD⟩ := va_join (wr := []) (w1 := []) hP hD [0, 1] [] rfl rfl (by decide) (by decide) hk1 hFc va_P0 va_D0
  generalize H1 = H at hP hS ⊢
  have hP : va_P (dC, dI) vwCl [] H := hP
  have hD : va_D A [] := hD
  refine lv_icmp_eq (tgt := 1093) hx hb dL_law_970 (by decide) (fun _ => ?_) (fun c => absurd (by decide) c)
  exact law_tail hx hb hr hml hX hbl hlocks hAz hbA hS (lv_sub hl [0, 3] rfl)
set_option maxHeartbeats 4000000 in
set_option maxRecDepth 100000 in
/-- case 29: undo -/
theorem law_29 {p : Program} {l : Launch} {e : Env} {s : State} {m : MethodId} {below : List Frame} {meth : Method} {c : Code} {dC : Nat → ClassId} {dI : Nat → Nat → Nat} {cI cJ : ClassId} {b : Nat} {xs : Nat → Int32} {A : Nat → Prop} {q1 q2 : Nat} {rx rm : Nat → Nat} {og : Nat → Int32} {H : Heap} {locs : List Loc} {ls : Array Slot} (hx : p.tables.exec = Jvm.exec) (hb : c.code = code) (hr : meth.sig.returnType = ret) (hml : c.maxLocals = 4) (hown : s.vm.findClass RL = some m.cls) (hts : ∀ w ∈ lw_tbl, w.before #[Value.ref b] s = true) (hX : va_X b 6 xs s s.heap) (hbl : b < s.heap.size) (hlocks : meth.locks = false) (hA : ∀ q, s.heap.size ≤ q → A q) (hAz : ∀ q, A q → s.heap.size ≤ q) (hbA : ¬ A b) (hK : va_K (dC, dI) vwCl (ty0 cI cJ) s) (hN : gN s) (hP : va_P (dC, dI) vwCl (WX cI q1 rx ++ WM cI q2 rm og) H) (hD : va_D A (WX cI q1 rx ++ WM cI q2 rm og)) (hS : va_S A s.heap H locs) (hl : lv_has ls 4 [(0, .ref b), (1, .ref q1), (2, .ref q2), (3, .int 0)]) : W p l e room_1 s m #[Value.ref b] below meth c H locs 600000 7302250 (lw_Z below #[Value.ref b] s) (F0 m 975 ls []) := by
  have hP := hP.sub (ws' := [(q1, .inr (11, [.ref (rx 0), .ref (rx 1), .ref (rx 2), .ref (rx 3), .ref (rx 4), .ref (rx 5), .ref (rx 6), .ref (rx 7), .ref (rx 8), .ref (rx 9), .ref (rx 10), .ref (rx 11), .ref (rx 12), .ref (rx 13), .int 1])), ((rx 7), .inr (0, [.ref (rx 17), .ref (rx 18), .ref (rx 19), .ref (rx 20), .ref (rx 21), .int 0, .int 0, .int 0])), ((rx 9), .inl (cI, 6, .inl (fun _ => 0))), (q2, .inr (12, (o12 rm))), ((rm 27), .inl (cI, 6, .inl (fun _ => 0)))]) [0, 6, 8, 15, 23] rfl
  have hD := hD.sub (ws' := [(q1, .inr (11, [.ref (rx 0), .ref (rx 1), .ref (rx 2), .ref (rx 3), .ref (rx 4), .ref (rx 5), .ref (rx 6), .ref (rx 7), .ref (rx 8), .ref (rx 9), .ref (rx 10), .ref (rx 11), .ref (rx 12), .ref (rx 13), .int 1])), ((rx 7), .inr (0, [.ref (rx 17), .ref (rx 18), .ref (rx 19), .ref (rx 20), .ref (rx 21), .int 0, .int 0, .int 0])), ((rx 9), .inl (cI, 6, .inl (fun _ => 0))), (q2, .inr (12, (o12 rm))), ((rm 27), .inl (cI, 6, .inl (fun _ => 0)))]) [0, 6, 8, 15, 23] (by decide) rfl
  refine lv_aload_n hx hb dL_law_975 rfl (lv_at hl 1 rfl) ?_
  have hPc := hP.sub (ws' := [(q1, .inr (11, [.ref (rx 0), .ref (rx 1), .ref (rx 2), .ref (rx 3), .ref (rx 4), .ref (rx 5), .ref (rx 6), .ref (rx 7), .ref (rx 8), .ref (rx 9), .ref (rx 10), .ref (rx 11), .ref (rx 12), .ref (rx 13), .int 1])), ((rx 7), .inr (0, [.ref (rx 17), .ref (rx 18), .ref (rx 19), .ref (rx 20), .ref (rx 21), .int 0, .int 0, .int 0])), ((rx 9), .inl (cI, 6, .inl (fun _ => 0)))]) [0, 1, 2] rfl
  have hDc := hD.sub (ws' := [(q1, .inr (11, [.ref (rx 0), .ref (rx 1), .ref (rx 2), .ref (rx 3), .ref (rx 4), .ref (rx 5), .ref (rx 6), .ref (rx 7), .ref (rx 8), .ref (rx 9), .ref (rx 10), .ref (rx 11), .ref (rx 12), .ref (rx 13), .int 1])), ((rx 7), .inr (0, [.ref (rx 17), .ref (rx 18), .ref (rx 19), .ref (rx 20), .ref (rx 21), .int 0, .int 0, .int 0])), ((rx 9), .inl (cI, 6, .inl (fun _ => 0)))]) [0, 1, 2] (by decide) rfl
  have hFc := va_free (wc := [(q1, .inr (11, [.ref (rx 0), .ref (rx 1), .ref (rx 2), .ref (rx 3), .ref (rx 4), .ref (rx 5), .ref (rx 6), .ref (rx 7), .ref (rx 8), .ref (rx 9), .ref (rx 10), .ref (rx 11), .ref (rx 12), .ref (rx 13), .int 1])), ((rx 7), .inr (0, [.ref (rx 17), .ref (rx 18), .ref (rx 19), .ref (rx 20), .ref (rx 21), .int 0, .int 0, .int 0])), ((rx 9), .inl (cI, 6, .inl (fun _ => 0)))]) hD hS hA [0, 1, 2] rfl
  refine va_calli (va_runV (As := []) (rest := []) ⟨hx, hb, hml, hown, hts⟩ (c_X11_undo l dC dI cI cJ q1 rx H.size) (cwV 0 hts gL_law_X11_undo rfl rfl rfl (by decide +kernel) ⟨Nat.le_of_ble_eq_true rfl, Nat.le_of_ble_eq_true rfl⟩) ⟨mBlind, va_recv hK hPc (ci := 11) (q0 := 0) rfl rfl, mGo hPc hK hDc hN⟩ rfl rfl hl.1 rfl (lv_room (Nat.le_of_ble_eq_true rfl)) dL_law_976 ⟨Nat.le_of_ble_eq_true rfl, Nat.le_of_ble_eq_true rfl⟩) hS (fun q _ h => hFc q h) hFc (fun r_1 u t H1 locs ht hvm hw hB hz1 hk1 hS => ?_)
  obtain rfl : r_1 = 0 := hw
  obtain ⟨hP, hD⟩ := va_join (wr := [(q2, .inr (12, (o12 rm))), ((rm 27), .inl (cI, 6, .inl (fun _ => 0)))]) (w1 := []) hP hD [0, 1, 2] [3, 4] rfl rfl (by decide) (by decide) hk1 hFc va_P0 va_D0
  generalize H1 = H at hP hS ⊢
  have hP : va_P (dC, dI) vwCl [(q2, .inr (12, (o12 rm))), ((rm 27), .inl (cI, 6, .inl (fun _ => 0)))] H := hP
  have hD : va_D A [(q2, .inr (12, (o12 rm))), ((rm 27), .inl (cI, 6, .inl (fun _ => 0)))] := hD
  refine lv_aload_n hx hb dL_law_979 rfl (lv_at hl 2 rfl) ?_
  have hPc := hP.sub (ws' := [(q2, .inr (12, (o12 rm))), ((rm 27), .inl (cI, 6, .inl (fun _ => 0)))]) [0, 1] rfl
  have hDc := hD.sub (ws' := [(q2, .inr (12, (o12 rm))), ((rm 27), .inl (cI, 6, .inl (fun _ => 0)))]) [0, 1] (by decide) rfl
  have hFc := va_free (wc := [(q2, .inr (12, (o12 rm))), ((rm 27), .inl (cI, 6, .inl (fun _ => 0)))]) hD hS hA [0, 1] rfl
  refine va_calli (va_runV (As := []) (rest := [.int 0]) ⟨hx, hb, hml, hown, hts⟩ (c_X12_undo l dC dI cI cJ q2 rm H.size) (cwV 0 hts gL_law_X12_undo rfl rfl rfl (by decide +kernel) ⟨Nat.le_of_ble_eq_true rfl, Nat.le_of_ble_eq_true rfl⟩) ⟨mBlind, va_recv hK hPc (ci := 12) (q0 := 0) rfl rfl, mGo hPc hK hDc hN⟩ rfl rfl hl.1 rfl (lv_room (Nat.le_of_ble_eq_true rfl)) dL_law_980 ⟨Nat.le_of_ble_eq_true rfl, Nat.le_of_ble_eq_true rfl⟩) hS (fun q _ h => hFc q h) hFc (fun r_2 u t H1 locs ht hvm hw hB hz1 hk1 hS => ?_)
  obtain rfl : r_2 = 0 := hw
  obtain ⟨hP, hD⟩ := va_join (wr := []) (w1 := []) hP hD [0, 1] [] rfl rfl (by decide) (by decide) hk1 hFc va_P0 va_D0
  generalize H1 = H at hP hS ⊢
  have hP : va_P (dC, dI) vwCl [] H := hP
  have hD : va_D A [] := hD
  refine lv_icmp_eq (tgt := 1093) hx hb dL_law_983 (by decide) (fun _ => ?_) (fun c => absurd (by decide) c)
  exact law_tail hx hb hr hml hX hbl hlocks hAz hbA hS (lv_sub hl [0, 3] rfl)
set_option maxHeartbeats 4000000 in
set_option maxRecDepth 100000 in
/-- case 30: seed -/
theorem law_30 {p : Program} {l : Launch} {e : Env} {s : State} {m : MethodId} {below : List Frame} {meth : Method} {c : Code} {dC : Nat → ClassId} {dI : Nat → Nat → Nat} {cI cJ : ClassId} {b : Nat} {xs : Nat → Int32} {A : Nat → Prop} {q1 q2 : Nat} {rx rm : Nat → Nat} {og : Nat → Int32} {H : Heap} {locs : List Loc} {ls : Array Slot} (hx : p.tables.exec = Jvm.exec) (hb : c.code = code) (hr : meth.sig.returnType = ret) (hml : c.maxLocals = 4) (hown : s.vm.findClass RL = some m.cls) (hts : ∀ w ∈ lw_tbl, w.before #[Value.ref b] s = true) (hX : va_X b 6 xs s s.heap) (hbl : b < s.heap.size) (hlocks : meth.locks = false) (hA : ∀ q, s.heap.size ≤ q → A q) (hAz : ∀ q, A q → s.heap.size ≤ q) (hbA : ¬ A b) (hK : va_K (dC, dI) vwCl (ty0 cI cJ) s) (hN : gN s) (hP : va_P (dC, dI) vwCl (WX cI q1 rx ++ WM cI q2 rm og) H) (hD : va_D A (WX cI q1 rx ++ WM cI q2 rm og)) (hS : va_S A s.heap H locs) (hl : lv_has ls 4 [(0, .ref b), (1, .ref q1), (2, .ref q2), (3, .int 0)]) : W p l e room_1 s m #[Value.ref b] below meth c H locs 600000 7302250 (lw_Z below #[Value.ref b] s) (F0 m 988 ls []) := by
  have hP := hP.sub (ws' := [(q1, .inr (11, [.ref (rx 0), .ref (rx 1), .ref (rx 2), .ref (rx 3), .ref (rx 4), .ref (rx 5), .ref (rx 6), .ref (rx 7), .ref (rx 8), .ref (rx 9), .ref (rx 10), .ref (rx 11), .ref (rx 12), .ref (rx 13), .int 1])), ((rx 9), .inl (cI, 6, .inl (fun _ => 0))), (q2, .inr (12, (o12 rm))), ((rm 27), .inl (cI, 6, .inl (fun _ => 0)))]) [0, 8, 15, 23] rfl
  have hD := hD.sub (ws' := [(q1, .inr (11, [.ref (rx 0), .ref (rx 1), .ref (rx 2), .ref (rx 3), .ref (rx 4), .ref (rx 5), .ref (rx 6), .ref (rx 7), .ref (rx 8), .ref (rx 9), .ref (rx 10), .ref (rx 11), .ref (rx 12), .ref (rx 13), .int 1])), ((rx 9), .inl (cI, 6, .inl (fun _ => 0))), (q2, .inr (12, (o12 rm))), ((rm 27), .inl (cI, 6, .inl (fun _ => 0)))]) [0, 8, 15, 23] (by decide) rfl
  refine lv_aload_n hx hb dL_law_988 rfl (lv_at hl 1 rfl) ?_
  refine lv_aload_n hx hb dL_law_989 rfl (lv_at hl 0 rfl) ?_
  refine lv_iload_n hx hb dL_law_990 rfl (lv_at hl 3 rfl) ?_
  refine lv_iconst (v := 1) hx hb dL_law_991 (by decide) ?_
  refine k_iadd (v := 1) hx hb (by decide) dL_law_992 ?_
  refine va_sld hx hb hX hbl hbA hS (vpd (by decide)) dL_law_993 ?_
  have hPc := hP.sub (ws' := [(q1, .inr (11, [.ref (rx 0), .ref (rx 1), .ref (rx 2), .ref (rx 3), .ref (rx 4), .ref (rx 5), .ref (rx 6), .ref (rx 7), .ref (rx 8), .ref (rx 9), .ref (rx 10), .ref (rx 11), .ref (rx 12), .ref (rx 13), .int 1])), ((rx 9), .inl (cI, 6, .inl (fun _ => 0)))]) [0, 1] rfl
  have hDc := hD.sub (ws' := [(q1, .inr (11, [.ref (rx 0), .ref (rx 1), .ref (rx 2), .ref (rx 3), .ref (rx 4), .ref (rx 5), .ref (rx 6), .ref (rx 7), .ref (rx 8), .ref (rx 9), .ref (rx 10), .ref (rx 11), .ref (rx 12), .ref (rx 13), .int 1])), ((rx 9), .inl (cI, 6, .inl (fun _ => 0)))]) [0, 1] (by decide) rfl
  have hFc := va_free (wc := [(q1, .inr (11, [.ref (rx 0), .ref (rx 1), .ref (rx 2), .ref (rx 3), .ref (rx 4), .ref (rx 5), .ref (rx 6), .ref (rx 7), .ref (rx 8), .ref (rx 9), .ref (rx 10), .ref (rx 11), .ref (rx 12), .ref (rx 13), .int 1])), ((rx 9), .inl (cI, 6, .inl (fun _ => 0)))]) hD hS hA [0, 1] rfl
  refine va_calli (va_runV (As := [.int (xs (1 : Int32).toNatClampNeg)]) (rest := []) ⟨hx, hb, hml, hown, hts⟩ (c_X11_seed l dC dI cI cJ q1 rx (xs (1 : Int32).toNatClampNeg) H.size) (cwV 1 hts gL_law_X11_seed rfl rfl rfl (by decide +kernel) ⟨Nat.le_of_ble_eq_true rfl, Nat.le_of_ble_eq_true rfl⟩) ⟨mBlind, va_recv hK hPc (ci := 11) (q0 := 0) rfl rfl, mGo hPc hK hDc hN⟩ rfl rfl hl.1 rfl (lv_room (Nat.le_of_ble_eq_true rfl)) dL_law_994 ⟨Nat.le_of_ble_eq_true rfl, Nat.le_of_ble_eq_true rfl⟩) hS (fun q _ h => hFc q h) hFc (fun r_1 u t H1 locs ht hvm hw hB hz1 hk1 hS => ?_)
  have hw_x := hw
  obtain ⟨hP, hD⟩ := va_join (wr := [(q2, .inr (12, (o12 rm))), ((rm 27), .inl (cI, 6, .inl (fun _ => 0)))]) (w1 := []) hP hD [0, 1] [2, 3] rfl rfl (by decide) (by decide) hk1 hFc va_P0 va_D0
  generalize H1 = H at hP hS ⊢
  have hP : va_P (dC, dI) vwCl [(q2, .inr (12, (o12 rm))), ((rm 27), .inl (cI, 6, .inl (fun _ => 0)))] H := hP
  have hD : va_D A [(q2, .inr (12, (o12 rm))), ((rm 27), .inl (cI, 6, .inl (fun _ => 0)))] := hD
  refine lv_aload_n hx hb dL_law_997 rfl (lv_at hl 2 rfl) ?_
  refine lv_aload_n hx hb dL_law_998 rfl (lv_at hl 0 rfl) ?_
  refine lv_iload_n hx hb dL_law_999 rfl (lv_at hl 3 rfl) ?_
  refine lv_iconst (v := 1) hx hb dL_law_1000 (by decide) ?_
  refine k_iadd (v := 1) hx hb (by decide) dL_law_1001 ?_
  refine va_sld hx hb hX hbl hbA hS (vpd (by decide)) dL_law_1002 ?_
  have hPc := hP.sub (ws' := [(q2, .inr (12, (o12 rm))), ((rm 27), .inl (cI, 6, .inl (fun _ => 0)))]) [0, 1] rfl
  have hDc := hD.sub (ws' := [(q2, .inr (12, (o12 rm))), ((rm 27), .inl (cI, 6, .inl (fun _ => 0)))]) [0, 1] (by decide) rfl
  have hFc := va_free (wc := [(q2, .inr (12, (o12 rm))), ((rm 27), .inl (cI, 6, .inl (fun _ => 0)))]) hD hS hA [0, 1] rfl
  refine va_calli (va_runV (As := [.int (xs (1 : Int32).toNatClampNeg)]) (rest := [.int r_1]) ⟨hx, hb, hml, hown, hts⟩ (c_X12_seed l dC dI cI cJ q2 rm (xs (1 : Int32).toNatClampNeg) H.size) (cwV 1 hts gL_law_X12_seed rfl rfl rfl (by decide +kernel) ⟨Nat.le_of_ble_eq_true rfl, Nat.le_of_ble_eq_true rfl⟩) ⟨mBlind, va_recv hK hPc (ci := 12) (q0 := 0) rfl rfl, mGo hPc hK hDc hN⟩ rfl rfl hl.1 rfl (lv_room (Nat.le_of_ble_eq_true rfl)) dL_law_1003 ⟨Nat.le_of_ble_eq_true rfl, Nat.le_of_ble_eq_true rfl⟩) hS (fun q _ h => hFc q h) hFc (fun r_2 u t H1 locs ht hvm hw hB hz1 hk1 hS => ?_)
  have hw_m := hw
  obtain ⟨hP, hD⟩ := va_join (wr := []) (w1 := []) hP hD [0, 1] [] rfl rfl (by decide) (by decide) hk1 hFc va_P0 va_D0
  generalize H1 = H at hP hS ⊢
  have hP : va_P (dC, dI) vwCl [] H := hP
  have hD : va_D A [] := hD
  refine lv_icmp_eq (tgt := 1093) hx hb dL_law_1006 (by decide) (fun _ => ?_) (fun c => absurd (hw_x.trans hw_m.symm) c)
  exact law_tail hx hb hr hml hX hbl hlocks hAz hbA hS (lv_sub hl [0, 3] rfl)
set_option maxHeartbeats 4000000 in
set_option maxRecDepth 100000 in
/-- case 31: kept -/
theorem law_31 {p : Program} {l : Launch} {e : Env} {s : State} {m : MethodId} {below : List Frame} {meth : Method} {c : Code} {dC : Nat → ClassId} {dI : Nat → Nat → Nat} {cI cJ : ClassId} {b : Nat} {xs : Nat → Int32} {A : Nat → Prop} {q1 q2 : Nat} {rx rm : Nat → Nat} {og : Nat → Int32} {H : Heap} {locs : List Loc} {ls : Array Slot} (hx : p.tables.exec = Jvm.exec) (hb : c.code = code) (hr : meth.sig.returnType = ret) (hml : c.maxLocals = 4) (hown : s.vm.findClass RL = some m.cls) (hts : ∀ w ∈ lw_tbl, w.before #[Value.ref b] s = true) (hX : va_X b 6 xs s s.heap) (hbl : b < s.heap.size) (hlocks : meth.locks = false) (hA : ∀ q, s.heap.size ≤ q → A q) (hAz : ∀ q, A q → s.heap.size ≤ q) (hbA : ¬ A b) (hK : va_K (dC, dI) vwCl (ty0 cI cJ) s) (hN : gN s) (hP : va_P (dC, dI) vwCl (WX cI q1 rx ++ WM cI q2 rm og) H) (hD : va_D A (WX cI q1 rx ++ WM cI q2 rm og)) (hS : va_S A s.heap H locs) (hl : lv_has ls 4 [(0, .ref b), (1, .ref q1), (2, .ref q2), (3, .int 0)]) : W p l e room_1 s m #[Value.ref b] below meth c H locs 600000 7302250 (lw_Z below #[Value.ref b] s) (F0 m 1011 ls []) := by
  have hP := hP.sub (ws' := [(q1, .inr (11, [.ref (rx 0), .ref (rx 1), .ref (rx 2), .ref (rx 3), .ref (rx 4), .ref (rx 5), .ref (rx 6), .ref (rx 7), .ref (rx 8), .ref (rx 9), .ref (rx 10), .ref (rx 11), .ref (rx 12), .ref (rx 13), .int 1])), ((rx 7), .inr (0, [.ref (rx 17), .ref (rx 18), .ref (rx 19), .ref (rx 20), .ref (rx 21), .int 0, .int 0, .int 0])), (q2, .inr (12, (o12 rm))), ((rm 38), .inl (cI, 22, .inl (fun _ => 0)))]) [0, 6, 15, 28] rfl
  have hD := hD.sub (ws' := [(q1, .inr (11, [.ref (rx 0), .ref (rx 1), .ref (rx 2), .ref (rx 3), .ref (rx 4), .ref (rx 5), .ref (rx 6), .ref (rx 7), .ref (rx 8), .ref (rx 9), .ref (rx 10), .ref (rx 11), .ref (rx 12), .ref (rx 13), .int 1])), ((rx 7), .inr (0, [.ref (rx 17), .ref (rx 18), .ref (rx 19), .ref (rx 20), .ref (rx 21), .int 0, .int 0, .int 0])), (q2, .inr (12, (o12 rm))), ((rm 38), .inl (cI, 22, .inl (fun _ => 0)))]) [0, 6, 15, 28] (by decide) rfl
  refine lv_aload_n hx hb dL_law_1011 rfl (lv_at hl 1 rfl) ?_
  refine lv_aload_n hx hb dL_law_1012 rfl (lv_at hl 0 rfl) ?_
  refine lv_iload_n hx hb dL_law_1013 rfl (lv_at hl 3 rfl) ?_
  refine lv_iconst (v := 1) hx hb dL_law_1014 (by decide) ?_
  refine k_iadd (v := 1) hx hb (by decide) dL_law_1015 ?_
  refine va_sld hx hb hX hbl hbA hS (vpd (by decide)) dL_law_1016 ?_
  refine lv_aload_n hx hb dL_law_1017 rfl (lv_at hl 0 rfl) ?_
  refine lv_iload_n hx hb dL_law_1018 rfl (lv_at hl 3 rfl) ?_
  refine lv_iconst (v := 2) hx hb dL_law_1019 (by decide) ?_
  refine k_iadd (v := 2) hx hb (by decide) dL_law_1020 ?_
  refine va_sld hx hb hX hbl hbA hS (vpd (by decide)) dL_law_1021 ?_
  have hPc := hP.sub (ws' := [(q1, .inr (11, [.ref (rx 0), .ref (rx 1), .ref (rx 2), .ref (rx 3), .ref (rx 4), .ref (rx 5), .ref (rx 6), .ref (rx 7), .ref (rx 8), .ref (rx 9), .ref (rx 10), .ref (rx 11), .ref (rx 12), .ref (rx 13), .int 1])), ((rx 7), .inr (0, [.ref (rx 17), .ref (rx 18), .ref (rx 19), .ref (rx 20), .ref (rx 21), .int 0, .int 0, .int 0]))]) [0, 1] rfl
  have hDc := hD.sub (ws' := [(q1, .inr (11, [.ref (rx 0), .ref (rx 1), .ref (rx 2), .ref (rx 3), .ref (rx 4), .ref (rx 5), .ref (rx 6), .ref (rx 7), .ref (rx 8), .ref (rx 9), .ref (rx 10), .ref (rx 11), .ref (rx 12), .ref (rx 13), .int 1])), ((rx 7), .inr (0, [.ref (rx 17), .ref (rx 18), .ref (rx 19), .ref (rx 20), .ref (rx 21), .int 0, .int 0, .int 0]))]) [0, 1] (by decide) rfl
  have hFc := va_free (wc := [(q1, .inr (11, [.ref (rx 0), .ref (rx 1), .ref (rx 2), .ref (rx 3), .ref (rx 4), .ref (rx 5), .ref (rx 6), .ref (rx 7), .ref (rx 8), .ref (rx 9), .ref (rx 10), .ref (rx 11), .ref (rx 12), .ref (rx 13), .int 1])), ((rx 7), .inr (0, [.ref (rx 17), .ref (rx 18), .ref (rx 19), .ref (rx 20), .ref (rx 21), .int 0, .int 0, .int 0]))]) hD hS hA [0, 1] rfl
  refine va_calli (va_runV (As := [.int (xs (1 : Int32).toNatClampNeg), .int (xs (2 : Int32).toNatClampNeg)]) (rest := []) ⟨hx, hb, hml, hown, hts⟩ (c_X11_kept l dC dI cI cJ q1 rx (xs (1 : Int32).toNatClampNeg) (xs (2 : Int32).toNatClampNeg) H.size) (cwV 2 hts gL_law_X11_kept rfl rfl rfl (by decide +kernel) ⟨Nat.le_of_ble_eq_true rfl, Nat.le_of_ble_eq_true rfl⟩) ⟨mBlind, va_recv hK hPc (ci := 11) (q0 := 0) rfl rfl, mGo hPc hK hDc hN⟩ rfl rfl hl.1 rfl (lv_room (Nat.le_of_ble_eq_true rfl)) dL_law_1022 ⟨Nat.le_of_ble_eq_true rfl, Nat.le_of_ble_eq_true rfl⟩) hS (fun q _ h => hFc q h) hFc (fun r_1 u t H1 locs ht hvm hw hB hz1 hk1 hS => ?_)
  obtain rfl : r_1 = (-1) := hw
  obtain ⟨hP, hD⟩ := va_join (wr := [(q2, .inr (12, (o12 rm))), ((rm 38), .inl (cI, 22, .inl (fun _ => 0)))]) (w1 := []) hP hD [0, 1] [2, 3] rfl rfl (by decide) (by decide) hk1 hFc va_P0 va_D0
  generalize H1 = H at hP hS ⊢
  have hP : va_P (dC, dI) vwCl [(q2, .inr (12, (o12 rm))), ((rm 38), .inl (cI, 22, .inl (fun _ => 0)))] H := hP
  have hD : va_D A [(q2, .inr (12, (o12 rm))), ((rm 38), .inl (cI, 22, .inl (fun _ => 0)))] := hD
  refine lv_aload_n hx hb dL_law_1025 rfl (lv_at hl 2 rfl) ?_
  refine lv_aload_n hx hb dL_law_1026 rfl (lv_at hl 0 rfl) ?_
  refine lv_iload_n hx hb dL_law_1027 rfl (lv_at hl 3 rfl) ?_
  refine lv_iconst (v := 1) hx hb dL_law_1028 (by decide) ?_
  refine k_iadd (v := 1) hx hb (by decide) dL_law_1029 ?_
  refine va_sld hx hb hX hbl hbA hS (vpd (by decide)) dL_law_1030 ?_
  refine lv_aload_n hx hb dL_law_1031 rfl (lv_at hl 0 rfl) ?_
  refine lv_iload_n hx hb dL_law_1032 rfl (lv_at hl 3 rfl) ?_
  refine lv_iconst (v := 2) hx hb dL_law_1033 (by decide) ?_
  refine k_iadd (v := 2) hx hb (by decide) dL_law_1034 ?_
  refine va_sld hx hb hX hbl hbA hS (vpd (by decide)) dL_law_1035 ?_
  have hPc := hP.sub (ws' := [(q2, .inr (12, (o12 rm))), ((rm 38), .inl (cI, 22, .inl (fun _ => 0)))]) [0, 1] rfl
  have hDc := hD.sub (ws' := [(q2, .inr (12, (o12 rm))), ((rm 38), .inl (cI, 22, .inl (fun _ => 0)))]) [0, 1] (by decide) rfl
  have hFc := va_free (wc := [(q2, .inr (12, (o12 rm))), ((rm 38), .inl (cI, 22, .inl (fun _ => 0)))]) hD hS hA [0, 1] rfl
  refine va_calli (va_runV (As := [.int (xs (1 : Int32).toNatClampNeg), .int (xs (2 : Int32).toNatClampNeg)]) (rest := [.int (-1)]) ⟨hx, hb, hml, hown, hts⟩ (c_X12_kept l dC dI cI cJ q2 rm (xs (1 : Int32).toNatClampNeg) (xs (2 : Int32).toNatClampNeg) H.size) (cwV 2 hts gL_law_X12_kept rfl rfl rfl (by decide +kernel) ⟨Nat.le_of_ble_eq_true rfl, Nat.le_of_ble_eq_true rfl⟩) ⟨mBlind, va_recv hK hPc (ci := 12) (q0 := 0) rfl rfl, mGo hPc hK hDc hN⟩ rfl rfl hl.1 rfl (lv_room (Nat.le_of_ble_eq_true rfl)) dL_law_1036 ⟨Nat.le_of_ble_eq_true rfl, Nat.le_of_ble_eq_true rfl⟩) hS (fun q _ h => hFc q h) hFc (fun r_2 u t H1 locs ht hvm hw hB hz1 hk1 hS => ?_)
  obtain rfl : r_2 = (-1) := hw
  obtain ⟨hP, hD⟩ := va_join (wr := []) (w1 := []) hP hD [0, 1] [] rfl rfl (by decide) (by decide) hk1 hFc va_P0 va_D0
  generalize H1 = H at hP hS ⊢
  have hP : va_P (dC, dI) vwCl [] H := hP
  have hD : va_D A [] := hD
  refine lv_icmp_eq (tgt := 1093) hx hb dL_law_1039 (by decide) (fun _ => ?_) (fun c => absurd (by decide) c)
  exact law_tail hx hb hr hml hX hbl hlocks hAz hbA hS (lv_sub hl [0, 3] rfl)
set_option maxHeartbeats 4000000 in
set_option maxRecDepth 100000 in
/-- case 32: image -/
theorem law_32 {p : Program} {l : Launch} {e : Env} {s : State} {m : MethodId} {below : List Frame} {meth : Method} {c : Code} {dC : Nat → ClassId} {dI : Nat → Nat → Nat} {cI cJ : ClassId} {b : Nat} {xs : Nat → Int32} {A : Nat → Prop} {q1 q2 : Nat} {rx rm : Nat → Nat} {og : Nat → Int32} {H : Heap} {locs : List Loc} {ls : Array Slot} (hx : p.tables.exec = Jvm.exec) (hb : c.code = code) (hr : meth.sig.returnType = ret) (hml : c.maxLocals = 4) (hown : s.vm.findClass RL = some m.cls) (hts : ∀ w ∈ lw_tbl, w.before #[Value.ref b] s = true) (hX : va_X b 6 xs s s.heap) (hbl : b < s.heap.size) (hlocks : meth.locks = false) (hA : ∀ q, s.heap.size ≤ q → A q) (hAz : ∀ q, A q → s.heap.size ≤ q) (hbA : ¬ A b) (hK : va_K (dC, dI) vwCl (ty0 cI cJ) s) (hN : gN s) (hP : va_P (dC, dI) vwCl (WX cI q1 rx ++ WM cI q2 rm og) H) (hD : va_D A (WX cI q1 rx ++ WM cI q2 rm og)) (hS : va_S A s.heap H locs) (hl : lv_has ls 4 [(0, .ref b), (1, .ref q1), (2, .ref q2), (3, .int 0)]) : W p l e room_1 s m #[Value.ref b] below meth c H locs 600000 7302250 (lw_Z below #[Value.ref b] s) (F0 m 1044 ls []) := by
  have hP := hP.sub (ws' := [(q1, .inr (11, [.ref (rx 0), .ref (rx 1), .ref (rx 2), .ref (rx 3), .ref (rx 4), .ref (rx 5), .ref (rx 6), .ref (rx 7), .ref (rx 8), .ref (rx 9), .ref (rx 10), .ref (rx 11), .ref (rx 12), .ref (rx 13), .int 1])), ((rx 1), .inr (1, [.ref (rx 15), .int 0])), ((rx 15), .inl (cI, 1024, .inl (fun _ => 0))), ((rx 5), .inr (5, [.ref (rx 16), .int 0, .int 0, .int 0])), (q2, .inr (12, (o12 rm))), ((rm 45), .inl (cI, 1800, .inl (fun _ => 0))), ((rm 34), .inl (cI, 22, .inl (fun _ => 0))), ((rm 36), .inl (cI, 22, .inl (fun _ => 0))), ((rm 37), .inl (cI, 22, .inl (fun _ => 0)))]) [0, 3, 4, 5, 15, 29, 24, 26, 27] rfl
  have hD := hD.sub (ws' := [(q1, .inr (11, [.ref (rx 0), .ref (rx 1), .ref (rx 2), .ref (rx 3), .ref (rx 4), .ref (rx 5), .ref (rx 6), .ref (rx 7), .ref (rx 8), .ref (rx 9), .ref (rx 10), .ref (rx 11), .ref (rx 12), .ref (rx 13), .int 1])), ((rx 1), .inr (1, [.ref (rx 15), .int 0])), ((rx 15), .inl (cI, 1024, .inl (fun _ => 0))), ((rx 5), .inr (5, [.ref (rx 16), .int 0, .int 0, .int 0])), (q2, .inr (12, (o12 rm))), ((rm 45), .inl (cI, 1800, .inl (fun _ => 0))), ((rm 34), .inl (cI, 22, .inl (fun _ => 0))), ((rm 36), .inl (cI, 22, .inl (fun _ => 0))), ((rm 37), .inl (cI, 22, .inl (fun _ => 0)))]) [0, 3, 4, 5, 15, 29, 24, 26, 27] (by decide) rfl
  refine lv_aload_n hx hb dL_law_1044 rfl (lv_at hl 1 rfl) ?_
  have hPc := hP.sub (ws' := [(q1, .inr (11, [.ref (rx 0), .ref (rx 1), .ref (rx 2), .ref (rx 3), .ref (rx 4), .ref (rx 5), .ref (rx 6), .ref (rx 7), .ref (rx 8), .ref (rx 9), .ref (rx 10), .ref (rx 11), .ref (rx 12), .ref (rx 13), .int 1])), ((rx 1), .inr (1, [.ref (rx 15), .int 0])), ((rx 15), .inl (cI, 1024, .inl (fun _ => 0))), ((rx 5), .inr (5, [.ref (rx 16), .int 0, .int 0, .int 0]))]) [0, 1, 2, 3] rfl
  have hDc := hD.sub (ws' := [(q1, .inr (11, [.ref (rx 0), .ref (rx 1), .ref (rx 2), .ref (rx 3), .ref (rx 4), .ref (rx 5), .ref (rx 6), .ref (rx 7), .ref (rx 8), .ref (rx 9), .ref (rx 10), .ref (rx 11), .ref (rx 12), .ref (rx 13), .int 1])), ((rx 1), .inr (1, [.ref (rx 15), .int 0])), ((rx 15), .inl (cI, 1024, .inl (fun _ => 0))), ((rx 5), .inr (5, [.ref (rx 16), .int 0, .int 0, .int 0]))]) [0, 1, 2, 3] (by decide) rfl
  have hFc := va_free (wc := [(q1, .inr (11, [.ref (rx 0), .ref (rx 1), .ref (rx 2), .ref (rx 3), .ref (rx 4), .ref (rx 5), .ref (rx 6), .ref (rx 7), .ref (rx 8), .ref (rx 9), .ref (rx 10), .ref (rx 11), .ref (rx 12), .ref (rx 13), .int 1])), ((rx 1), .inr (1, [.ref (rx 15), .int 0])), ((rx 15), .inl (cI, 1024, .inl (fun _ => 0))), ((rx 5), .inr (5, [.ref (rx 16), .int 0, .int 0, .int 0]))]) hD hS hA [0, 1, 2, 3] rfl
  refine va_calli (va_runV (As := []) (rest := []) ⟨hx, hb, hml, hown, hts⟩ (c_X11_image l dC dI cI cJ q1 rx H.size) (cwV 0 hts gL_law_X11_image rfl rfl rfl (by decide +kernel) ⟨Nat.le_of_ble_eq_true rfl, Nat.le_of_ble_eq_true rfl⟩) ⟨mBlind, va_recv hK hPc (ci := 11) (q0 := 0) rfl rfl, mGo hPc hK hDc hN⟩ rfl rfl hl.1 rfl (lv_room (Nat.le_of_ble_eq_true rfl)) dL_law_1045 ⟨Nat.le_of_ble_eq_true rfl, Nat.le_of_ble_eq_true rfl⟩) hS (fun q _ h => hFc q h) hFc (fun r_1 u t H1 locs ht hvm hw hB hz1 hk1 hS => ?_)
  obtain rfl : r_1 = 4 := hw
  obtain ⟨hP, hD⟩ := va_join (wr := [(q2, .inr (12, (o12 rm))), ((rm 45), .inl (cI, 1800, .inl (fun _ => 0))), ((rm 34), .inl (cI, 22, .inl (fun _ => 0))), ((rm 36), .inl (cI, 22, .inl (fun _ => 0))), ((rm 37), .inl (cI, 22, .inl (fun _ => 0)))]) (w1 := []) hP hD [0, 1, 2, 3] [4, 5, 6, 7, 8] rfl rfl (by decide) (by decide) hk1 hFc va_P0 va_D0
  generalize H1 = H at hP hS ⊢
  have hP : va_P (dC, dI) vwCl [(q2, .inr (12, (o12 rm))), ((rm 45), .inl (cI, 1800, .inl (fun _ => 0))), ((rm 34), .inl (cI, 22, .inl (fun _ => 0))), ((rm 36), .inl (cI, 22, .inl (fun _ => 0))), ((rm 37), .inl (cI, 22, .inl (fun _ => 0)))] H := hP
  have hD : va_D A [(q2, .inr (12, (o12 rm))), ((rm 45), .inl (cI, 1800, .inl (fun _ => 0))), ((rm 34), .inl (cI, 22, .inl (fun _ => 0))), ((rm 36), .inl (cI, 22, .inl (fun _ => 0))), ((rm 37), .inl (cI, 22, .inl (fun _ => 0)))] := hD
  refine lv_aload_n hx hb dL_law_1048 rfl (lv_at hl 2 rfl) ?_
  have hPc := hP.sub (ws' := [(q2, .inr (12, (o12 rm))), ((rm 45), .inl (cI, 1800, .inl (fun _ => 0))), ((rm 34), .inl (cI, 22, .inl (fun _ => 0))), ((rm 36), .inl (cI, 22, .inl (fun _ => 0))), ((rm 37), .inl (cI, 22, .inl (fun _ => 0)))]) [0, 1, 2, 3, 4] rfl
  have hDc := hD.sub (ws' := [(q2, .inr (12, (o12 rm))), ((rm 45), .inl (cI, 1800, .inl (fun _ => 0))), ((rm 34), .inl (cI, 22, .inl (fun _ => 0))), ((rm 36), .inl (cI, 22, .inl (fun _ => 0))), ((rm 37), .inl (cI, 22, .inl (fun _ => 0)))]) [0, 1, 2, 3, 4] (by decide) rfl
  have hFc := va_free (wc := [(q2, .inr (12, (o12 rm))), ((rm 45), .inl (cI, 1800, .inl (fun _ => 0))), ((rm 34), .inl (cI, 22, .inl (fun _ => 0))), ((rm 36), .inl (cI, 22, .inl (fun _ => 0))), ((rm 37), .inl (cI, 22, .inl (fun _ => 0)))]) hD hS hA [0, 1, 2, 3, 4] rfl
  refine va_calli (va_runV (As := []) (rest := [.int 4]) ⟨hx, hb, hml, hown, hts⟩ (c_X12_image l dC dI cI cJ q2 rm H.size) (cwV 0 hts gL_law_X12_image rfl rfl rfl (by decide +kernel) ⟨Nat.le_of_ble_eq_true rfl, Nat.le_of_ble_eq_true rfl⟩) ⟨mBlind, va_recv hK hPc (ci := 12) (q0 := 0) rfl rfl, mGo hPc hK hDc hN⟩ rfl rfl hl.1 rfl (lv_room (Nat.le_of_ble_eq_true rfl)) dL_law_1049 ⟨Nat.le_of_ble_eq_true rfl, Nat.le_of_ble_eq_true rfl⟩) hS (fun q _ h => hFc q h) hFc (fun r_2 u t H1 locs ht hvm hw hB hz1 hk1 hS => ?_)
  obtain rfl : r_2 = 4 := hw
  obtain ⟨hP, hD⟩ := va_join (wr := []) (w1 := []) hP hD [0, 1, 2, 3, 4] [] rfl rfl (by decide) (by decide) hk1 hFc va_P0 va_D0
  generalize H1 = H at hP hS ⊢
  have hP : va_P (dC, dI) vwCl [] H := hP
  have hD : va_D A [] := hD
  refine lv_icmp_eq (tgt := 1093) hx hb dL_law_1052 (by decide) (fun _ => ?_) (fun c => absurd (by decide) c)
  exact law_tail hx hb hr hml hX hbl hlocks hAz hbA hS (lv_sub hl [0, 3] rfl)
set_option maxHeartbeats 4000000 in
set_option maxRecDepth 100000 in
/-- case 33: on -/
theorem law_33 {p : Program} {l : Launch} {e : Env} {s : State} {m : MethodId} {below : List Frame} {meth : Method} {c : Code} {dC : Nat → ClassId} {dI : Nat → Nat → Nat} {cI cJ : ClassId} {b : Nat} {xs : Nat → Int32} {A : Nat → Prop} {q1 q2 : Nat} {rx rm : Nat → Nat} {og : Nat → Int32} {H : Heap} {locs : List Loc} {ls : Array Slot} (hx : p.tables.exec = Jvm.exec) (hb : c.code = code) (hr : meth.sig.returnType = ret) (hml : c.maxLocals = 4) (hown : s.vm.findClass RL = some m.cls) (hts : ∀ w ∈ lw_tbl, w.before #[Value.ref b] s = true) (hX : va_X b 6 xs s s.heap) (hbl : b < s.heap.size) (hlocks : meth.locks = false) (hA : ∀ q, s.heap.size ≤ q → A q) (hAz : ∀ q, A q → s.heap.size ≤ q) (hbA : ¬ A b) (hK : va_K (dC, dI) vwCl (ty0 cI cJ) s) (hN : gN s) (hP : va_P (dC, dI) vwCl (WX cI q1 rx ++ WM cI q2 rm og) H) (hD : va_D A (WX cI q1 rx ++ WM cI q2 rm og)) (hS : va_S A s.heap H locs) (hl : lv_has ls 4 [(0, .ref b), (1, .ref q1), (2, .ref q2), (3, .int 0)]) : W p l e room_1 s m #[Value.ref b] below meth c H locs 600000 7302250 (lw_Z below #[Value.ref b] s) (F0 m 1057 ls []) := by
  have hP := hP.sub (ws' := [(q1, .inr (11, [.ref (rx 0), .ref (rx 1), .ref (rx 2), .ref (rx 3), .ref (rx 4), .ref (rx 5), .ref (rx 6), .ref (rx 7), .ref (rx 8), .ref (rx 9), .ref (rx 10), .ref (rx 11), .ref (rx 12), .ref (rx 13), .int 1])), ((rx 10), .inr (9, [.ref (rx 26), .ref (rx 27), .ref (rx 28), .ref (rx 29), .ref (rx 30), .ref (rx 31), .int 0, .int 0, .int 0, .int 0, .int 0])), ((rx 0), .inr (1, [.ref (rx 14), .int 0])), ((rx 9), .inl (cI, 6, .inl (fun _ => 0))), (q2, .inr (12, (o12 rm))), ((rm 27), .inl (cI, 6, .inl (fun _ => 0)))]) [0, 9, 1, 8, 15, 23] rfl
  have hD := hD.sub (ws' := [(q1, .inr (11, [.ref (rx 0), .ref (rx 1), .ref (rx 2), .ref (rx 3), .ref (rx 4), .ref (rx 5), .ref (rx 6), .ref (rx 7), .ref (rx 8), .ref (rx 9), .ref (rx 10), .ref (rx 11), .ref (rx 12), .ref (rx 13), .int 1])), ((rx 10), .inr (9, [.ref (rx 26), .ref (rx 27), .ref (rx 28), .ref (rx 29), .ref (rx 30), .ref (rx 31), .int 0, .int 0, .int 0, .int 0, .int 0])), ((rx 0), .inr (1, [.ref (rx 14), .int 0])), ((rx 9), .inl (cI, 6, .inl (fun _ => 0))), (q2, .inr (12, (o12 rm))), ((rm 27), .inl (cI, 6, .inl (fun _ => 0)))]) [0, 9, 1, 8, 15, 23] (by decide) rfl
  refine lv_aload_n hx hb dL_law_1057 rfl (lv_at hl 1 rfl) ?_
  have hPc := hP.sub (ws' := [(q1, .inr (11, [.ref (rx 0), .ref (rx 1), .ref (rx 2), .ref (rx 3), .ref (rx 4), .ref (rx 5), .ref (rx 6), .ref (rx 7), .ref (rx 8), .ref (rx 9), .ref (rx 10), .ref (rx 11), .ref (rx 12), .ref (rx 13), .int 1])), ((rx 10), .inr (9, [.ref (rx 26), .ref (rx 27), .ref (rx 28), .ref (rx 29), .ref (rx 30), .ref (rx 31), .int 0, .int 0, .int 0, .int 0, .int 0])), ((rx 0), .inr (1, [.ref (rx 14), .int 0])), ((rx 9), .inl (cI, 6, .inl (fun _ => 0)))]) [0, 1, 2, 3] rfl
  have hDc := hD.sub (ws' := [(q1, .inr (11, [.ref (rx 0), .ref (rx 1), .ref (rx 2), .ref (rx 3), .ref (rx 4), .ref (rx 5), .ref (rx 6), .ref (rx 7), .ref (rx 8), .ref (rx 9), .ref (rx 10), .ref (rx 11), .ref (rx 12), .ref (rx 13), .int 1])), ((rx 10), .inr (9, [.ref (rx 26), .ref (rx 27), .ref (rx 28), .ref (rx 29), .ref (rx 30), .ref (rx 31), .int 0, .int 0, .int 0, .int 0, .int 0])), ((rx 0), .inr (1, [.ref (rx 14), .int 0])), ((rx 9), .inl (cI, 6, .inl (fun _ => 0)))]) [0, 1, 2, 3] (by decide) rfl
  have hFc := va_free (wc := [(q1, .inr (11, [.ref (rx 0), .ref (rx 1), .ref (rx 2), .ref (rx 3), .ref (rx 4), .ref (rx 5), .ref (rx 6), .ref (rx 7), .ref (rx 8), .ref (rx 9), .ref (rx 10), .ref (rx 11), .ref (rx 12), .ref (rx 13), .int 1])), ((rx 10), .inr (9, [.ref (rx 26), .ref (rx 27), .ref (rx 28), .ref (rx 29), .ref (rx 30), .ref (rx 31), .int 0, .int 0, .int 0, .int 0, .int 0])), ((rx 0), .inr (1, [.ref (rx 14), .int 0])), ((rx 9), .inl (cI, 6, .inl (fun _ => 0)))]) hD hS hA [0, 1, 2, 3] rfl
  refine va_calli (va_runV (As := []) (rest := []) ⟨hx, hb, hml, hown, hts⟩ (c_X11_on l dC dI cI cJ q1 rx H.size) (cwV 0 hts gL_law_X11_on rfl rfl rfl (by decide +kernel) ⟨Nat.le_of_ble_eq_true rfl, Nat.le_of_ble_eq_true rfl⟩) ⟨mBlind, va_recv hK hPc (ci := 11) (q0 := 0) rfl rfl, mGo hPc hK hDc hN⟩ rfl rfl hl.1 rfl (lv_room (Nat.le_of_ble_eq_true rfl)) dL_law_1058 ⟨Nat.le_of_ble_eq_true rfl, Nat.le_of_ble_eq_true rfl⟩) hS (fun q _ h => hFc q h) hFc (fun r_1 u t H1 locs ht hvm hw hB hz1 hk1 hS => ?_)
  obtain rfl : r_1 = 0 := hw
  obtain ⟨hP, hD⟩ := va_join (wr := [(q2, .inr (12, (o12 rm))), ((rm 27), .inl (cI, 6, .inl (fun _ => 0)))]) (w1 := []) hP hD [0, 1, 2, 3] [4, 5] rfl rfl (by decide) (by decide) hk1 hFc va_P0 va_D0
  generalize H1 = H at hP hS ⊢
  have hP : va_P (dC, dI) vwCl [(q2, .inr (12, (o12 rm))), ((rm 27), .inl (cI, 6, .inl (fun _ => 0)))] H := hP
  have hD : va_D A [(q2, .inr (12, (o12 rm))), ((rm 27), .inl (cI, 6, .inl (fun _ => 0)))] := hD
  refine lv_aload_n hx hb dL_law_1061 rfl (lv_at hl 2 rfl) ?_
  have hPc := hP.sub (ws' := [(q2, .inr (12, (o12 rm))), ((rm 27), .inl (cI, 6, .inl (fun _ => 0)))]) [0, 1] rfl
  have hDc := hD.sub (ws' := [(q2, .inr (12, (o12 rm))), ((rm 27), .inl (cI, 6, .inl (fun _ => 0)))]) [0, 1] (by decide) rfl
  have hFc := va_free (wc := [(q2, .inr (12, (o12 rm))), ((rm 27), .inl (cI, 6, .inl (fun _ => 0)))]) hD hS hA [0, 1] rfl
  refine va_calli (va_runV (As := []) (rest := [.int 0]) ⟨hx, hb, hml, hown, hts⟩ (c_X12_on l dC dI cI cJ q2 rm H.size) (cwV 0 hts gL_law_X12_on rfl rfl rfl (by decide +kernel) ⟨Nat.le_of_ble_eq_true rfl, Nat.le_of_ble_eq_true rfl⟩) ⟨mBlind, va_recv hK hPc (ci := 12) (q0 := 0) rfl rfl, mGo hPc hK hDc hN⟩ rfl rfl hl.1 rfl (lv_room (Nat.le_of_ble_eq_true rfl)) dL_law_1062 ⟨Nat.le_of_ble_eq_true rfl, Nat.le_of_ble_eq_true rfl⟩) hS (fun q _ h => hFc q h) hFc (fun r_2 u t H1 locs ht hvm hw hB hz1 hk1 hS => ?_)
  obtain rfl : r_2 = 0 := hw
  obtain ⟨hP, hD⟩ := va_join (wr := []) (w1 := []) hP hD [0, 1] [] rfl rfl (by decide) (by decide) hk1 hFc va_P0 va_D0
  generalize H1 = H at hP hS ⊢
  have hP : va_P (dC, dI) vwCl [] H := hP
  have hD : va_D A [] := hD
  refine lv_icmp_eq (tgt := 1093) hx hb dL_law_1065 (by decide) (fun _ => ?_) (fun c => absurd (by decide) c)
  exact law_tail hx hb hr hml hX hbl hlocks hAz hbA hS (lv_sub hl [0, 3] rfl)
set_option maxHeartbeats 4000000 in
set_option maxRecDepth 100000 in
/-- case 34: status -/
theorem law_34 {p : Program} {l : Launch} {e : Env} {s : State} {m : MethodId} {below : List Frame} {meth : Method} {c : Code} {dC : Nat → ClassId} {dI : Nat → Nat → Nat} {cI cJ : ClassId} {b : Nat} {xs : Nat → Int32} {A : Nat → Prop} {q1 q2 : Nat} {rx rm : Nat → Nat} {og : Nat → Int32} {H : Heap} {locs : List Loc} {ls : Array Slot} (hx : p.tables.exec = Jvm.exec) (hb : c.code = code) (hr : meth.sig.returnType = ret) (hml : c.maxLocals = 4) (hown : s.vm.findClass RL = some m.cls) (hts : ∀ w ∈ lw_tbl, w.before #[Value.ref b] s = true) (hX : va_X b 6 xs s s.heap) (hbl : b < s.heap.size) (hlocks : meth.locks = false) (hA : ∀ q, s.heap.size ≤ q → A q) (hAz : ∀ q, A q → s.heap.size ≤ q) (hbA : ¬ A b) (hK : va_K (dC, dI) vwCl (ty0 cI cJ) s) (hN : gN s) (hP : va_P (dC, dI) vwCl (WX cI q1 rx ++ WM cI q2 rm og) H) (hD : va_D A (WX cI q1 rx ++ WM cI q2 rm og)) (hS : va_S A s.heap H locs) (hl : lv_has ls 4 [(0, .ref b), (1, .ref q1), (2, .ref q2), (3, .int 0)]) : W p l e room_1 s m #[Value.ref b] below meth c H locs 600000 7302250 (lw_Z below #[Value.ref b] s) (F0 m 1070 ls []) := by
  have hP := hP.sub (ws' := [(q1, .inr (11, [.ref (rx 0), .ref (rx 1), .ref (rx 2), .ref (rx 3), .ref (rx 4), .ref (rx 5), .ref (rx 6), .ref (rx 7), .ref (rx 8), .ref (rx 9), .ref (rx 10), .ref (rx 11), .ref (rx 12), .ref (rx 13), .int 1])), ((rx 9), .inl (cI, 6, .inl (fun _ => 0))), (q2, .inr (12, (o12 rm))), ((rm 27), .inl (cI, 6, .inl (fun _ => 0)))]) [0, 8, 15, 23] rfl
  have hD := hD.sub (ws' := [(q1, .inr (11, [.ref (rx 0), .ref (rx 1), .ref (rx 2), .ref (rx 3), .ref (rx 4), .ref (rx 5), .ref (rx 6), .ref (rx 7), .ref (rx 8), .ref (rx 9), .ref (rx 10), .ref (rx 11), .ref (rx 12), .ref (rx 13), .int 1])), ((rx 9), .inl (cI, 6, .inl (fun _ => 0))), (q2, .inr (12, (o12 rm))), ((rm 27), .inl (cI, 6, .inl (fun _ => 0)))]) [0, 8, 15, 23] (by decide) rfl
  refine lv_aload_n hx hb dL_law_1070 rfl (lv_at hl 1 rfl) ?_
  refine lv_aload_n hx hb dL_law_1071 rfl (lv_at hl 0 rfl) ?_
  refine lv_iload_n hx hb dL_law_1072 rfl (lv_at hl 3 rfl) ?_
  refine lv_iconst (v := 1) hx hb dL_law_1073 (by decide) ?_
  refine k_iadd (v := 1) hx hb (by decide) dL_law_1074 ?_
  refine va_sld hx hb hX hbl hbA hS (vpd (by decide)) dL_law_1075 ?_
  have hPc := hP.sub (ws' := [(q1, .inr (11, [.ref (rx 0), .ref (rx 1), .ref (rx 2), .ref (rx 3), .ref (rx 4), .ref (rx 5), .ref (rx 6), .ref (rx 7), .ref (rx 8), .ref (rx 9), .ref (rx 10), .ref (rx 11), .ref (rx 12), .ref (rx 13), .int 1])), ((rx 9), .inl (cI, 6, .inl (fun _ => 0)))]) [0, 1] rfl
  have hDc := hD.sub (ws' := [(q1, .inr (11, [.ref (rx 0), .ref (rx 1), .ref (rx 2), .ref (rx 3), .ref (rx 4), .ref (rx 5), .ref (rx 6), .ref (rx 7), .ref (rx 8), .ref (rx 9), .ref (rx 10), .ref (rx 11), .ref (rx 12), .ref (rx 13), .int 1])), ((rx 9), .inl (cI, 6, .inl (fun _ => 0)))]) [0, 1] (by decide) rfl
  have hFc := va_free (wc := [(q1, .inr (11, [.ref (rx 0), .ref (rx 1), .ref (rx 2), .ref (rx 3), .ref (rx 4), .ref (rx 5), .ref (rx 6), .ref (rx 7), .ref (rx 8), .ref (rx 9), .ref (rx 10), .ref (rx 11), .ref (rx 12), .ref (rx 13), .int 1])), ((rx 9), .inl (cI, 6, .inl (fun _ => 0)))]) hD hS hA [0, 1] rfl
  refine va_calli (va_runV (As := [.int (xs (1 : Int32).toNatClampNeg)]) (rest := []) ⟨hx, hb, hml, hown, hts⟩ (c_X11_status l dC dI cI cJ q1 rx (xs (1 : Int32).toNatClampNeg) H.size) (cwV 1 hts gL_law_X11_status rfl rfl rfl (by decide +kernel) ⟨Nat.le_of_ble_eq_true rfl, Nat.le_of_ble_eq_true rfl⟩) ⟨mBlind, va_recv hK hPc (ci := 11) (q0 := 0) rfl rfl, mGo hPc hK hDc hN⟩ rfl rfl hl.1 rfl (lv_room (Nat.le_of_ble_eq_true rfl)) dL_law_1076 ⟨Nat.le_of_ble_eq_true rfl, Nat.le_of_ble_eq_true rfl⟩) hS (fun q _ h => hFc q h) hFc (fun r_1 u t H1 locs ht hvm hw hB hz1 hk1 hS => ?_)
  have hw_x := hw
  obtain ⟨hP, hD⟩ := va_join (wr := [(q2, .inr (12, (o12 rm))), ((rm 27), .inl (cI, 6, .inl (fun _ => 0)))]) (w1 := []) hP hD [0, 1] [2, 3] rfl rfl (by decide) (by decide) hk1 hFc va_P0 va_D0
  generalize H1 = H at hP hS ⊢
  have hP : va_P (dC, dI) vwCl [(q2, .inr (12, (o12 rm))), ((rm 27), .inl (cI, 6, .inl (fun _ => 0)))] H := hP
  have hD : va_D A [(q2, .inr (12, (o12 rm))), ((rm 27), .inl (cI, 6, .inl (fun _ => 0)))] := hD
  refine lv_aload_n hx hb dL_law_1079 rfl (lv_at hl 2 rfl) ?_
  refine lv_aload_n hx hb dL_law_1080 rfl (lv_at hl 0 rfl) ?_
  refine lv_iload_n hx hb dL_law_1081 rfl (lv_at hl 3 rfl) ?_
  refine lv_iconst (v := 1) hx hb dL_law_1082 (by decide) ?_
  refine k_iadd (v := 1) hx hb (by decide) dL_law_1083 ?_
  refine va_sld hx hb hX hbl hbA hS (vpd (by decide)) dL_law_1084 ?_
  have hPc := hP.sub (ws' := [(q2, .inr (12, (o12 rm))), ((rm 27), .inl (cI, 6, .inl (fun _ => 0)))]) [0, 1] rfl
  have hDc := hD.sub (ws' := [(q2, .inr (12, (o12 rm))), ((rm 27), .inl (cI, 6, .inl (fun _ => 0)))]) [0, 1] (by decide) rfl
  have hFc := va_free (wc := [(q2, .inr (12, (o12 rm))), ((rm 27), .inl (cI, 6, .inl (fun _ => 0)))]) hD hS hA [0, 1] rfl
  refine va_calli (va_runV (As := [.int (xs (1 : Int32).toNatClampNeg)]) (rest := [.int r_1]) ⟨hx, hb, hml, hown, hts⟩ (c_X12_status l dC dI cI cJ q2 rm (xs (1 : Int32).toNatClampNeg) H.size) (cwV 1 hts gL_law_X12_status rfl rfl rfl (by decide +kernel) ⟨Nat.le_of_ble_eq_true rfl, Nat.le_of_ble_eq_true rfl⟩) ⟨mBlind, va_recv hK hPc (ci := 12) (q0 := 0) rfl rfl, mGo hPc hK hDc hN⟩ rfl rfl hl.1 rfl (lv_room (Nat.le_of_ble_eq_true rfl)) dL_law_1085 ⟨Nat.le_of_ble_eq_true rfl, Nat.le_of_ble_eq_true rfl⟩) hS (fun q _ h => hFc q h) hFc (fun r_2 u t H1 locs ht hvm hw hB hz1 hk1 hS => ?_)
  have hw_m := hw
  obtain ⟨hP, hD⟩ := va_join (wr := []) (w1 := []) hP hD [0, 1] [] rfl rfl (by decide) (by decide) hk1 hFc va_P0 va_D0
  generalize H1 = H at hP hS ⊢
  have hP : va_P (dC, dI) vwCl [] H := hP
  have hD : va_D A [] := hD
  refine lv_icmp_eq (tgt := 1093) hx hb dL_law_1088 (by decide) (fun _ => ?_) (fun c => absurd (hw_x.trans hw_m.symm) c)
  exact law_tail hx hb hr hml hX hbl hlocks hAz hbA hS (lv_sub hl [0, 3] rfl)
set_option maxHeartbeats 4000000 in
set_option maxRecDepth 100000 in
/-- THE LAW, from its entry -/
theorem whole_start {p : Program} {e : Env} {s : State} {m : MethodId} {below : List Frame} {meth : Method} {c : Code} (l : Launch) (hflags : l.flags = flags0) {b L : Nat} {xs : Nat → Int32} (hL : L ≤ 6) (C0 : lw_At p s m meth c b L xs) : W p l e room_1 s m #[Value.ref b] below meth c s.heap [] 0 0 (lw_Z below #[Value.ref b] s) (entryFrame m ([Value.ref b] : List Value).toArray 4) := by
  obtain ⟨hx, hb, hr, hml, hown, hts0, hX, hbl, hlocks, hgv⟩ := C0
  obtain ⟨adK, adV, hE0⟩ := vS_start hgv hts0
  have hN := gN_start hts0
  obtain ⟨cI, cJ, tI1, tI2, tJ1, tJ2⟩ := ty_start hts0
  obtain ⟨A, hAe⟩ : ∃ A : Nat → Prop, A = fun q => s.heap.size ≤ q := ⟨_, rfl⟩
  have hA : ∀ q : Nat, s.heap.size ≤ q → A q := fun q h => by rw [hAe]; exact h
  have hAz : ∀ q : Nat, A q → s.heap.size ≤ q := fun q h => by rw [hAe] at h; exact h
  have hbA : ¬ A b := fun h => absurd (hAz b h) (Nat.not_le.mpr hbl)
  obtain ⟨cc0, is0, hk0⟩ := u_known (C := RX0) (T := TX0) (N := 8) (n := 8) hts0 inX0 (hts0 (.instantiable RX0 8) (inst_0))
  obtain ⟨cc1, is1, hk1⟩ := u_known (C := RX1) (T := TX1) (N := 2) (n := 2) hts0 inX1 (hts0 (.instantiable RX1 2) (inst_1))
  obtain ⟨cc2, is2, hk2⟩ := u_known (C := RX2) (T := TX2) (N := 4) (n := 4) hts0 inX2 (hts0 (.instantiable RX2 4) (inst_2))
  obtain ⟨cc3, is3, hk3⟩ := u_known (C := RX3) (T := TX3) (N := 11) (n := 11) hts0 inX3 (hts0 (.instantiable RX3 11) (inst_3))
  obtain ⟨cc4, is4, hk4⟩ := u_known (C := RX4) (T := TX4) (N := 3) (n := 3) hts0 inX4 (hts0 (.instantiable RX4 3) (inst_4))
  obtain ⟨cc5, is5, hk5⟩ := u_known (C := RX5) (T := TX5) (N := 4) (n := 4) hts0 inX5 (hts0 (.instantiable RX5 4) (inst_5))
  obtain ⟨cc6, is6, hk6⟩ := u_known (C := RX6) (T := TX6) (N := 5) (n := 5) hts0 inX6 (hts0 (.instantiable RX6 5) (inst_6))
  obtain ⟨cc7, is7, hk7⟩ := u_known (C := RX7) (T := TX7) (N := 9) (n := 9) hts0 inX7 (hts0 (.instantiable RX7 9) (inst_7))
  obtain ⟨cc8, is8, hk8⟩ := u_known (C := RX8) (T := TX8) (N := 6) (n := 6) hts0 inX8 (hts0 (.instantiable RX8 6) (inst_8))
  obtain ⟨cc9, is9, hk9⟩ := u_known (C := RX9) (T := TX9) (N := 11) (n := 11) hts0 inX9 (hts0 (.instantiable RX9 11) (inst_9))
  obtain ⟨cc10, is10, hk10⟩ := u_known (C := RX10) (T := TX10) (N := 15) (n := 15) hts0 inX10 (hts0 (.instantiable RX10 15) (inst_10))
  obtain ⟨cc11, is11, hk11⟩ := u_known (C := RX11) (T := TX11) (N := 15) (n := 15) hts0 inX11 (hts0 (.instantiable RX11 15) (inst_11))
  obtain ⟨cc12, is12, hk12⟩ := u_known (C := RX12) (T := TX12) (N := 98) (n := 98) hts0 inX12 (hts0 (.instantiable RX12 98) (inst_12))
  obtain ⟨dC, dI, hKc⟩ : ∃ (dC : Nat → ClassId) (dI : Nat → Nat → Nat), ∀ (k : Nat) (q : vw_C), vwCl[k]? = some q → u_Kn s q.1 q.2.1 q.2.2 (dC k) (dI k) := by
    refine ⟨fun k => [cc0, cc1, cc2, cc3, cc4, cc5, cc6, cc7, cc8, cc9, cc10, cc11, cc12].getD k 0, fun k => [is0, is1, is2, is3, is4, is5, is6, is7, is8, is9, is10, is11, is12].getD k (fun _ => 0), ?_⟩
    intro k q hq
    match k, hq with
    | 0, hq => cases hq; exact hk0
    | 1, hq => cases hq; exact hk1
    | 2, hq => cases hq; exact hk2
    | 3, hq => cases hq; exact hk3
    | 4, hq => cases hq; exact hk4
    | 5, hq => cases hq; exact hk5
    | 6, hq => cases hq; exact hk6
    | 7, hq => cases hq; exact hk7
    | 8, hq => cases hq; exact hk8
    | 9, hq => cases hq; exact hk9
    | 10, hq => cases hq; exact hk10
    | 11, hq => cases hq; exact hk11
    | 12, hq => cases hq; exact hk12
    | k + 13, hq => simp [vwCl] at hq
  have hts := hts0
  have hK : va_K (dC, dI) vwCl (ty0 cI cJ) s := ⟨hKc, fun k q h => by
    match k, h with
    | 0, h => cases h; exact ⟨tI1, tI2⟩
    | 1, h => cases h; exact ⟨tJ1, tJ2⟩
    | k + 2, h => simp at h⟩
  have hS : va_S A s.heap s.heap [] := va_S.rf
  have hP : va_P (dC, dI) vwCl [] s.heap := va_P0
  have hD : va_D A [] := va_D0
  have h_in_X11 := inX11
  have h_in_X12 := inX12
  have hl := lv_entry ([.ref b]) (n := 4) (Nat.le_of_ble_eq_true rfl)
  rw [lg_entry_eq]
  generalize (lg_sl ([.ref b]) ++ List.replicate (4 - (lg_sl ([.ref b])).length) Slot.unset).toArray = ls at hl ⊢
  have hl : lv_has ls 4 [(0, .ref b)] := hl
  refine va_new (ci := 11) (fs := [.null, .null, .null, .null, .null, .null, .null, .null, .null, .null, .null, .null, .null, .null, .int 0]) (C := RX11) (T := TX11) (N := 15) hx hb hts h_in_X11 tyX11 tyX11_ok hown (hts (.classLink RL 7 RX11) (by decide +kernel)) (hts (.instantiable RX11 15) (by decide +kernel)) (hts (.initialized RX11) (by decide +kernel)) hK hP hD hS hA rfl (fun j hj => by rcases (show j = 0 ∨ j = 1 ∨ j = 2 ∨ j = 3 ∨ j = 4 ∨ j = 5 ∨ j = 6 ∨ j = 7 ∨ j = 8 ∨ j = 9 ∨ j = 10 ∨ j = 11 ∨ j = 12 ∨ j = 13 ∨ j = 14 by omega) with rfl | rfl | rfl | rfl | rfl | rfl | rfl | rfl | rfl | rfl | rfl | rfl | rfl | rfl | rfl <;> rfl) (Nat.le_of_ble_eq_true rfl) (Nat.le_of_ble_eq_true rfl) dL_law_0 (fun q_1 H hP hD hS => ?_)
  refine W.widen (k := 1) (n := 15) (Nat.le_of_ble_eq_true rfl) (Nat.le_of_ble_eq_true rfl) ?_
  have hP : va_P (dC, dI) vwCl [(q_1, .inr (11, [.null, .null, .null, .null, .null, .null, .null, .null, .null, .null, .null, .null, .null, .null, .int 0]))] H := hP
  have hD : va_D A [(q_1, .inr (11, [.null, .null, .null, .null, .null, .null, .null, .null, .null, .null, .null, .null, .null, .null, .int 0]))] := hD
  refine lv_dup hx hb dL_law_3 rfl ?_
  have hPc := hP.sub (ws' := [(q_1, .inr (11, [.null, .null, .null, .null, .null, .null, .null, .null, .null, .null, .null, .null, .null, .null, .int 0]))]) [0] rfl
  have hDc := hD.sub (ws' := [(q_1, .inr (11, [.null, .null, .null, .null, .null, .null, .null, .null, .null, .null, .null, .null, .null, .null, .int 0]))]) [0] (by decide) rfl
  have hFc := va_free (wc := [(q_1, .inr (11, [.null, .null, .null, .null, .null, .null, .null, .null, .null, .null, .null, .null, .null, .null, .int 0]))]) hD hS hA [0] rfl
  refine va_callv (va_runI (As := []) (rest := [.ref q_1]) ⟨hx, hb, hml, hown, hts⟩ (c_X11_init l dC dI cI cJ q_1 adK adV s.heap.size H.size (fun q h => hAz q (hFc q h))) (cwI 0 hts gL_law_X11_init rfl rfl rfl (hts (.initialized RX11) (by decide +kernel)) (hts (.methodLink RL 9 yX11_init) (by decide +kernel)) (hts (.instanceMethod yX11_init) (by decide +kernel)) rfl (by decide +kernel) ⟨Nat.le_of_ble_eq_true rfl, Nat.le_of_ble_eq_true rfl⟩) ⟨mBlindS, mGoS hPc hK hDc hN hE0 hAz hS⟩ rfl rfl hl.1 rfl (lv_room (Nat.le_of_ble_eq_true rfl)) dL_law_4 ⟨Nat.le_of_ble_eq_true rfl, Nat.le_of_ble_eq_true rfl⟩) hS (fun q _ h => hFc q h) hFc (fun u t H1 locs ht hvm hw hB hz1 hk1 hS => ?_)
  obtain ⟨rx, hP1, hD1⟩ := hB
  rw [ht] at hP1
  obtain ⟨hP, hD⟩ := va_join (wr := []) (w1 := [(q_1, .inr (11, [.ref (rx 0), .ref (rx 1), .ref (rx 2), .ref (rx 3), .ref (rx 4), .ref (rx 5), .ref (rx 6), .ref (rx 7), .ref (rx 8), .ref (rx 9), .ref (rx 10), .ref (rx 11), .ref (rx 12), .ref (rx 13), .int 1])), ((rx 0), .inr (1, [.ref (rx 14), .int 0])), ((rx 14), .inl (cI, 1600, .inl (fun _ => 0))), ((rx 1), .inr (1, [.ref (rx 15), .int 0])), ((rx 15), .inl (cI, 1024, .inl (fun _ => 0))), ((rx 5), .inr (5, [.ref (rx 16), .int 0, .int 0, .int 0])), ((rx 7), .inr (0, [.ref (rx 17), .ref (rx 18), .ref (rx 19), .ref (rx 20), .ref (rx 21), .int 0, .int 0, .int 0])), ((rx 8), .inr (8, [.ref (rx 22), .ref (rx 23), .int 0, .ref (rx 24), .int 0, .ref (rx 25)])), ((rx 9), .inl (cI, 6, .inl (fun _ => 0))), ((rx 10), .inr (9, [.ref (rx 26), .ref (rx 27), .ref (rx 28), .ref (rx 29), .ref (rx 30), .ref (rx 31), .int 0, .int 0, .int 0, .int 0, .int 0])), ((rx 26), .inr (3, [.ref (rx 32), .ref (rx 33), .ref (rx 34), .ref (rx 35), .ref (rx 36), .ref (rx 37), .ref (rx 38), .ref (rx 39), .ref (rx 40), .int 0, .int 0])), ((rx 11), .inr (9, [.ref (rx 41), .ref (rx 42), .ref (rx 43), .ref (rx 44), .ref (rx 45), .ref (rx 46), .int 0, .int 0, .int 0, .int 0, .int 0])), ((rx 41), .inr (3, [.ref (rx 47), .ref (rx 48), .ref (rx 49), .ref (rx 50), .ref (rx 51), .ref (rx 52), .ref (rx 53), .ref (rx 54), .ref (rx 55), .int 0, .int 0])), ((rx 12), .inr (6, [.ref (rx 56), .ref (rx 57), .ref (rx 10), .int 0, .int (-1)])), ((rx 56), .inr (7, [.ref (rx 58), .ref (rx 59), .int 0, .int 0, .int 0, .int 0, .int 0, .int 0, .int 0]))]) hP hD [0] [] rfl rfl (by decide) (by decide) hk1 hFc hP1 hD1
  generalize H1 = H at hP hS ⊢
  have hP : va_P (dC, dI) vwCl [(q_1, .inr (11, [.ref (rx 0), .ref (rx 1), .ref (rx 2), .ref (rx 3), .ref (rx 4), .ref (rx 5), .ref (rx 6), .ref (rx 7), .ref (rx 8), .ref (rx 9), .ref (rx 10), .ref (rx 11), .ref (rx 12), .ref (rx 13), .int 1])), ((rx 0), .inr (1, [.ref (rx 14), .int 0])), ((rx 14), .inl (cI, 1600, .inl (fun _ => 0))), ((rx 1), .inr (1, [.ref (rx 15), .int 0])), ((rx 15), .inl (cI, 1024, .inl (fun _ => 0))), ((rx 5), .inr (5, [.ref (rx 16), .int 0, .int 0, .int 0])), ((rx 7), .inr (0, [.ref (rx 17), .ref (rx 18), .ref (rx 19), .ref (rx 20), .ref (rx 21), .int 0, .int 0, .int 0])), ((rx 8), .inr (8, [.ref (rx 22), .ref (rx 23), .int 0, .ref (rx 24), .int 0, .ref (rx 25)])), ((rx 9), .inl (cI, 6, .inl (fun _ => 0))), ((rx 10), .inr (9, [.ref (rx 26), .ref (rx 27), .ref (rx 28), .ref (rx 29), .ref (rx 30), .ref (rx 31), .int 0, .int 0, .int 0, .int 0, .int 0])), ((rx 26), .inr (3, [.ref (rx 32), .ref (rx 33), .ref (rx 34), .ref (rx 35), .ref (rx 36), .ref (rx 37), .ref (rx 38), .ref (rx 39), .ref (rx 40), .int 0, .int 0])), ((rx 11), .inr (9, [.ref (rx 41), .ref (rx 42), .ref (rx 43), .ref (rx 44), .ref (rx 45), .ref (rx 46), .int 0, .int 0, .int 0, .int 0, .int 0])), ((rx 41), .inr (3, [.ref (rx 47), .ref (rx 48), .ref (rx 49), .ref (rx 50), .ref (rx 51), .ref (rx 52), .ref (rx 53), .ref (rx 54), .ref (rx 55), .int 0, .int 0])), ((rx 12), .inr (6, [.ref (rx 56), .ref (rx 57), .ref (rx 10), .int 0, .int (-1)])), ((rx 56), .inr (7, [.ref (rx 58), .ref (rx 59), .int 0, .int 0, .int 0, .int 0, .int 0, .int 0, .int 0]))] H := hP
  have hD : va_D A [(q_1, .inr (11, [.ref (rx 0), .ref (rx 1), .ref (rx 2), .ref (rx 3), .ref (rx 4), .ref (rx 5), .ref (rx 6), .ref (rx 7), .ref (rx 8), .ref (rx 9), .ref (rx 10), .ref (rx 11), .ref (rx 12), .ref (rx 13), .int 1])), ((rx 0), .inr (1, [.ref (rx 14), .int 0])), ((rx 14), .inl (cI, 1600, .inl (fun _ => 0))), ((rx 1), .inr (1, [.ref (rx 15), .int 0])), ((rx 15), .inl (cI, 1024, .inl (fun _ => 0))), ((rx 5), .inr (5, [.ref (rx 16), .int 0, .int 0, .int 0])), ((rx 7), .inr (0, [.ref (rx 17), .ref (rx 18), .ref (rx 19), .ref (rx 20), .ref (rx 21), .int 0, .int 0, .int 0])), ((rx 8), .inr (8, [.ref (rx 22), .ref (rx 23), .int 0, .ref (rx 24), .int 0, .ref (rx 25)])), ((rx 9), .inl (cI, 6, .inl (fun _ => 0))), ((rx 10), .inr (9, [.ref (rx 26), .ref (rx 27), .ref (rx 28), .ref (rx 29), .ref (rx 30), .ref (rx 31), .int 0, .int 0, .int 0, .int 0, .int 0])), ((rx 26), .inr (3, [.ref (rx 32), .ref (rx 33), .ref (rx 34), .ref (rx 35), .ref (rx 36), .ref (rx 37), .ref (rx 38), .ref (rx 39), .ref (rx 40), .int 0, .int 0])), ((rx 11), .inr (9, [.ref (rx 41), .ref (rx 42), .ref (rx 43), .ref (rx 44), .ref (rx 45), .ref (rx 46), .int 0, .int 0, .int 0, .int 0, .int 0])), ((rx 41), .inr (3, [.ref (rx 47), .ref (rx 48), .ref (rx 49), .ref (rx 50), .ref (rx 51), .ref (rx 52), .ref (rx 53), .ref (rx 54), .ref (rx 55), .int 0, .int 0])), ((rx 12), .inr (6, [.ref (rx 56), .ref (rx 57), .ref (rx 10), .int 0, .int (-1)])), ((rx 56), .inr (7, [.ref (rx 58), .ref (rx 59), .int 0, .int 0, .int 0, .int 0, .int 0, .int 0, .int 0]))] := hD
  refine W.widen (k := 154) (n := 167644) (Nat.le_of_ble_eq_true rfl) (Nat.le_of_ble_eq_true rfl) ?_
  refine lv_astore_n (lv' := [(1, .ref q_1), (0, .ref b)]) hx hb dL_law_7 rfl hl (by decide) rfl (fun ls hl => ?_)
  refine va_new (ci := 12) (fs := [.null, .int 0, .int 0, .int 0, .int 0, .int 0, .int 0, .long 0, .int 0, .int 0, .int 0, .int 0, .int 0, .int 0, .null, .null, .null, .null, .null, .null, .null, .null, .null, .null, .null, .null, .null, .null, .null, .null, .null, .null, .null, .null, .null, .null, .int 0, .int 0, .int 0, .null, .null, .null, .null, .int 0, .int 0, .null, .null, .null, .null, .null, .null, .null, .int 0, .null, .null, .null, .null, .null, .null, .int 0, .int 0, .long 0, .int 0, .null, .null, .null, .int 0, .null, .null, .null, .int 0, .null, .null, .int 0, .int 0, .null, .int 0, .null, .int 0, .null, .null, .int 0, .null, .null, .null, .null, .null, .int 0, .int 0, .int 0, .int 0, .null, .int 0, .null, .null, .null, .null, .null]) (C := RX12) (T := TX12) (N := 98) hx hb hts h_in_X12 tyX12 tyX12_ok hown (hts (.classLink RL 10 RX12) (by decide +kernel)) (hts (.instantiable RX12 98) (by decide +kernel)) (hts (.initialized RX12) (by decide +kernel)) hK hP hD hS hA rfl (fun j hj => by rcases (show j = 0 ∨ j = 1 ∨ j = 2 ∨ j = 3 ∨ j = 4 ∨ j = 5 ∨ j = 6 ∨ j = 7 ∨ j = 8 ∨ j = 9 ∨ j = 10 ∨ j = 11 ∨ j = 12 ∨ j = 13 ∨ j = 14 ∨ j = 15 ∨ j = 16 ∨ j = 17 ∨ j = 18 ∨ j = 19 ∨ j = 20 ∨ j = 21 ∨ j = 22 ∨ j = 23 ∨ j = 24 ∨ j = 25 ∨ j = 26 ∨ j = 27 ∨ j = 28 ∨ j = 29 ∨ j = 30 ∨ j = 31 ∨ j = 32 ∨ j = 33 ∨ j = 34 ∨ j = 35 ∨ j = 36 ∨ j = 37 ∨ j = 38 ∨ j = 39 ∨ j = 40 ∨ j = 41 ∨ j = 42 ∨ j = 43 ∨ j = 44 ∨ j = 45 ∨ j = 46 ∨ j = 47 ∨ j = 48 ∨ j = 49 ∨ j = 50 ∨ j = 51 ∨ j = 52 ∨ j = 53 ∨ j = 54 ∨ j = 55 ∨ j = 56 ∨ j = 57 ∨ j = 58 ∨ j = 59 ∨ j = 60 ∨ j = 61 ∨ j = 62 ∨ j = 63 ∨ j = 64 ∨ j = 65 ∨ j = 66 ∨ j = 67 ∨ j = 68 ∨ j = 69 ∨ j = 70 ∨ j = 71 ∨ j = 72 ∨ j = 73 ∨ j = 74 ∨ j = 75 ∨ j = 76 ∨ j = 77 ∨ j = 78 ∨ j = 79 ∨ j = 80 ∨ j = 81 ∨ j = 82 ∨ j = 83 ∨ j = 84 ∨ j = 85 ∨ j = 86 ∨ j = 87 ∨ j = 88 ∨ j = 89 ∨ j = 90 ∨ j = 91 ∨ j = 92 ∨ j = 93 ∨ j = 94 ∨ j = 95 ∨ j = 96 ∨ j = 97 by omega) with rfl | rfl | rfl | rfl | rfl | rfl | rfl | rfl | rfl | rfl | rfl | rfl | rfl | rfl | rfl | rfl | rfl | rfl | rfl | rfl | rfl | rfl | rfl | rfl | rfl | rfl | rfl | rfl | rfl | rfl | rfl | rfl | rfl | rfl | rfl | rfl | rfl | rfl | rfl | rfl | rfl | rfl | rfl | rfl | rfl | rfl | rfl | rfl | rfl | rfl | rfl | rfl | rfl | rfl | rfl | rfl | rfl | rfl | rfl | rfl | rfl | rfl | rfl | rfl | rfl | rfl | rfl | rfl | rfl | rfl | rfl | rfl | rfl | rfl | rfl | rfl | rfl | rfl | rfl | rfl | rfl | rfl | rfl | rfl | rfl | rfl | rfl | rfl | rfl | rfl | rfl | rfl | rfl | rfl | rfl | rfl | rfl | rfl <;> rfl) (Nat.le_of_ble_eq_true rfl) (Nat.le_of_ble_eq_true rfl) dL_law_8 (fun q_3 H hP hD hS => ?_)
  refine W.widen (k := 155) (n := 167742) (Nat.le_of_ble_eq_true rfl) (Nat.le_of_ble_eq_true rfl) ?_
  have hP : va_P (dC, dI) vwCl [(q_1, .inr (11, [.ref (rx 0), .ref (rx 1), .ref (rx 2), .ref (rx 3), .ref (rx 4), .ref (rx 5), .ref (rx 6), .ref (rx 7), .ref (rx 8), .ref (rx 9), .ref (rx 10), .ref (rx 11), .ref (rx 12), .ref (rx 13), .int 1])), ((rx 0), .inr (1, [.ref (rx 14), .int 0])), ((rx 14), .inl (cI, 1600, .inl (fun _ => 0))), ((rx 1), .inr (1, [.ref (rx 15), .int 0])), ((rx 15), .inl (cI, 1024, .inl (fun _ => 0))), ((rx 5), .inr (5, [.ref (rx 16), .int 0, .int 0, .int 0])), ((rx 7), .inr (0, [.ref (rx 17), .ref (rx 18), .ref (rx 19), .ref (rx 20), .ref (rx 21), .int 0, .int 0, .int 0])), ((rx 8), .inr (8, [.ref (rx 22), .ref (rx 23), .int 0, .ref (rx 24), .int 0, .ref (rx 25)])), ((rx 9), .inl (cI, 6, .inl (fun _ => 0))), ((rx 10), .inr (9, [.ref (rx 26), .ref (rx 27), .ref (rx 28), .ref (rx 29), .ref (rx 30), .ref (rx 31), .int 0, .int 0, .int 0, .int 0, .int 0])), ((rx 26), .inr (3, [.ref (rx 32), .ref (rx 33), .ref (rx 34), .ref (rx 35), .ref (rx 36), .ref (rx 37), .ref (rx 38), .ref (rx 39), .ref (rx 40), .int 0, .int 0])), ((rx 11), .inr (9, [.ref (rx 41), .ref (rx 42), .ref (rx 43), .ref (rx 44), .ref (rx 45), .ref (rx 46), .int 0, .int 0, .int 0, .int 0, .int 0])), ((rx 41), .inr (3, [.ref (rx 47), .ref (rx 48), .ref (rx 49), .ref (rx 50), .ref (rx 51), .ref (rx 52), .ref (rx 53), .ref (rx 54), .ref (rx 55), .int 0, .int 0])), ((rx 12), .inr (6, [.ref (rx 56), .ref (rx 57), .ref (rx 10), .int 0, .int (-1)])), ((rx 56), .inr (7, [.ref (rx 58), .ref (rx 59), .int 0, .int 0, .int 0, .int 0, .int 0, .int 0, .int 0])), (q_3, .inr (12, [.null, .int 0, .int 0, .int 0, .int 0, .int 0, .int 0, .long 0, .int 0, .int 0, .int 0, .int 0, .int 0, .int 0, .null, .null, .null, .null, .null, .null, .null, .null, .null, .null, .null, .null, .null, .null, .null, .null, .null, .null, .null, .null, .null, .null, .int 0, .int 0, .int 0, .null, .null, .null, .null, .int 0, .int 0, .null, .null, .null, .null, .null, .null, .null, .int 0, .null, .null, .null, .null, .null, .null, .int 0, .int 0, .long 0, .int 0, .null, .null, .null, .int 0, .null, .null, .null, .int 0, .null, .null, .int 0, .int 0, .null, .int 0, .null, .int 0, .null, .null, .int 0, .null, .null, .null, .null, .null, .int 0, .int 0, .int 0, .int 0, .null, .int 0, .null, .null, .null, .null, .null]))] H := hP
  have hD : va_D A [(q_1, .inr (11, [.ref (rx 0), .ref (rx 1), .ref (rx 2), .ref (rx 3), .ref (rx 4), .ref (rx 5), .ref (rx 6), .ref (rx 7), .ref (rx 8), .ref (rx 9), .ref (rx 10), .ref (rx 11), .ref (rx 12), .ref (rx 13), .int 1])), ((rx 0), .inr (1, [.ref (rx 14), .int 0])), ((rx 14), .inl (cI, 1600, .inl (fun _ => 0))), ((rx 1), .inr (1, [.ref (rx 15), .int 0])), ((rx 15), .inl (cI, 1024, .inl (fun _ => 0))), ((rx 5), .inr (5, [.ref (rx 16), .int 0, .int 0, .int 0])), ((rx 7), .inr (0, [.ref (rx 17), .ref (rx 18), .ref (rx 19), .ref (rx 20), .ref (rx 21), .int 0, .int 0, .int 0])), ((rx 8), .inr (8, [.ref (rx 22), .ref (rx 23), .int 0, .ref (rx 24), .int 0, .ref (rx 25)])), ((rx 9), .inl (cI, 6, .inl (fun _ => 0))), ((rx 10), .inr (9, [.ref (rx 26), .ref (rx 27), .ref (rx 28), .ref (rx 29), .ref (rx 30), .ref (rx 31), .int 0, .int 0, .int 0, .int 0, .int 0])), ((rx 26), .inr (3, [.ref (rx 32), .ref (rx 33), .ref (rx 34), .ref (rx 35), .ref (rx 36), .ref (rx 37), .ref (rx 38), .ref (rx 39), .ref (rx 40), .int 0, .int 0])), ((rx 11), .inr (9, [.ref (rx 41), .ref (rx 42), .ref (rx 43), .ref (rx 44), .ref (rx 45), .ref (rx 46), .int 0, .int 0, .int 0, .int 0, .int 0])), ((rx 41), .inr (3, [.ref (rx 47), .ref (rx 48), .ref (rx 49), .ref (rx 50), .ref (rx 51), .ref (rx 52), .ref (rx 53), .ref (rx 54), .ref (rx 55), .int 0, .int 0])), ((rx 12), .inr (6, [.ref (rx 56), .ref (rx 57), .ref (rx 10), .int 0, .int (-1)])), ((rx 56), .inr (7, [.ref (rx 58), .ref (rx 59), .int 0, .int 0, .int 0, .int 0, .int 0, .int 0, .int 0])), (q_3, .inr (12, [.null, .int 0, .int 0, .int 0, .int 0, .int 0, .int 0, .long 0, .int 0, .int 0, .int 0, .int 0, .int 0, .int 0, .null, .null, .null, .null, .null, .null, .null, .null, .null, .null, .null, .null, .null, .null, .null, .null, .null, .null, .null, .null, .null, .null, .int 0, .int 0, .int 0, .null, .null, .null, .null, .int 0, .int 0, .null, .null, .null, .null, .null, .null, .null, .int 0, .null, .null, .null, .null, .null, .null, .int 0, .int 0, .long 0, .int 0, .null, .null, .null, .int 0, .null, .null, .null, .int 0, .null, .null, .int 0, .int 0, .null, .int 0, .null, .int 0, .null, .null, .int 0, .null, .null, .null, .null, .null, .int 0, .int 0, .int 0, .int 0, .null, .int 0, .null, .null, .null, .null, .null]))] := hD
  refine lv_dup hx hb dL_law_11 rfl ?_
  have hPc := hP.sub (ws' := [(q_3, .inr (12, [.null, .int 0, .int 0, .int 0, .int 0, .int 0, .int 0, .long 0, .int 0, .int 0, .int 0, .int 0, .int 0, .int 0, .null, .null, .null, .null, .null, .null, .null, .null, .null, .null, .null, .null, .null, .null, .null, .null, .null, .null, .null, .null, .null, .null, .int 0, .int 0, .int 0, .null, .null, .null, .null, .int 0, .int 0, .null, .null, .null, .null, .null, .null, .null, .int 0, .null, .null, .null, .null, .null, .null, .int 0, .int 0, .long 0, .int 0, .null, .null, .null, .int 0, .null, .null, .null, .int 0, .null, .null, .int 0, .int 0, .null, .int 0, .null, .int 0, .null, .null, .int 0, .null, .null, .null, .null, .null, .int 0, .int 0, .int 0, .int 0, .null, .int 0, .null, .null, .null, .null, .null]))]) [15] rfl
  have hDc := hD.sub (ws' := [(q_3, .inr (12, [.null, .int 0, .int 0, .int 0, .int 0, .int 0, .int 0, .long 0, .int 0, .int 0, .int 0, .int 0, .int 0, .int 0, .null, .null, .null, .null, .null, .null, .null, .null, .null, .null, .null, .null, .null, .null, .null, .null, .null, .null, .null, .null, .null, .null, .int 0, .int 0, .int 0, .null, .null, .null, .null, .int 0, .int 0, .null, .null, .null, .null, .null, .null, .null, .int 0, .null, .null, .null, .null, .null, .null, .int 0, .int 0, .long 0, .int 0, .null, .null, .null, .int 0, .null, .null, .null, .int 0, .null, .null, .int 0, .int 0, .null, .int 0, .null, .int 0, .null, .null, .int 0, .null, .null, .null, .null, .null, .int 0, .int 0, .int 0, .int 0, .null, .int 0, .null, .null, .null, .null, .null]))]) [15] (by decide) rfl
  have hFc := va_free (wc := [(q_3, .inr (12, [.null, .int 0, .int 0, .int 0, .int 0, .int 0, .int 0, .long 0, .int 0, .int 0, .int 0, .int 0, .int 0, .int 0, .null, .null, .null, .null, .null, .null, .null, .null, .null, .null, .null, .null, .null, .null, .null, .null, .null, .null, .null, .null, .null, .null, .int 0, .int 0, .int 0, .null, .null, .null, .null, .int 0, .int 0, .null, .null, .null, .null, .null, .null, .null, .int 0, .null, .null, .null, .null, .null, .null, .int 0, .int 0, .long 0, .int 0, .null, .null, .null, .int 0, .null, .null, .null, .int 0, .null, .null, .int 0, .int 0, .null, .int 0, .null, .int 0, .null, .null, .int 0, .null, .null, .null, .null, .null, .int 0, .int 0, .int 0, .int 0, .null, .int 0, .null, .null, .null, .null, .null]))]) hD hS hA [15] rfl
  refine va_callv (va_runI (As := []) (rest := [.ref q_3]) ⟨hx, hb, hml, hown, hts⟩ (c_X12_init l dC dI cI cJ q_3 H.size) (cwI 0 hts gL_law_X12_init rfl rfl rfl (hts (.initialized RX12) (by decide +kernel)) (hts (.methodLink RL 12 yX12_init) (by decide +kernel)) (hts (.instanceMethod yX12_init) (by decide +kernel)) rfl (by decide +kernel) ⟨Nat.le_of_ble_eq_true rfl, Nat.le_of_ble_eq_true rfl⟩) ⟨mBlind, mGo hPc hK hDc hN⟩ rfl rfl hl.1 rfl (lv_room (Nat.le_of_ble_eq_true rfl)) dL_law_12 ⟨Nat.le_of_ble_eq_true rfl, Nat.le_of_ble_eq_true rfl⟩) hS (fun q _ h => hFc q h) hFc (fun u t H1 locs ht hvm hw hB hz1 hk1 hS => ?_)
  obtain ⟨rm, og, hP1, hD1⟩ := hB
  rw [ht] at hP1
  obtain ⟨hP, hD⟩ := va_join (wr := [(q_1, .inr (11, [.ref (rx 0), .ref (rx 1), .ref (rx 2), .ref (rx 3), .ref (rx 4), .ref (rx 5), .ref (rx 6), .ref (rx 7), .ref (rx 8), .ref (rx 9), .ref (rx 10), .ref (rx 11), .ref (rx 12), .ref (rx 13), .int 1])), ((rx 0), .inr (1, [.ref (rx 14), .int 0])), ((rx 14), .inl (cI, 1600, .inl (fun _ => 0))), ((rx 1), .inr (1, [.ref (rx 15), .int 0])), ((rx 15), .inl (cI, 1024, .inl (fun _ => 0))), ((rx 5), .inr (5, [.ref (rx 16), .int 0, .int 0, .int 0])), ((rx 7), .inr (0, [.ref (rx 17), .ref (rx 18), .ref (rx 19), .ref (rx 20), .ref (rx 21), .int 0, .int 0, .int 0])), ((rx 8), .inr (8, [.ref (rx 22), .ref (rx 23), .int 0, .ref (rx 24), .int 0, .ref (rx 25)])), ((rx 9), .inl (cI, 6, .inl (fun _ => 0))), ((rx 10), .inr (9, [.ref (rx 26), .ref (rx 27), .ref (rx 28), .ref (rx 29), .ref (rx 30), .ref (rx 31), .int 0, .int 0, .int 0, .int 0, .int 0])), ((rx 26), .inr (3, [.ref (rx 32), .ref (rx 33), .ref (rx 34), .ref (rx 35), .ref (rx 36), .ref (rx 37), .ref (rx 38), .ref (rx 39), .ref (rx 40), .int 0, .int 0])), ((rx 11), .inr (9, [.ref (rx 41), .ref (rx 42), .ref (rx 43), .ref (rx 44), .ref (rx 45), .ref (rx 46), .int 0, .int 0, .int 0, .int 0, .int 0])), ((rx 41), .inr (3, [.ref (rx 47), .ref (rx 48), .ref (rx 49), .ref (rx 50), .ref (rx 51), .ref (rx 52), .ref (rx 53), .ref (rx 54), .ref (rx 55), .int 0, .int 0])), ((rx 12), .inr (6, [.ref (rx 56), .ref (rx 57), .ref (rx 10), .int 0, .int (-1)])), ((rx 56), .inr (7, [.ref (rx 58), .ref (rx 59), .int 0, .int 0, .int 0, .int 0, .int 0, .int 0, .int 0]))]) (w1 := [(q_3, .inr (12, (o12 rm))), ((rm 0), .inl (cI, 1800, .inl (fun _ => 0))), ((rm 1), .inl (cI, 2, .inl (fun _ => 0))), ((rm 4), .inl (cI, 2, .inl (fun _ => 0))), ((rm 10), .inl (cI, 2, .inl (fun _ => 0))), ((rm 12), .inl (cI, 2, .inl (fun _ => 0))), ((rm 14), .inl (cI, 2, .inl (fun _ => 0))), ((rm 15), .inl (cI, 2, .inl (fun _ => 0))), ((rm 27), .inl (cI, 6, .inl (fun _ => 0))), ((rm 34), .inl (cI, 22, .inl (fun _ => 0))), ((rm 35), .inl (cI, 264, .inl og)), ((rm 36), .inl (cI, 22, .inl (fun _ => 0))), ((rm 37), .inl (cI, 22, .inl (fun _ => 0))), ((rm 38), .inl (cI, 22, .inl (fun _ => 0))), ((rm 45), .inl (cI, 1800, .inl (fun _ => 0)))]) hP hD [15] [0, 1, 2, 3, 4, 5, 6, 7, 8, 9, 10, 11, 12, 13, 14] rfl rfl (by decide) (by decide) hk1 hFc hP1 hD1
  generalize H1 = H at hP hS ⊢
  have hP : va_P (dC, dI) vwCl [(q_1, .inr (11, [.ref (rx 0), .ref (rx 1), .ref (rx 2), .ref (rx 3), .ref (rx 4), .ref (rx 5), .ref (rx 6), .ref (rx 7), .ref (rx 8), .ref (rx 9), .ref (rx 10), .ref (rx 11), .ref (rx 12), .ref (rx 13), .int 1])), ((rx 0), .inr (1, [.ref (rx 14), .int 0])), ((rx 14), .inl (cI, 1600, .inl (fun _ => 0))), ((rx 1), .inr (1, [.ref (rx 15), .int 0])), ((rx 15), .inl (cI, 1024, .inl (fun _ => 0))), ((rx 5), .inr (5, [.ref (rx 16), .int 0, .int 0, .int 0])), ((rx 7), .inr (0, [.ref (rx 17), .ref (rx 18), .ref (rx 19), .ref (rx 20), .ref (rx 21), .int 0, .int 0, .int 0])), ((rx 8), .inr (8, [.ref (rx 22), .ref (rx 23), .int 0, .ref (rx 24), .int 0, .ref (rx 25)])), ((rx 9), .inl (cI, 6, .inl (fun _ => 0))), ((rx 10), .inr (9, [.ref (rx 26), .ref (rx 27), .ref (rx 28), .ref (rx 29), .ref (rx 30), .ref (rx 31), .int 0, .int 0, .int 0, .int 0, .int 0])), ((rx 26), .inr (3, [.ref (rx 32), .ref (rx 33), .ref (rx 34), .ref (rx 35), .ref (rx 36), .ref (rx 37), .ref (rx 38), .ref (rx 39), .ref (rx 40), .int 0, .int 0])), ((rx 11), .inr (9, [.ref (rx 41), .ref (rx 42), .ref (rx 43), .ref (rx 44), .ref (rx 45), .ref (rx 46), .int 0, .int 0, .int 0, .int 0, .int 0])), ((rx 41), .inr (3, [.ref (rx 47), .ref (rx 48), .ref (rx 49), .ref (rx 50), .ref (rx 51), .ref (rx 52), .ref (rx 53), .ref (rx 54), .ref (rx 55), .int 0, .int 0])), ((rx 12), .inr (6, [.ref (rx 56), .ref (rx 57), .ref (rx 10), .int 0, .int (-1)])), ((rx 56), .inr (7, [.ref (rx 58), .ref (rx 59), .int 0, .int 0, .int 0, .int 0, .int 0, .int 0, .int 0])), (q_3, .inr (12, (o12 rm))), ((rm 0), .inl (cI, 1800, .inl (fun _ => 0))), ((rm 1), .inl (cI, 2, .inl (fun _ => 0))), ((rm 4), .inl (cI, 2, .inl (fun _ => 0))), ((rm 10), .inl (cI, 2, .inl (fun _ => 0))), ((rm 12), .inl (cI, 2, .inl (fun _ => 0))), ((rm 14), .inl (cI, 2, .inl (fun _ => 0))), ((rm 15), .inl (cI, 2, .inl (fun _ => 0))), ((rm 27), .inl (cI, 6, .inl (fun _ => 0))), ((rm 34), .inl (cI, 22, .inl (fun _ => 0))), ((rm 35), .inl (cI, 264, .inl og)), ((rm 36), .inl (cI, 22, .inl (fun _ => 0))), ((rm 37), .inl (cI, 22, .inl (fun _ => 0))), ((rm 38), .inl (cI, 22, .inl (fun _ => 0))), ((rm 45), .inl (cI, 1800, .inl (fun _ => 0)))] H := hP
  have hD : va_D A [(q_1, .inr (11, [.ref (rx 0), .ref (rx 1), .ref (rx 2), .ref (rx 3), .ref (rx 4), .ref (rx 5), .ref (rx 6), .ref (rx 7), .ref (rx 8), .ref (rx 9), .ref (rx 10), .ref (rx 11), .ref (rx 12), .ref (rx 13), .int 1])), ((rx 0), .inr (1, [.ref (rx 14), .int 0])), ((rx 14), .inl (cI, 1600, .inl (fun _ => 0))), ((rx 1), .inr (1, [.ref (rx 15), .int 0])), ((rx 15), .inl (cI, 1024, .inl (fun _ => 0))), ((rx 5), .inr (5, [.ref (rx 16), .int 0, .int 0, .int 0])), ((rx 7), .inr (0, [.ref (rx 17), .ref (rx 18), .ref (rx 19), .ref (rx 20), .ref (rx 21), .int 0, .int 0, .int 0])), ((rx 8), .inr (8, [.ref (rx 22), .ref (rx 23), .int 0, .ref (rx 24), .int 0, .ref (rx 25)])), ((rx 9), .inl (cI, 6, .inl (fun _ => 0))), ((rx 10), .inr (9, [.ref (rx 26), .ref (rx 27), .ref (rx 28), .ref (rx 29), .ref (rx 30), .ref (rx 31), .int 0, .int 0, .int 0, .int 0, .int 0])), ((rx 26), .inr (3, [.ref (rx 32), .ref (rx 33), .ref (rx 34), .ref (rx 35), .ref (rx 36), .ref (rx 37), .ref (rx 38), .ref (rx 39), .ref (rx 40), .int 0, .int 0])), ((rx 11), .inr (9, [.ref (rx 41), .ref (rx 42), .ref (rx 43), .ref (rx 44), .ref (rx 45), .ref (rx 46), .int 0, .int 0, .int 0, .int 0, .int 0])), ((rx 41), .inr (3, [.ref (rx 47), .ref (rx 48), .ref (rx 49), .ref (rx 50), .ref (rx 51), .ref (rx 52), .ref (rx 53), .ref (rx 54), .ref (rx 55), .int 0, .int 0])), ((rx 12), .inr (6, [.ref (rx 56), .ref (rx 57), .ref (rx 10), .int 0, .int (-1)])), ((rx 56), .inr (7, [.ref (rx 58), .ref (rx 59), .int 0, .int 0, .int 0, .int 0, .int 0, .int 0, .int 0])), (q_3, .inr (12, (o12 rm))), ((rm 0), .inl (cI, 1800, .inl (fun _ => 0))), ((rm 1), .inl (cI, 2, .inl (fun _ => 0))), ((rm 4), .inl (cI, 2, .inl (fun _ => 0))), ((rm 10), .inl (cI, 2, .inl (fun _ => 0))), ((rm 12), .inl (cI, 2, .inl (fun _ => 0))), ((rm 14), .inl (cI, 2, .inl (fun _ => 0))), ((rm 15), .inl (cI, 2, .inl (fun _ => 0))), ((rm 27), .inl (cI, 6, .inl (fun _ => 0))), ((rm 34), .inl (cI, 22, .inl (fun _ => 0))), ((rm 35), .inl (cI, 264, .inl og)), ((rm 36), .inl (cI, 22, .inl (fun _ => 0))), ((rm 37), .inl (cI, 22, .inl (fun _ => 0))), ((rm 38), .inl (cI, 22, .inl (fun _ => 0))), ((rm 45), .inl (cI, 1800, .inl (fun _ => 0)))] := hD
  refine W.widen (k := 218) (n := 493037) (Nat.le_of_ble_eq_true rfl) (Nat.le_of_ble_eq_true rfl) ?_
  refine lv_astore_n (lv' := [(2, .ref q_3), (1, .ref q_1), (0, .ref b)]) hx hb dL_law_15 rfl hl (by decide) rfl (fun ls hl => ?_)
  refine lv_iconst (v := 0) hx hb dL_law_16 (by decide) ?_
  refine lv_istore_n (lv' := [(3, .int 0), (2, .ref q_3), (1, .ref q_1), (0, .ref b)]) hx hb dL_law_17 rfl hl (by decide) rfl (fun ls hl => ?_)
  refine W.widen (k := 600000) (n := 7302250) (Nat.le_of_ble_eq_true rfl) (Nat.le_of_ble_eq_true rfl) ?_
  have hl := lv_sub hl (l' := [(0, .ref b), (1, .ref q_1), (2, .ref q_3), (3, .int 0)]) [3, 2, 1, 0] rfl
  rcases (show L = 0 ∨ L = 1 ∨ L = 2 ∨ L = 3 ∨ L = 4 ∨ L = 5 ∨ L = 6 by omega) with rfl | rfl | rfl | rfl | rfl | rfl | rfl
  · refine lv_iload_n hx hb dL_law_18 rfl (lv_at hl 3 rfl) ?_
    refine lv_aload_n hx hb dL_law_19 rfl (lv_at hl 0 rfl) ?_
    refine va_slen hx hb hX hbl hbA hS dL_law_20 ?_
    refine lv_bipush (v := 6) hx hb dL_law_21 (by decide) ?_
    refine k_isub (v := (-6)) hx hb (by decide) dL_law_23 ?_
    refine lv_icmp_gt (tgt := 1099) hx hb dL_law_24 (by decide) (fun _ => ?_) (fun c => absurd (by decide) c)
    refine lv_iconst (v := 1) hx hb dL_law_1099 (by decide) ?_
    refine va_forget (fun q hq => hAz _ (hS.2.2 q hq)) ?_
    exact lw_ret hx hb hr hlocks dL_law_1100
  · refine lv_iload_n hx hb dL_law_18 rfl (lv_at hl 3 rfl) ?_
    refine lv_aload_n hx hb dL_law_19 rfl (lv_at hl 0 rfl) ?_
    refine va_slen hx hb hX hbl hbA hS dL_law_20 ?_
    refine lv_bipush (v := 6) hx hb dL_law_21 (by decide) ?_
    refine k_isub (v := (-5)) hx hb (by decide) dL_law_23 ?_
    refine lv_icmp_gt (tgt := 1099) hx hb dL_law_24 (by decide) (fun _ => ?_) (fun c => absurd (by decide) c)
    refine lv_iconst (v := 1) hx hb dL_law_1099 (by decide) ?_
    refine va_forget (fun q hq => hAz _ (hS.2.2 q hq)) ?_
    exact lw_ret hx hb hr hlocks dL_law_1100
  · refine lv_iload_n hx hb dL_law_18 rfl (lv_at hl 3 rfl) ?_
    refine lv_aload_n hx hb dL_law_19 rfl (lv_at hl 0 rfl) ?_
    refine va_slen hx hb hX hbl hbA hS dL_law_20 ?_
    refine lv_bipush (v := 6) hx hb dL_law_21 (by decide) ?_
    refine k_isub (v := (-4)) hx hb (by decide) dL_law_23 ?_
    refine lv_icmp_gt (tgt := 1099) hx hb dL_law_24 (by decide) (fun _ => ?_) (fun c => absurd (by decide) c)
    refine lv_iconst (v := 1) hx hb dL_law_1099 (by decide) ?_
    refine va_forget (fun q hq => hAz _ (hS.2.2 q hq)) ?_
    exact lw_ret hx hb hr hlocks dL_law_1100
  · refine lv_iload_n hx hb dL_law_18 rfl (lv_at hl 3 rfl) ?_
    refine lv_aload_n hx hb dL_law_19 rfl (lv_at hl 0 rfl) ?_
    refine va_slen hx hb hX hbl hbA hS dL_law_20 ?_
    refine lv_bipush (v := 6) hx hb dL_law_21 (by decide) ?_
    refine k_isub (v := (-3)) hx hb (by decide) dL_law_23 ?_
    refine lv_icmp_gt (tgt := 1099) hx hb dL_law_24 (by decide) (fun _ => ?_) (fun c => absurd (by decide) c)
    refine lv_iconst (v := 1) hx hb dL_law_1099 (by decide) ?_
    refine va_forget (fun q hq => hAz _ (hS.2.2 q hq)) ?_
    exact lw_ret hx hb hr hlocks dL_law_1100
  · refine lv_iload_n hx hb dL_law_18 rfl (lv_at hl 3 rfl) ?_
    refine lv_aload_n hx hb dL_law_19 rfl (lv_at hl 0 rfl) ?_
    refine va_slen hx hb hX hbl hbA hS dL_law_20 ?_
    refine lv_bipush (v := 6) hx hb dL_law_21 (by decide) ?_
    refine k_isub (v := (-2)) hx hb (by decide) dL_law_23 ?_
    refine lv_icmp_gt (tgt := 1099) hx hb dL_law_24 (by decide) (fun _ => ?_) (fun c => absurd (by decide) c)
    refine lv_iconst (v := 1) hx hb dL_law_1099 (by decide) ?_
    refine va_forget (fun q hq => hAz _ (hS.2.2 q hq)) ?_
    exact lw_ret hx hb hr hlocks dL_law_1100
  · refine lv_iload_n hx hb dL_law_18 rfl (lv_at hl 3 rfl) ?_
    refine lv_aload_n hx hb dL_law_19 rfl (lv_at hl 0 rfl) ?_
    refine va_slen hx hb hX hbl hbA hS dL_law_20 ?_
    refine lv_bipush (v := 6) hx hb dL_law_21 (by decide) ?_
    refine k_isub (v := (-1)) hx hb (by decide) dL_law_23 ?_
    refine lv_icmp_gt (tgt := 1099) hx hb dL_law_24 (by decide) (fun _ => ?_) (fun c => absurd (by decide) c)
    refine lv_iconst (v := 1) hx hb dL_law_1099 (by decide) ?_
    refine va_forget (fun q hq => hAz _ (hS.2.2 q hq)) ?_
    exact lw_ret hx hb hr hlocks dL_law_1100
  · refine lv_iload_n hx hb dL_law_18 rfl (lv_at hl 3 rfl) ?_
    refine lv_aload_n hx hb dL_law_19 rfl (lv_at hl 0 rfl) ?_
    refine va_slen hx hb hX hbl hbA hS dL_law_20 ?_
    refine lv_bipush (v := 6) hx hb dL_law_21 (by decide) ?_
    refine k_isub (v := 0) hx hb (by decide) dL_law_23 ?_
    refine lv_icmp_gt (tgt := 1099) hx hb dL_law_24 (by decide) (fun c => absurd c (by decide)) (fun _ => ?_)
    refine lv_aload_n hx hb dL_law_27 rfl (lv_at hl 0 rfl) ?_
    refine lv_iload_n hx hb dL_law_28 rfl (lv_at hl 3 rfl) ?_
    refine va_sld hx hb hX hbl hbA hS (vpd (by decide)) dL_law_29 ?_
    refine lv_bipush (v := 63) hx hb dL_law_30 (by decide) ?_
    obtain ⟨j, hj, ej⟩ := pk_andE (xs (0 : Int32).toNatClampNeg) (m := 63) 6 (by decide)
    refine k_iand (v := nI j) hx hb ej dL_law_32 ?_
    have hj : j < 64 := hj
    rcases Nat.lt_or_ge j 35 with hj2 | hj2
    · rcases (show j = 0 ∨ j = 1 ∨ j = 2 ∨ j = 3 ∨ j = 4 ∨ j = 5 ∨ j = 6 ∨ j = 7 ∨ j = 8 ∨ j = 9 ∨ j = 10 ∨ j = 11 ∨ j = 12 ∨ j = 13 ∨ j = 14 ∨ j = 15 ∨ j = 16 ∨ j = 17 ∨ j = 18 ∨ j = 19 ∨ j = 20 ∨ j = 21 ∨ j = 22 ∨ j = 23 ∨ j = 24 ∨ j = 25 ∨ j = 26 ∨ j = 27 ∨ j = 28 ∨ j = 29 ∨ j = 30 ∨ j = 31 ∨ j = 32 ∨ j = 33 ∨ j = 34 by omega) with rfl | rfl | rfl | rfl | rfl | rfl | rfl | rfl | rfl | rfl | rfl | rfl | rfl | rfl | rfl | rfl | rfl | rfl | rfl | rfl | rfl | rfl | rfl | rfl | rfl | rfl | rfl | rfl | rfl | rfl | rfl | rfl | rfl | rfl | rfl
      · refine lv_tableIn (tgt := 188) (off := 155) hx hb dL_law_33 (by decide) (by decide) (by decide) (by decide) ?_
        exact law_0 hx hb hr hml hown hts hX hbl hlocks hA hAz hbA hK hN hP hD hS hl
      · refine lv_tableIn (tgt := 251) (off := 218) hx hb dL_law_33 (by decide) (by decide) (by decide) (by decide) ?_
        exact law_1 hx hb hr hml hown hts hX hbl hlocks hA hAz hbA hK hN hP hD hS hl
      · refine lv_tableIn (tgt := 274) (off := 241) hx hb dL_law_33 (by decide) (by decide) (by decide) (by decide) ?_
        exact law_2 hx hb hr hml hown hts hX hbl hlocks hA hAz hbA hK hN hP hD hS hl
      · refine lv_tableIn (tgt := 287) (off := 254) hx hb dL_law_33 (by decide) (by decide) (by decide) (by decide) ?_
        exact law_3 hx hb hr hml hown hts hX hbl hlocks hA hAz hbA hK hN hP hD hS hl
      · refine lv_tableIn (tgt := 310) (off := 277) hx hb dL_law_33 (by decide) (by decide) (by decide) (by decide) ?_
        exact law_4 hx hb hr hml hown hts hX hbl hlocks hA hAz hbA hK hN hP hD hS hl
      · refine lv_tableIn (tgt := 333) (off := 300) hx hb dL_law_33 (by decide) (by decide) (by decide) (by decide) ?_
        exact law_5 hx hb hr hml hown hts hX hbl hlocks hA hAz hbA hK hN hP hD hS hl
      · refine lv_tableIn (tgt := 376) (off := 343) hx hb dL_law_33 (by decide) (by decide) (by decide) (by decide) ?_
        exact law_6 hx hb hr hml hown hts hX hbl hlocks hA hAz hbA hK hN hP hD hS hl
      · refine lv_tableIn (tgt := 399) (off := 366) hx hb dL_law_33 (by decide) (by decide) (by decide) (by decide) ?_
        exact law_7 hx hb hr hml hown hts hX hbl hlocks hA hAz hbA hK hN hP hD hS hl
      · refine lv_tableIn (tgt := 432) (off := 399) hx hb dL_law_33 (by decide) (by decide) (by decide) (by decide) ?_
        exact law_8 hx hb hr hml hown hts hX hbl hlocks hA hAz hbA hK hN hP hD hS hl
      · refine lv_tableIn (tgt := 475) (off := 442) hx hb dL_law_33 (by decide) (by decide) (by decide) (by decide) ?_
        exact law_9 hx hb hr hml hown hts hX hbl hlocks hA hAz hbA hK hN hP hD hS hl
      · refine lv_tableIn (tgt := 508) (off := 475) hx hb dL_law_33 (by decide) (by decide) (by decide) (by decide) ?_
        exact law_10 hx hb hr hml hown hts hX hbl hlocks hA hAz hbA hK hN hP hD hS hl
      · refine lv_tableIn (tgt := 531) (off := 498) hx hb dL_law_33 (by decide) (by decide) (by decide) (by decide) ?_
        exact law_11 hx hb hr hml hown hts hX hbl hlocks hA hAz hbA hK hN hP hD hS hl
      · refine lv_tableIn (tgt := 554) (off := 521) hx hb dL_law_33 (by decide) (by decide) (by decide) (by decide) ?_
        exact law_12 hx hb hr hml hown hts hX hbl hlocks hA hAz hbA hK hN hP hD hS hl
      · refine lv_tableIn (tgt := 567) (off := 534) hx hb dL_law_33 (by decide) (by decide) (by decide) (by decide) ?_
        exact law_13 hx hb hr hml hown hts hX hbl hlocks hA hAz hbA hK hN hP hD hS hl
      · refine lv_tableIn (tgt := 590) (off := 557) hx hb dL_law_33 (by decide) (by decide) (by decide) (by decide) ?_
        exact law_14 hx hb hr hml hown hts hX hbl hlocks hA hAz hbA hK hN hP hD hS hl
      · refine lv_tableIn (tgt := 613) (off := 580) hx hb dL_law_33 (by decide) (by decide) (by decide) (by decide) ?_
        exact law_15 hx hb hr hml hown hts hX hbl hlocks hA hAz hbA hK hN hP hD hS hl
      · refine lv_tableIn (tgt := 646) (off := 613) hx hb dL_law_33 (by decide) (by decide) (by decide) (by decide) ?_
        exact law_16 hx hb hr hml hown hts hX hbl hlocks hA hAz hbA hK hN hP hD hS hl
      · refine lv_tableIn (tgt := 669) (off := 636) hx hb dL_law_33 (by decide) (by decide) (by decide) (by decide) ?_
        exact law_17 hx hb hr hml hown hts hX hbl hlocks hA hAz hbA hK hN hP hD hS hl
      · refine lv_tableIn (tgt := 712) (off := 679) hx hb dL_law_33 (by decide) (by decide) (by decide) (by decide) ?_
        exact law_18 hx hb hr hml hown hts hX hbl hlocks hA hAz hbA hK hN hP hD hS hl
      · refine lv_tableIn (tgt := 745) (off := 712) hx hb dL_law_33 (by decide) (by decide) (by decide) (by decide) ?_
        exact law_19 hx hb hr hml hown hts hX hbl hlocks hA hAz hbA hK hN hP hD hS hl
      · refine lv_tableIn (tgt := 768) (off := 735) hx hb dL_law_33 (by decide) (by decide) (by decide) (by decide) ?_
        exact law_20 hx hb hr hml hown hts hX hbl hlocks hA hAz hbA hK hN hP hD hS hl
      · refine lv_tableIn (tgt := 781) (off := 748) hx hb dL_law_33 (by decide) (by decide) (by decide) (by decide) ?_
        exact law_21 hx hb hr hml hown hts hX hbl hlocks hA hAz hbA hK hN hP hD hS hl
      · refine lv_tableIn (tgt := 804) (off := 771) hx hb dL_law_33 (by decide) (by decide) (by decide) (by decide) ?_
        exact law_22 hx hb hr hml hown hts hX hbl hlocks hA hAz hbA hK hN hP hD hS hl
      · refine lv_tableIn (tgt := 827) (off := 794) hx hb dL_law_33 (by decide) (by decide) (by decide) (by decide) ?_
        exact law_23 hx hb hr hml hown hts hX hbl hlocks hA hAz hbA hK hN hP hD hS hl
      · refine lv_tableIn (tgt := 850) (off := 817) hx hb dL_law_33 (by decide) (by decide) (by decide) (by decide) ?_
        exact law_24 hx hb hr hml hown hts hX hbl hlocks hA hAz hbA hK hN hP hD hS hl
      · refine lv_tableIn (tgt := 873) (off := 840) hx hb dL_law_33 (by decide) (by decide) (by decide) (by decide) ?_
        exact law_25 hx hb hr hml hown hts hX hbl hlocks hA hAz hbA hK hN hP hD hS hl
      · refine lv_tableIn (tgt := 906) (off := 873) hx hb dL_law_33 (by decide) (by decide) (by decide) (by decide) ?_
        exact law_26 hx hb hr hml hown hts hX hbl hlocks hA hAz hbA hK hN hP hD hS hl
      · refine lv_tableIn (tgt := 929) (off := 896) hx hb dL_law_33 (by decide) (by decide) (by decide) (by decide) ?_
        exact law_27 hx hb hr hml hown hts hX hbl hlocks hA hAz hbA hK hN hP hD hS hl
      · refine lv_tableIn (tgt := 952) (off := 919) hx hb dL_law_33 (by decide) (by decide) (by decide) (by decide) ?_
        exact law_28 hx hb hr hml hown hts hX hbl hlocks hA hAz hbA hK hN hP hD hS hl
      · refine lv_tableIn (tgt := 975) (off := 942) hx hb dL_law_33 (by decide) (by decide) (by decide) (by decide) ?_
        exact law_29 hx hb hr hml hown hts hX hbl hlocks hA hAz hbA hK hN hP hD hS hl
      · refine lv_tableIn (tgt := 988) (off := 955) hx hb dL_law_33 (by decide) (by decide) (by decide) (by decide) ?_
        exact law_30 hx hb hr hml hown hts hX hbl hlocks hA hAz hbA hK hN hP hD hS hl
      · refine lv_tableIn (tgt := 1011) (off := 978) hx hb dL_law_33 (by decide) (by decide) (by decide) (by decide) ?_
        exact law_31 hx hb hr hml hown hts hX hbl hlocks hA hAz hbA hK hN hP hD hS hl
      · refine lv_tableIn (tgt := 1044) (off := 1011) hx hb dL_law_33 (by decide) (by decide) (by decide) (by decide) ?_
        exact law_32 hx hb hr hml hown hts hX hbl hlocks hA hAz hbA hK hN hP hD hS hl
      · refine lv_tableIn (tgt := 1057) (off := 1024) hx hb dL_law_33 (by decide) (by decide) (by decide) (by decide) ?_
        exact law_33 hx hb hr hml hown hts hX hbl hlocks hA hAz hbA hK hN hP hD hS hl
      · refine lv_tableIn (tgt := 1070) (off := 1037) hx hb dL_law_33 (by decide) (by decide) (by decide) (by decide) ?_
        exact law_34 hx hb hr hml hown hts hX hbl hlocks hA hAz hbA hK hN hP hD hS hl
    · refine lv_tableOut (tgt := 1093) hx hb dL_law_33 (Or.inr (by rw [nI_toInt (by omega)]; omega)) (by decide) ?_
      exact law_tail hx hb hr hml hX hbl hlocks hAz hbA hS (lv_sub hl [0, 3] rfl)
