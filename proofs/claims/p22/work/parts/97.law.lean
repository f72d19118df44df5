/-! The law: its cases, its loop. -/
theorem nI_ad2 (a k : Nat) : nI a + nI k = nI (a + k) := (Int32.ofNat_add a k).symm
theorem gv_xz {ad : Nat → Nat} (x : Int32) : gv ad (xz x) = .int x := by show Value.int (Int32.ofInt x.toInt) = _; rw [Int32.ofInt_toInt]
theorem pt_kept {S : WS} {G : GT} {P : PH} {H H1 : Heap} (h : ptG S G P H) (hk : ∀ q, q < H.size → AA S G q → H1[q]? = H[q]?) : ptG S G P H1 := by
  refine va_P.kept h (fun k x hx => hk x.1 ((h k x hx).lt) ?_)
  have hlt : k < S.1 := by have := (List.getElem?_eq_some_iff.mp hx).1; rw [WL_len] at this; exact this
  rw [WL_get hlt] at hx
  exact ⟨k, hlt, by rw [← Option.some.inj hx]⟩
/-- what stays while the law runs -/
def LF (p : Program) (l : Launch) (s : State) (m : MethodId) (meth : Method) (c : Code) (b L : Nat) (xs : Nat → Int32) (dC : Nat → ClassId) (dI : Nat → Nat → Nat) (K : Nat → ClassId) (aX aM : Nat → Nat) : Prop :=
  p.tables.exec = Jvm.exec ∧ c.code = code ∧ c.maxLocals = 4 ∧ s.vm.findClass "MatchTreesLaw" = some m.cls ∧ (∀ w ∈ WT, w.before #[Value.ref b] s = true) ∧ va_X b L xs s s.heap ∧ b < s.heap.size ∧ L ≤ 3072 ∧ meth.sig.returnType = ret ∧ meth.locks = false ∧ kG WSX (l, dC, dI, K, aX) s ∧ kG WSM (l, dC, dI, K, aM) s ∧ injG WSX (l, dC, dI, K, aX) ∧ injG WSM (l, dC, dI, K, aM) ∧ (∀ q, AA WSX (l, dC, dI, K, aX) q → s.heap.size ≤ q) ∧ (∀ q, AA WSM (l, dC, dI, K, aM) q → s.heap.size ≤ q) ∧ (∀ q, AA WSX (l, dC, dI, K, aX) q → ¬ AA WSM (l, dC, dI, K, aM) q)
set_option maxHeartbeats 4000000 in
set_option maxRecDepth 100000 in
/-- feed -/
theorem law_0 {p : Program} {l : Launch} {e : Env} {s : State} {m : MethodId} {below : List Frame} {meth : Method} {c : Code} {dC : Nat → ClassId} {dI : Nat → Nat → Nat} {K : Nat → ClassId} {aX aM : Nat → Nat} {b L : Nat} {xs : Nat → Int32} {H : Heap} {locs : List Loc} {PX PM : PH} {ls : Array Slot} {i k : Nat} (C : LF p l s m meth c b L xs dC dI K aX aM) (hiL : i + 6 ≤ L) (hk : k ≤ 512) (ptX : ptG WSX (l, dC, dI, K, aX) PX H) (ptM : ptG WSM (l, dC, dI, K, aM) PM H) (hBX : BdX PX) (hIM : IM k PM) (hOX : OWN PX) (hTL : (∃ (T1 : TT) (K1 M1 A1 : PH), WFT (k : Int) K1 M1 A1 ∧ SXT T1 K1 M1 A1 PX ∧ SMT T1 K1 M1 A1 PM)) (hS : va_S (fun q => s.heap.size ≤ q) s.heap H locs) (hl : lv_has ls 4 [(3, .int (nI i)), (2, .ref (aM 0)), (1, .ref (aX 0)), (0, .ref b)]) (kk : ∀ (H : Heap) (locs : List Loc) (PX PM : PH), ptG WSX (l, dC, dI, K, aX) PX H → ptG WSM (l, dC, dI, K, aM) PM H → BdX PX → IM (k + 1) PM → OWN PX → (∃ (T1 : TT) (K1 M1 A1 : PH), WFT ((k + 1 : Nat) : Int) K1 M1 A1 ∧ SXT T1 K1 M1 A1 PX ∧ SMT T1 K1 M1 A1 PM) → va_S (fun q => s.heap.size ≤ q) s.heap H locs → W p l e room_1 s m #[Value.ref b] below meth c H locs 600000 7302250 (lw_Z below #[Value.ref b] s) (F0 m 1093 ls [])) : W p l e room_1 s m #[Value.ref b] below meth c H locs 600000 7302250 (lw_Z below #[Value.ref b] s) (F0 m 188 ls []) := by
  obtain ⟨T1, K1, M1, A1, hW, hTX, hTM⟩ := hTL
  obtain ⟨hx, hb, hml, hown, hts, hXs, hbl, hL, hr, hlk, hKX, hKM, hiX, hiM, hAX, hAM, hdis⟩ := C
  have hbA : ¬ (fun q => s.heap.size ≤ q) b := Nat.not_le.mpr hbl
  refine lv_aload_n hx hb dL_law_188 rfl (lv_at hl 2 rfl) ?_
  refine lv_aload_n hx hb dL_law_189 rfl (lv_at hl 3 rfl) ?_
  refine lv_iload_n hx hb dL_law_190 rfl (lv_at hl 0 rfl) ?_
  refine lv_iconst (v := 1) hx hb dL_law_191 (by decide) ?_
  refine k_iadd (v := nI (i + 1)) hx hb (nI_ad2 i 1) dL_law_192 ?_
  refine va_sld hx hb hXs hbl hbA hS (vp_in_nI (by omega) (by omega)) dL_law_193 ?_
  refine lv_aload_n hx hb dL_law_194 rfl (lv_at hl 3 rfl) ?_
  refine lv_iload_n hx hb dL_law_195 rfl (lv_at hl 0 rfl) ?_
  refine lv_iconst (v := 2) hx hb dL_law_196 (by decide) ?_
  refine k_iadd (v := nI (i + 2)) hx hb (nI_ad2 i 2) dL_law_197 ?_
  refine va_sld hx hb hXs hbl hbA hS (vp_in_nI (by omega) (by omega)) dL_law_198 ?_
  refine lv_aload_n hx hb dL_law_199 rfl (lv_at hl 3 rfl) ?_
  refine lv_iload_n hx hb dL_law_200 rfl (lv_at hl 0 rfl) ?_
  refine lv_iconst (v := 3) hx hb dL_law_201 (by decide) ?_
  refine k_iadd (v := nI (i + 3)) hx hb (nI_ad2 i 3) dL_law_202 ?_
  refine va_sld hx hb hXs hbl hbA hS (vp_in_nI (by omega) (by omega)) dL_law_203 ?_
  refine lv_aload_n hx hb dL_law_204 rfl (lv_at hl 3 rfl) ?_
  refine lv_iload_n hx hb dL_law_205 rfl (lv_at hl 0 rfl) ?_
  refine lv_iconst (v := 4) hx hb dL_law_206 (by decide) ?_
  refine k_iadd (v := nI (i + 4)) hx hb (nI_ad2 i 4) dL_law_207 ?_
  refine va_sld hx hb hXs hbl hbA hS (vp_in_nI (by omega) (by omega)) dL_law_208 ?_
  refine lv_aload_n hx hb dL_law_209 rfl (lv_at hl 3 rfl) ?_
  refine lv_iload_n hx hb dL_law_210 rfl (lv_at hl 0 rfl) ?_
  refine lv_iconst (v := 5) hx hb dL_law_211 (by decide) ?_
  refine k_iadd (v := nI (i + 5)) hx hb (nI_ad2 i 5) dL_law_212 ?_
  refine va_sld hx hb hXs hbl hbA hS (vp_in_nI (by omega) (by omega)) dL_law_213 ?_
  refine cw_call (S := WSX) (G := (l, dC, dI, K, aX)) (P := PX) (av := [xz (xs (nI (i + 1)).toNatClampNeg), xz (xs (nI (i + 2)).toNatClampNeg), xz (xs (nI (i + 3)).toNatClampNeg), xz (xs (nI (i + 4)).toNatClampNeg), xz (xs (nI (i + 5)).toNatClampNeg)]) (o := 0) (rest := []) (j := iX11_feed) (n := 5) hx hb hml hown hts hl.1 hKX hiX ptX hS hAX (wX_feed (l, dC, dI, K, aX) PX k hk _ _ _ _ _ T1 K1 M1 A1 hW hTM.2.1.an hBX hOX hTX) cf_X11_feed t_659 rfl (by decide) rfl rfl rfl (Nat.le_of_ble_eq_true rfl) (Nat.le_of_ble_eq_true rfl) (Nat.le_of_ble_eq_true rfl) (by simp only [List.map_cons, List.map_nil, gv_xz]; rfl) dL_law_214 (fun v1 P1 H1 locs1 hq1 pt1 hS1 hz1 hk1 => ?_) (Nat.le_refl _) (Nat.le_refl _)
  obtain ⟨⟨r1, rfl, hr1, hp1⟩, hc1, hO1, hI1⟩ := hq1
  have ptN := pt_kept ptM (fun q hq1 hq2 => hk1 q hq1 (fun h => hdis q h hq2))
  refine W.eq (g2 := F0 m 217 ls [.int (Int32.ofInt r1)]) rfl ?_
  refine lv_pop hx hb dL_law_217 rfl ?_
  refine lv_aload_n hx hb dL_law_218 rfl (lv_at hl 1 rfl) ?_
  refine lv_aload_n hx hb dL_law_219 rfl (lv_at hl 3 rfl) ?_
  refine lv_iload_n hx hb dL_law_220 rfl (lv_at hl 0 rfl) ?_
  refine lv_iconst (v := 1) hx hb dL_law_221 (by decide) ?_
  refine k_iadd (v := nI (i + 1)) hx hb (nI_ad2 i 1) dL_law_222 ?_
  refine va_sld hx hb hXs hbl hbA hS1 (vp_in_nI (by omega) (by omega)) dL_law_223 ?_
  refine lv_aload_n hx hb dL_law_224 rfl (lv_at hl 3 rfl) ?_
  refine lv_iload_n hx hb dL_law_225 rfl (lv_at hl 0 rfl) ?_
  refine lv_iconst (v := 2) hx hb dL_law_226 (by decide) ?_
  refine k_iadd (v := nI (i + 2)) hx hb (nI_ad2 i 2) dL_law_227 ?_
  refine va_sld hx hb hXs hbl hbA hS1 (vp_in_nI (by omega) (by omega)) dL_law_228 ?_
  refine lv_aload_n hx hb dL_law_229 rfl (lv_at hl 3 rfl) ?_
  refine lv_iload_n hx hb dL_law_230 rfl (lv_at hl 0 rfl) ?_
  refine lv_iconst (v := 3) hx hb dL_law_231 (by decide) ?_
  refine k_iadd (v := nI (i + 3)) hx hb (nI_ad2 i 3) dL_law_232 ?_
  refine va_sld hx hb hXs hbl hbA hS1 (vp_in_nI (by omega) (by omega)) dL_law_233 ?_
  refine lv_aload_n hx hb dL_law_234 rfl (lv_at hl 3 rfl) ?_
  refine lv_iload_n hx hb dL_law_235 rfl (lv_at hl 0 rfl) ?_
  refine lv_iconst (v := 4) hx hb dL_law_236 (by decide) ?_
  refine k_iadd (v := nI (i + 4)) hx hb (nI_ad2 i 4) dL_law_237 ?_
  refine va_sld hx hb hXs hbl hbA hS1 (vp_in_nI (by omega) (by omega)) dL_law_238 ?_
  refine lv_aload_n hx hb dL_law_239 rfl (lv_at hl 3 rfl) ?_
  refine lv_iload_n hx hb dL_law_240 rfl (lv_at hl 0 rfl) ?_
  refine lv_iconst (v := 5) hx hb dL_law_241 (by decide) ?_
  refine k_iadd (v := nI (i + 5)) hx hb (nI_ad2 i 5) dL_law_242 ?_
  refine va_sld hx hb hXs hbl hbA hS1 (vp_in_nI (by omega) (by omega)) dL_law_243 ?_
  refine cw_call (S := WSM) (G := (l, dC, dI, K, aM)) (P := PM) (av := [xz (xs (nI (i + 1)).toNatClampNeg), xz (xs (nI (i + 2)).toNatClampNeg), xz (xs (nI (i + 3)).toNatClampNeg), xz (xs (nI (i + 4)).toNatClampNeg), xz (xs (nI (i + 5)).toNatClampNeg)]) (o := 0) (rest := []) (j := iX12_feed) (n := 5) hx hb hml hown hts hl.1 hKM hiM ptN hS1 hAM (wM_feed (l, dC, dI, K, aM) PM k hk _ _ _ _ _ T1 K1 M1 A1 hW hIM hTM) cf_X12_feed t_1663 rfl (by decide) rfl rfl rfl (Nat.le_of_ble_eq_true rfl) (Nat.le_of_ble_eq_true rfl) (Nat.le_of_ble_eq_true rfl) (by simp only [List.map_cons, List.map_nil, gv_xz]; rfl) dL_law_244 (fun v2 P2 H2 locs2 hq2 pt2 hS2 hz2 hk2 => ?_) (Nat.le_refl _) (Nat.le_refl _)
  obtain ⟨⟨r2, rfl, hr2, hp2⟩, hc2, hI2⟩ := hq2
  have ptO := pt_kept pt1 (fun q hq1 hq2 => hk2 q hq1 (fun h => hdis q hq2 h))
  refine W.eq (g2 := F0 m 247 ls [.int (Int32.ofInt r2)]) rfl ?_
  refine lv_pop hx hb dL_law_247 rfl ?_
  refine lv_goto (tgt := 1093) hx hb dL_law_248 (by decide) ?_
  exact kk H2 locs2 P1 P2 ptO pt2 hI1 hI2 hO1 ⟨_, _, _, _, (by rw [show ((k + 1 : Nat) : Int) = (k : Int) + 1 by omega]; exact hW.nx), hc1, hc2⟩ hS2
set_option maxHeartbeats 4000000 in
set_option maxRecDepth 100000 in
/-- end -/
theorem law_1 {p : Program} {l : Launch} {e : Env} {s : State} {m : MethodId} {below : List Frame} {meth : Method} {c : Code} {dC : Nat → ClassId} {dI : Nat → Nat → Nat} {K : Nat → ClassId} {aX aM : Nat → Nat} {b L : Nat} {xs : Nat → Int32} {H : Heap} {locs : List Loc} {PX PM : PH} {ls : Array Slot} {i k : Nat} (C : LF p l s m meth c b L xs dC dI K aX aM) (hiL : i + 6 ≤ L) (hk : k ≤ 512) (ptX : ptG WSX (l, dC, dI, K, aX) PX H) (ptM : ptG WSM (l, dC, dI, K, aM) PM H) (hBX : BdX PX) (hIM : IM k PM) (hOX : OWN PX) (hTL : (∃ (T1 : TT) (K1 M1 A1 : PH), WFT (k : Int) K1 M1 A1 ∧ SXT T1 K1 M1 A1 PX ∧ SMT T1 K1 M1 A1 PM)) (hS : va_S (fun q => s.heap.size ≤ q) s.heap H locs) (hl : lv_has ls 4 [(3, .int (nI i)), (2, .ref (aM 0)), (1, .ref (aX 0)), (0, .ref b)]) (kk : ∀ (H : Heap) (locs : List Loc) (PX PM : PH), ptG WSX (l, dC, dI, K, aX) PX H → ptG WSM (l, dC, dI, K, aM) PM H → BdX PX → IM (k + 1) PM → OWN PX → (∃ (T1 : TT) (K1 M1 A1 : PH), WFT ((k + 1 : Nat) : Int) K1 M1 A1 ∧ SXT T1 K1 M1 A1 PX ∧ SMT T1 K1 M1 A1 PM) → va_S (fun q => s.heap.size ≤ q) s.heap H locs → W p l e room_1 s m #[Value.ref b] below meth c H locs 600000 7302250 (lw_Z below #[Value.ref b] s) (F0 m 1093 ls [])) : W p l e room_1 s m #[Value.ref b] below meth c H locs 600000 7302250 (lw_Z below #[Value.ref b] s) (F0 m 251 ls []) := by
  obtain ⟨T1, K1, M1, A1, hW, hTX, hTM⟩ := hTL
  obtain ⟨hx, hb, hml, hown, hts, hXs, hbl, hL, hr, hlk, hKX, hKM, hiX, hiM, hAX, hAM, hdis⟩ := C
  have hbA : ¬ (fun q => s.heap.size ≤ q) b := Nat.not_le.mpr hbl
  refine lv_aload_n hx hb dL_law_251 rfl (lv_at hl 2 rfl) ?_
  refine lv_aload_n hx hb dL_law_252 rfl (lv_at hl 3 rfl) ?_
  refine lv_iload_n hx hb dL_law_253 rfl (lv_at hl 0 rfl) ?_
  refine lv_iconst (v := 1) hx hb dL_law_254 (by decide) ?_
  refine k_iadd (v := nI (i + 1)) hx hb (nI_ad2 i 1) dL_law_255 ?_
  refine va_sld hx hb hXs hbl hbA hS (vp_in_nI (by omega) (by omega)) dL_law_256 ?_
  refine cw_call (S := WSX) (G := (l, dC, dI, K, aX)) (P := PX) (av := [xz (xs (nI (i + 1)).toNatClampNeg)]) (o := 0) (rest := []) (j := iX11_end) (n := 1) hx hb hml hown hts hl.1 hKX hiX ptX hS hAX (wX_end (l, dC, dI, K, aX) PX k hk _ T1 K1 M1 A1 hW hTM.2.1.an hBX hOX hTX) cf_X11_end t_675 rfl (by decide) rfl rfl rfl (Nat.le_of_ble_eq_true rfl) (Nat.le_of_ble_eq_true rfl) (Nat.le_of_ble_eq_true rfl) (by simp only [List.map_cons, List.map_nil, gv_xz]; rfl) dL_law_257 (fun v1 P1 H1 locs1 hq1 pt1 hS1 hz1 hk1 => ?_) (Nat.le_refl _) (Nat.le_refl _)
  obtain ⟨⟨r1, rfl, hr1, hp1⟩, hc1, hO1, hI1⟩ := hq1
  have ptN := pt_kept ptM (fun q hq1 hq2 => hk1 q hq1 (fun h => hdis q h hq2))
  refine W.eq (g2 := F0 m 260 ls [.int (Int32.ofInt r1)]) rfl ?_
  refine lv_pop hx hb dL_law_260 rfl ?_
  refine lv_aload_n hx hb dL_law_261 rfl (lv_at hl 1 rfl) ?_
  refine lv_aload_n hx hb dL_law_262 rfl (lv_at hl 3 rfl) ?_
  refine lv_iload_n hx hb dL_law_263 rfl (lv_at hl 0 rfl) ?_
  refine lv_iconst (v := 1) hx hb dL_law_264 (by decide) ?_
  refine k_iadd (v := nI (i + 1)) hx hb (nI_ad2 i 1) dL_law_265 ?_
  refine va_sld hx hb hXs hbl hbA hS1 (vp_in_nI (by omega) (by omega)) dL_law_266 ?_
  refine cw_call (S := WSM) (G := (l, dC, dI, K, aM)) (P := PM) (av := [xz (xs (nI (i + 1)).toNatClampNeg)]) (o := 0) (rest := []) (j := iX12_end) (n := 1) hx hb hml hown hts hl.1 hKM hiM ptN hS1 hAM (wM_end (l, dC, dI, K, aM) PM k hk _ T1 K1 M1 A1 hW hIM hTM) cf_X12_end t_1675 rfl (by decide) rfl rfl rfl (Nat.le_of_ble_eq_true rfl) (Nat.le_of_ble_eq_true rfl) (Nat.le_of_ble_eq_true rfl) (by simp only [List.map_cons, List.map_nil, gv_xz]; rfl) dL_law_267 (fun v2 P2 H2 locs2 hq2 pt2 hS2 hz2 hk2 => ?_) (Nat.le_refl _) (Nat.le_refl _)
  obtain ⟨⟨r2, rfl, hr2, hp2⟩, hc2, hI2⟩ := hq2
  have ptO := pt_kept pt1 (fun q hq1 hq2 => hk2 q hq1 (fun h => hdis q hq2 h))
  refine W.eq (g2 := F0 m 270 ls [.int (Int32.ofInt r2)]) rfl ?_
  refine lv_pop hx hb dL_law_270 rfl ?_
  refine lv_goto (tgt := 1093) hx hb dL_law_271 (by decide) ?_
  exact kk H2 locs2 P1 P2 ptO pt2 hI1 hI2 hO1 ⟨_, _, _, _, (by rw [show ((k + 1 : Nat) : Int) = (k : Int) + 1 by omega]; exact hW.nx), hc1, hc2⟩ hS2
set_option maxHeartbeats 4000000 in
set_option maxRecDepth 100000 in
/-- match -/
theorem law_2 {p : Program} {l : Launch} {e : Env} {s : State} {m : MethodId} {below : List Frame} {meth : Method} {c : Code} {dC : Nat → ClassId} {dI : Nat → Nat → Nat} {K : Nat → ClassId} {aX aM : Nat → Nat} {b L : Nat} {xs : Nat → Int32} {H : Heap} {locs : List Loc} {PX PM : PH} {ls : Array Slot} {i k : Nat} (C : LF p l s m meth c b L xs dC dI K aX aM) (hiL : i + 6 ≤ L) (hk : k ≤ 512) (ptX : ptG WSX (l, dC, dI, K, aX) PX H) (ptM : ptG WSM (l, dC, dI, K, aM) PM H) (hBX : BdX PX) (hIM : IM k PM) (hOX : OWN PX) (hTL : (∃ (T1 : TT) (K1 M1 A1 : PH), WFT (k : Int) K1 M1 A1 ∧ SXT T1 K1 M1 A1 PX ∧ SMT T1 K1 M1 A1 PM)) (hS : va_S (fun q => s.heap.size ≤ q) s.heap H locs) (hl : lv_has ls 4 [(3, .int (nI i)), (2, .ref (aM 0)), (1, .ref (aX 0)), (0, .ref b)]) (kk : ∀ (H : Heap) (locs : List Loc) (PX PM : PH), ptG WSX (l, dC, dI, K, aX) PX H → ptG WSM (l, dC, dI, K, aM) PM H → BdX PX → IM (k + 1) PM → OWN PX → (∃ (T1 : TT) (K1 M1 A1 : PH), WFT ((k + 1 : Nat) : Int) K1 M1 A1 ∧ SXT T1 K1 M1 A1 PX ∧ SMT T1 K1 M1 A1 PM) → va_S (fun q => s.heap.size ≤ q) s.heap H locs → W p l e room_1 s m #[Value.ref b] below meth c H locs 600000 7302250 (lw_Z below #[Value.ref b] s) (F0 m 1093 ls [])) : W p l e room_1 s m #[Value.ref b] below meth c H locs 600000 7302250 (lw_Z below #[Value.ref b] s) (F0 m 274 ls []) := by
  obtain ⟨T1, K1, M1, A1, hW, hTX, hTM⟩ := hTL
  obtain ⟨hx, hb, hml, hown, hts, hXs, hbl, hL, hr, hlk, hKX, hKM, hiX, hiM, hAX, hAM, hdis⟩ := C
  have hbA : ¬ (fun q => s.heap.size ≤ q) b := Nat.not_le.mpr hbl
  refine lv_aload_n hx hb dL_law_274 rfl (lv_at hl 2 rfl) ?_
  refine cw_call (S := WSX) (G := (l, dC, dI, K, aX)) (P := PX) (av := []) (o := 0) (rest := []) (j := iX11_match) (n := 0) hx hb hml hown hts hl.1 hKX hiX ptX hS hAX (wX_match (l, dC, dI, K, aX) PX k hk T1 K1 M1 A1 hW hTM.2.1.an hBX hOX hTX) cf_X11_match t_679 rfl (by decide) rfl rfl rfl (Nat.le_of_ble_eq_true rfl) (Nat.le_of_ble_eq_true rfl) (Nat.le_of_ble_eq_true rfl) (by simp only [List.map_cons, List.map_nil, gv_xz]; rfl) dL_law_275 (fun v1 P1 H1 locs1 hq1 pt1 hS1 hz1 hk1 => ?_) (Nat.le_refl _) (Nat.le_refl _)
  obtain ⟨⟨r1, rfl, hr1, hp1⟩, hc1, hO1, hI1⟩ := hq1
  have ptN := pt_kept ptM (fun q hq1 hq2 => hk1 q hq1 (fun h => hdis q h hq2))
  refine W.eq (g2 := F0 m 278 ls [.int (Int32.ofInt r1)]) rfl ?_
  refine lv_pop hx hb dL_law_278 rfl ?_
  refine lv_aload_n hx hb dL_law_279 rfl (lv_at hl 1 rfl) ?_
  refine cw_call (S := WSM) (G := (l, dC, dI, K, aM)) (P := PM) (av := []) (o := 0) (rest := []) (j := iX12_match) (n := 0) hx hb hml hown hts hl.1 hKM hiM ptN hS1 hAM (wM_match (l, dC, dI, K, aM) PM k hk T1 K1 M1 A1 hW hIM hTM) cf_X12_match t_1679 rfl (by decide) rfl rfl rfl (Nat.le_of_ble_eq_true rfl) (Nat.le_of_ble_eq_true rfl) (Nat.le_of_ble_eq_true rfl) (by simp only [List.map_cons, List.map_nil, gv_xz]; rfl) dL_law_280 (fun v2 P2 H2 locs2 hq2 pt2 hS2 hz2 hk2 => ?_) (Nat.le_refl _) (Nat.le_refl _)
  obtain ⟨⟨r2, rfl, hr2, hp2⟩, hc2, hI2⟩ := hq2
  have ptO := pt_kept pt1 (fun q hq1 hq2 => hk2 q hq1 (fun h => hdis q hq2 h))
  refine W.eq (g2 := F0 m 283 ls [.int (Int32.ofInt r2)]) rfl ?_
  refine lv_pop hx hb dL_law_283 rfl ?_
  refine lv_goto (tgt := 1093) hx hb dL_law_284 (by decide) ?_
  exact kk H2 locs2 P1 P2 ptO pt2 hI1 hI2 hO1 ⟨_, _, _, _, (by rw [show ((k + 1 : Nat) : Int) = (k : Int) + 1 by omega]; exact hW.mat), hc1, hc2⟩ hS2
set_option maxHeartbeats 4000000 in
set_option maxRecDepth 100000 in
/-- fault -/
theorem law_3 {p : Program} {l : Launch} {e : Env} {s : State} {m : MethodId} {below : List Frame} {meth : Method} {c : Code} {dC : Nat → ClassId} {dI : Nat → Nat → Nat} {K : Nat → ClassId} {aX aM : Nat → Nat} {b L : Nat} {xs : Nat → Int32} {H : Heap} {locs : List Loc} {PX PM : PH} {ls : Array Slot} {i k : Nat} (C : LF p l s m meth c b L xs dC dI K aX aM) (hiL : i + 6 ≤ L) (hk : k ≤ 512) (ptX : ptG WSX (l, dC, dI, K, aX) PX H) (ptM : ptG WSM (l, dC, dI, K, aM) PM H) (hBX : BdX PX) (hIM : IM k PM) (hOX : OWN PX) (hTL : (∃ (T1 : TT) (K1 M1 A1 : PH), WFT (k : Int) K1 M1 A1 ∧ SXT T1 K1 M1 A1 PX ∧ SMT T1 K1 M1 A1 PM)) (hS : va_S (fun q => s.heap.size ≤ q) s.heap H locs) (hl : lv_has ls 4 [(3, .int (nI i)), (2, .ref (aM 0)), (1, .ref (aX 0)), (0, .ref b)]) (kk : ∀ (H : Heap) (locs : List Loc) (PX PM : PH), ptG WSX (l, dC, dI, K, aX) PX H → ptG WSM (l, dC, dI, K, aM) PM H → BdX PX → IM (k + 1) PM → OWN PX → (∃ (T1 : TT) (K1 M1 A1 : PH), WFT ((k + 1 : Nat) : Int) K1 M1 A1 ∧ SXT T1 K1 M1 A1 PX ∧ SMT T1 K1 M1 A1 PM) → va_S (fun q => s.heap.size ≤ q) s.heap H locs → W p l e room_1 s m #[Value.ref b] below meth c H locs 600000 7302250 (lw_Z below #[Value.ref b] s) (F0 m 1093 ls [])) : W p l e room_1 s m #[Value.ref b] below meth c H locs 600000 7302250 (lw_Z below #[Value.ref b] s) (F0 m 287 ls []) := by
  obtain ⟨T1, K1, M1, A1, hW, hTX, hTM⟩ := hTL
  obtain ⟨hx, hb, hml, hown, hts, hXs, hbl, hL, hr, hlk, hKX, hKM, hiX, hiM, hAX, hAM, hdis⟩ := C
  have hbA : ¬ (fun q => s.heap.size ≤ q) b := Nat.not_le.mpr hbl
  refine lv_aload_n hx hb dL_law_287 rfl (lv_at hl 2 rfl) ?_
  refine lv_aload_n hx hb dL_law_288 rfl (lv_at hl 3 rfl) ?_
  refine lv_iload_n hx hb dL_law_289 rfl (lv_at hl 0 rfl) ?_
  refine lv_iconst (v := 1) hx hb dL_law_290 (by decide) ?_
  refine k_iadd (v := nI (i + 1)) hx hb (nI_ad2 i 1) dL_law_291 ?_
  refine va_sld hx hb hXs hbl hbA hS (vp_in_nI (by omega) (by omega)) dL_law_292 ?_
  refine cw_call (S := WSX) (G := (l, dC, dI, K, aX)) (P := PX) (av := [xz (xs (nI (i + 1)).toNatClampNeg)]) (o := 0) (rest := []) (j := iX11_fault) (n := 1) hx hb hml hown hts hl.1 hKX hiX ptX hS hAX (wX_fault (l, dC, dI, K, aX) PX k hk _ T1 K1 M1 A1 hW hTM.2.1.an hBX hOX hTX) cf_X11_fault t_911 rfl (by decide) rfl rfl rfl (Nat.le_of_ble_eq_true rfl) (Nat.le_of_ble_eq_true rfl) (Nat.le_of_ble_eq_true rfl) (by simp only [List.map_cons, List.map_nil, gv_xz]; rfl) dL_law_293 (fun v1 P1 H1 locs1 hq1 pt1 hS1 hz1 hk1 => ?_) (Nat.le_refl _) (Nat.le_refl _)
  obtain ⟨⟨r1, rfl, hr1, hp1⟩, hc1, hO1, hI1⟩ := hq1
  have ptN := pt_kept ptM (fun q hq1 hq2 => hk1 q hq1 (fun h => hdis q h hq2))
  refine W.eq (g2 := F0 m 296 ls [.int (Int32.ofInt r1)]) rfl ?_
  refine lv_pop hx hb dL_law_296 rfl ?_
  refine lv_aload_n hx hb dL_law_297 rfl (lv_at hl 1 rfl) ?_
  refine lv_aload_n hx hb dL_law_298 rfl (lv_at hl 3 rfl) ?_
  refine lv_iload_n hx hb dL_law_299 rfl (lv_at hl 0 rfl) ?_
  refine lv_iconst (v := 1) hx hb dL_law_300 (by decide) ?_
  refine k_iadd (v := nI (i + 1)) hx hb (nI_ad2 i 1) dL_law_301 ?_
  refine va_sld hx hb hXs hbl hbA hS1 (vp_in_nI (by omega) (by omega)) dL_law_302 ?_
  refine cw_call (S := WSM) (G := (l, dC, dI, K, aM)) (P := PM) (av := [xz (xs (nI (i + 1)).toNatClampNeg)]) (o := 0) (rest := []) (j := iX12_fault) (n := 1) hx hb hml hown hts hl.1 hKM hiM ptN hS1 hAM (wM_fault (l, dC, dI, K, aM) PM k hk _ T1 K1 M1 A1 hW hIM hTM) cf_X12_fault t_1843 rfl (by decide) rfl rfl rfl (Nat.le_of_ble_eq_true rfl) (Nat.le_of_ble_eq_true rfl) (Nat.le_of_ble_eq_true rfl) (by simp only [List.map_cons, List.map_nil, gv_xz]; rfl) dL_law_303 (fun v2 P2 H2 locs2 hq2 pt2 hS2 hz2 hk2 => ?_) (Nat.le_refl _) (Nat.le_refl _)
  obtain ⟨⟨r2, rfl, hr2, hp2⟩, hc2, hI2⟩ := hq2
  have ptO := pt_kept pt1 (fun q hq1 hq2 => hk2 q hq1 (fun h => hdis q hq2 h))
  refine W.eq (g2 := F0 m 306 ls [.int (Int32.ofInt r2)]) rfl ?_
  refine lv_pop hx hb dL_law_306 rfl ?_
  refine lv_goto (tgt := 1093) hx hb dL_law_307 (by decide) ?_
  exact kk H2 locs2 P1 P2 ptO pt2 hI1 hI2 hO1 ⟨_, _, _, _, (by rw [show ((k + 1 : Nat) : Int) = (k : Int) + 1 by omega]; exact hW.nx), hc1, hc2⟩ hS2
set_option maxHeartbeats 4000000 in
set_option maxRecDepth 100000 in
/-- has -/
theorem law_4 {p : Program} {l : Launch} {e : Env} {s : State} {m : MethodId} {below : List Frame} {meth : Method} {c : Code} {dC : Nat → ClassId} {dI : Nat → Nat → Nat} {K : Nat → ClassId} {aX aM : Nat → Nat} {b L : Nat} {xs : Nat → Int32} {H : Heap} {locs : List Loc} {PX PM : PH} {ls : Array Slot} {i k : Nat} (C : LF p l s m meth c b L xs dC dI K aX aM) (hiL : i + 6 ≤ L) (hk : k ≤ 512) (ptX : ptG WSX (l, dC, dI, K, aX) PX H) (ptM : ptG WSM (l, dC, dI, K, aM) PM H) (hBX : BdX PX) (hIM : IM k PM) (hOX : OWN PX) (hTL : (∃ (T1 : TT) (K1 M1 A1 : PH), WFT (k : Int) K1 M1 A1 ∧ SXT T1 K1 M1 A1 PX ∧ SMT T1 K1 M1 A1 PM)) (hS : va_S (fun q => s.heap.size ≤ q) s.heap H locs) (hl : lv_has ls 4 [(3, .int (nI i)), (2, .ref (aM 0)), (1, .ref (aX 0)), (0, .ref b)]) (kk : ∀ (H : Heap) (locs : List Loc) (PX PM : PH), ptG WSX (l, dC, dI, K, aX) PX H → ptG WSM (l, dC, dI, K, aM) PM H → BdX PX → IM (k + 1) PM → OWN PX → (∃ (T1 : TT) (K1 M1 A1 : PH), WFT ((k + 1 : Nat) : Int) K1 M1 A1 ∧ SXT T1 K1 M1 A1 PX ∧ SMT T1 K1 M1 A1 PM) → va_S (fun q => s.heap.size ≤ q) s.heap H locs → W p l e room_1 s m #[Value.ref b] below meth c H locs 600000 7302250 (lw_Z below #[Value.ref b] s) (F0 m 1093 ls [])) : W p l e room_1 s m #[Value.ref b] below meth c H locs 600000 7302250 (lw_Z below #[Value.ref b] s) (F0 m 310 ls []) := by
  obtain ⟨T1, K1, M1, A1, hW, hTX, hTM⟩ := hTL
  obtain ⟨hx, hb, hml, hown, hts, hXs, hbl, hL, hr, hlk, hKX, hKM, hiX, hiM, hAX, hAM, hdis⟩ := C
  have hbA : ¬ (fun q => s.heap.size ≤ q) b := Nat.not_le.mpr hbl
  refine lv_aload_n hx hb dL_law_310 rfl (lv_at hl 2 rfl) ?_
  refine lv_aload_n hx hb dL_law_311 rfl (lv_at hl 3 rfl) ?_
  refine lv_iload_n hx hb dL_law_312 rfl (lv_at hl 0 rfl) ?_
  refine lv_iconst (v := 1) hx hb dL_law_313 (by decide) ?_
  refine k_iadd (v := nI (i + 1)) hx hb (nI_ad2 i 1) dL_law_314 ?_
  refine va_sld hx hb hXs hbl hbA hS (vp_in_nI (by omega) (by omega)) dL_law_315 ?_
  refine cw_call (S := WSX) (G := (l, dC, dI, K, aX)) (P := PX) (av := [xz (xs (nI (i + 1)).toNatClampNeg)]) (o := 0) (rest := []) (j := iX11_has) (n := 1) hx hb hml hown hts hl.1 hKX hiX ptX hS hAX (wX_has (l, dC, dI, K, aX) PX k hk _ T1 K1 M1 A1 hW hTM.2.1.an hBX hOX hTX) cf_X11_has t_915 rfl (by decide) rfl rfl rfl (Nat.le_of_ble_eq_true rfl) (Nat.le_of_ble_eq_true rfl) (Nat.le_of_ble_eq_true rfl) (by simp only [List.map_cons, List.map_nil, gv_xz]; rfl) dL_law_316 (fun v1 P1 H1 locs1 hq1 pt1 hS1 hz1 hk1 => ?_) (Nat.le_refl _) (Nat.le_refl _)
  obtain ⟨⟨r1, rfl, hr1, hp1⟩, hc1, hO1, hI1⟩ := hq1
  have ptN := pt_kept ptM (fun q hq1 hq2 => hk1 q hq1 (fun h => hdis q h hq2))
  refine W.eq (g2 := F0 m 319 ls [.int (Int32.ofInt r1)]) rfl ?_
  refine lv_pop hx hb dL_law_319 rfl ?_
  refine lv_aload_n hx hb dL_law_320 rfl (lv_at hl 1 rfl) ?_
  refine lv_aload_n hx hb dL_law_321 rfl (lv_at hl 3 rfl) ?_
  refine lv_iload_n hx hb dL_law_322 rfl (lv_at hl 0 rfl) ?_
  refine lv_iconst (v := 1) hx hb dL_law_323 (by decide) ?_
  refine k_iadd (v := nI (i + 1)) hx hb (nI_ad2 i 1) dL_law_324 ?_
  refine va_sld hx hb hXs hbl hbA hS1 (vp_in_nI (by omega) (by omega)) dL_law_325 ?_
  refine cw_call (S := WSM) (G := (l, dC, dI, K, aM)) (P := PM) (av := [xz (xs (nI (i + 1)).toNatClampNeg)]) (o := 0) (rest := []) (j := iX12_has) (n := 1) hx hb hml hown hts hl.1 hKM hiM ptN hS1 hAM (wM_has (l, dC, dI, K, aM) PM k hk _ T1 K1 M1 A1 hW hIM hTM) cf_X12_has t_1863 rfl (by decide) rfl rfl rfl (Nat.le_of_ble_eq_true rfl) (Nat.le_of_ble_eq_true rfl) (Nat.le_of_ble_eq_true rfl) (by simp only [List.map_cons, List.map_nil, gv_xz]; rfl) dL_law_326 (fun v2 P2 H2 locs2 hq2 pt2 hS2 hz2 hk2 => ?_) (Nat.le_refl _) (Nat.le_refl _)
  obtain ⟨⟨r2, rfl, hr2, hp2⟩, hc2, hI2⟩ := hq2
  have ptO := pt_kept pt1 (fun q hq1 hq2 => hk2 q hq1 (fun h => hdis q hq2 h))
  refine W.eq (g2 := F0 m 329 ls [.int (Int32.ofInt r2)]) rfl ?_
  refine lv_pop hx hb dL_law_329 rfl ?_
  refine lv_goto (tgt := 1093) hx hb dL_law_330 (by decide) ?_
  exact kk H2 locs2 P1 P2 ptO pt2 hI1 hI2 hO1 ⟨_, _, _, _, (by rw [show ((k + 1 : Nat) : Int) = (k : Int) + 1 by omega]; exact hW.nx), hc1, hc2⟩ hS2
set_option maxHeartbeats 4000000 in
set_option maxRecDepth 100000 in
/-- letter -/
theorem law_5 {p : Program} {l : Launch} {e : Env} {s : State} {m : MethodId} {below : List Frame} {meth : Method} {c : Code} {dC : Nat → ClassId} {dI : Nat → Nat → Nat} {K : Nat → ClassId} {aX aM : Nat → Nat} {b L : Nat} {xs : Nat → Int32} {H : Heap} {locs : List Loc} {PX PM : PH} {ls : Array Slot} {i k : Nat} (C : LF p l s m meth c b L xs dC dI K aX aM) (hiL : i + 6 ≤ L) (hk : k ≤ 512) (ptX : ptG WSX (l, dC, dI, K, aX) PX H) (ptM : ptG WSM (l, dC, dI, K, aM) PM H) (hBX : BdX PX) (hIM : IM k PM) (hOX : OWN PX) (hTL : (∃ (T1 : TT) (K1 M1 A1 : PH), WFT (k : Int) K1 M1 A1 ∧ SXT T1 K1 M1 A1 PX ∧ SMT T1 K1 M1 A1 PM)) (hS : va_S (fun q => s.heap.size ≤ q) s.heap H locs) (hl : lv_has ls 4 [(3, .int (nI i)), (2, .ref (aM 0)), (1, .ref (aX 0)), (0, .ref b)]) (kk : ∀ (H : Heap) (locs : List Loc) (PX PM : PH), ptG WSX (l, dC, dI, K, aX) PX H → ptG WSM (l, dC, dI, K, aM) PM H → BdX PX → IM (k + 1) PM → OWN PX → (∃ (T1 : TT) (K1 M1 A1 : PH), WFT ((k + 1 : Nat) : Int) K1 M1 A1 ∧ SXT T1 K1 M1 A1 PX ∧ SMT T1 K1 M1 A1 PM) → va_S (fun q => s.heap.size ≤ q) s.heap H locs → W p l e room_1 s m #[Value.ref b] below meth c H locs 600000 7302250 (lw_Z below #[Value.ref b] s) (F0 m 1093 ls [])) : W p l e room_1 s m #[Value.ref b] below meth c H locs 600000 7302250 (lw_Z below #[Value.ref b] s) (F0 m 333 ls []) := by
  obtain ⟨T1, K1, M1, A1, hW, hTX, hTM⟩ := hTL
  obtain ⟨hx, hb, hml, hown, hts, hXs, hbl, hL, hr, hlk, hKX, hKM, hiX, hiM, hAX, hAM, hdis⟩ := C
  have hbA : ¬ (fun q => s.heap.size ≤ q) b := Nat.not_le.mpr hbl
  refine lv_aload_n hx hb dL_law_333 rfl (lv_at hl 2 rfl) ?_
  refine lv_aload_n hx hb dL_law_334 rfl (lv_at hl 3 rfl) ?_
  refine lv_iload_n hx hb dL_law_335 rfl (lv_at hl 0 rfl) ?_
  refine lv_iconst (v := 1) hx hb dL_law_336 (by decide) ?_
  refine k_iadd (v := nI (i + 1)) hx hb (nI_ad2 i 1) dL_law_337 ?_
  refine va_sld hx hb hXs hbl hbA hS (vp_in_nI (by omega) (by omega)) dL_law_338 ?_
  refine lv_aload_n hx hb dL_law_339 rfl (lv_at hl 3 rfl) ?_
  refine lv_iload_n hx hb dL_law_340 rfl (lv_at hl 0 rfl) ?_
  refine lv_iconst (v := 2) hx hb dL_law_341 (by decide) ?_
  refine k_iadd (v := nI (i + 2)) hx hb (nI_ad2 i 2) dL_law_342 ?_
  refine va_sld hx hb hXs hbl hbA hS (vp_in_nI (by omega) (by omega)) dL_law_343 ?_
  refine lv_aload_n hx hb dL_law_344 rfl (lv_at hl 3 rfl) ?_
  refine lv_iload_n hx hb dL_law_345 rfl (lv_at hl 0 rfl) ?_
  refine lv_iconst (v := 3) hx hb dL_law_346 (by decide) ?_
  refine k_iadd (v := nI (i + 3)) hx hb (nI_ad2 i 3) dL_law_347 ?_
  refine va_sld hx hb hXs hbl hbA hS (vp_in_nI (by omega) (by omega)) dL_law_348 ?_
  refine cw_call (S := WSX) (G := (l, dC, dI, K, aX)) (P := PX) (av := [xz (xs (nI (i + 1)).toNatClampNeg), xz (xs (nI (i + 2)).toNatClampNeg), xz (xs (nI (i + 3)).toNatClampNeg)]) (o := 0) (rest := []) (j := iX11_letter) (n := 3) hx hb hml hown hts hl.1 hKX hiX ptX hS hAX (wX_letter (l, dC, dI, K, aX) PX k hk _ _ _ T1 K1 M1 A1 hW hTM.2.1.an hBX hOX hTX) cf_X11_letter t_924 rfl (by decide) rfl rfl rfl (Nat.le_of_ble_eq_true rfl) (Nat.le_of_ble_eq_true rfl) (Nat.le_of_ble_eq_true rfl) (by simp only [List.map_cons, List.map_nil, gv_xz]; rfl) dL_law_349 (fun v1 P1 H1 locs1 hq1 pt1 hS1 hz1 hk1 => ?_) (Nat.le_refl _) (Nat.le_refl _)
  obtain ⟨⟨r1, rfl, hr1, hp1⟩, hc1, hO1, hI1⟩ := hq1
  have ptN := pt_kept ptM (fun q hq1 hq2 => hk1 q hq1 (fun h => hdis q h hq2))
  refine W.eq (g2 := F0 m 352 ls [.int (Int32.ofInt r1)]) rfl ?_
  refine lv_pop hx hb dL_law_352 rfl ?_
  refine lv_aload_n hx hb dL_law_353 rfl (lv_at hl 1 rfl) ?_
  refine lv_aload_n hx hb dL_law_354 rfl (lv_at hl 3 rfl) ?_
  refine lv_iload_n hx hb dL_law_355 rfl (lv_at hl 0 rfl) ?_
  refine lv_iconst (v := 1) hx hb dL_law_356 (by decide) ?_
  refine k_iadd (v := nI (i + 1)) hx hb (nI_ad2 i 1) dL_law_357 ?_
  refine va_sld hx hb hXs hbl hbA hS1 (vp_in_nI (by omega) (by omega)) dL_law_358 ?_
  refine lv_aload_n hx hb dL_law_359 rfl (lv_at hl 3 rfl) ?_
  refine lv_iload_n hx hb dL_law_360 rfl (lv_at hl 0 rfl) ?_
  refine lv_iconst (v := 2) hx hb dL_law_361 (by decide) ?_
  refine k_iadd (v := nI (i + 2)) hx hb (nI_ad2 i 2) dL_law_362 ?_
  refine va_sld hx hb hXs hbl hbA hS1 (vp_in_nI (by omega) (by omega)) dL_law_363 ?_
  refine lv_aload_n hx hb dL_law_364 rfl (lv_at hl 3 rfl) ?_
  refine lv_iload_n hx hb dL_law_365 rfl (lv_at hl 0 rfl) ?_
  refine lv_iconst (v := 3) hx hb dL_law_366 (by decide) ?_
  refine k_iadd (v := nI (i + 3)) hx hb (nI_ad2 i 3) dL_law_367 ?_
  refine va_sld hx hb hXs hbl hbA hS1 (vp_in_nI (by omega) (by omega)) dL_law_368 ?_
  refine cw_call (S := WSM) (G := (l, dC, dI, K, aM)) (P := PM) (av := [xz (xs (nI (i + 1)).toNatClampNeg), xz (xs (nI (i + 2)).toNatClampNeg), xz (xs (nI (i + 3)).toNatClampNeg)]) (o := 0) (rest := []) (j := iX12_letter) (n := 3) hx hb hml hown hts hl.1 hKM hiM ptN hS1 hAM (wM_letter (l, dC, dI, K, aM) PM k hk _ _ _ T1 K1 M1 A1 hW hIM hTM) cf_X12_letter t_1867 rfl (by decide) rfl rfl rfl (Nat.le_of_ble_eq_true rfl) (Nat.le_of_ble_eq_true rfl) (Nat.le_of_ble_eq_true rfl) (by simp only [List.map_cons, List.map_nil, gv_xz]; rfl) dL_law_369 (fun v2 P2 H2 locs2 hq2 pt2 hS2 hz2 hk2 => ?_) (Nat.le_refl _) (Nat.le_refl _)
  obtain ⟨⟨r2, rfl, hr2, hp2⟩, hc2, hI2⟩ := hq2
  have ptO := pt_kept pt1 (fun q hq1 hq2 => hk2 q hq1 (fun h => hdis q hq2 h))
  refine W.eq (g2 := F0 m 372 ls [.int (Int32.ofInt r2)]) rfl ?_
  refine lv_pop hx hb dL_law_372 rfl ?_
  refine lv_goto (tgt := 1093) hx hb dL_law_373 (by decide) ?_
  exact kk H2 locs2 P1 P2 ptO pt2 hI1 hI2 hO1 ⟨_, _, _, _, (by rw [show ((k + 1 : Nat) : Int) = (k : Int) + 1 by omega]; exact hW.nx), hc1, hc2⟩ hS2
set_option maxHeartbeats 4000000 in
set_option maxRecDepth 100000 in
/-- values -/
theorem law_6 {p : Program} {l : Launch} {e : Env} {s : State} {m : MethodId} {below : List Frame} {meth : Method} {c : Code} {dC : Nat → ClassId} {dI : Nat → Nat → Nat} {K : Nat → ClassId} {aX aM : Nat → Nat} {b L : Nat} {xs : Nat → Int32} {H : Heap} {locs : List Loc} {PX PM : PH} {ls : Array Slot} {i k : Nat} (C : LF p l s m meth c b L xs dC dI K aX aM) (hiL : i + 6 ≤ L) (hk : k ≤ 512) (ptX : ptG WSX (l, dC, dI, K, aX) PX H) (ptM : ptG WSM (l, dC, dI, K, aM) PM H) (hBX : BdX PX) (hIM : IM k PM) (hOX : OWN PX) (hTL : (∃ (T1 : TT) (K1 M1 A1 : PH), WFT (k : Int) K1 M1 A1 ∧ SXT T1 K1 M1 A1 PX ∧ SMT T1 K1 M1 A1 PM)) (hS : va_S (fun q => s.heap.size ≤ q) s.heap H locs) (hl : lv_has ls 4 [(3, .int (nI i)), (2, .ref (aM 0)), (1, .ref (aX 0)), (0, .ref b)]) (kk : ∀ (H : Heap) (locs : List Loc) (PX PM : PH), ptG WSX (l, dC, dI, K, aX) PX H → ptG WSM (l, dC, dI, K, aM) PM H → BdX PX → IM (k + 1) PM → OWN PX → (∃ (T1 : TT) (K1 M1 A1 : PH), WFT ((k + 1 : Nat) : Int) K1 M1 A1 ∧ SXT T1 K1 M1 A1 PX ∧ SMT T1 K1 M1 A1 PM) → va_S (fun q => s.heap.size ≤ q) s.heap H locs → W p l e room_1 s m #[Value.ref b] below meth c H locs 600000 7302250 (lw_Z below #[Value.ref b] s) (F0 m 1093 ls [])) : W p l e room_1 s m #[Value.ref b] below meth c H locs 600000 7302250 (lw_Z below #[Value.ref b] s) (F0 m 376 ls []) := by
  obtain ⟨T1, K1, M1, A1, hW, hTX, hTM⟩ := hTL
  obtain ⟨hx, hb, hml, hown, hts, hXs, hbl, hL, hr, hlk, hKX, hKM, hiX, hiM, hAX, hAM, hdis⟩ := C
  have hbA : ¬ (fun q => s.heap.size ≤ q) b := Nat.not_le.mpr hbl
  refine lv_aload_n hx hb dL_law_376 rfl (lv_at hl 2 rfl) ?_
  refine lv_aload_n hx hb dL_law_377 rfl (lv_at hl 3 rfl) ?_
  refine lv_iload_n hx hb dL_law_378 rfl (lv_at hl 0 rfl) ?_
  refine lv_iconst (v := 1) hx hb dL_law_379 (by decide) ?_
  refine k_iadd (v := nI (i + 1)) hx hb (nI_ad2 i 1) dL_law_380 ?_
  refine va_sld hx hb hXs hbl hbA hS (vp_in_nI (by omega) (by omega)) dL_law_381 ?_
  refine cw_call (S := WSX) (G := (l, dC, dI, K, aX)) (P := PX) (av := [xz (xs (nI (i + 1)).toNatClampNeg)]) (o := 0) (rest := []) (j := iX11_values) (n := 1) hx hb hml hown hts hl.1 hKX hiX ptX hS hAX (wX_values (l, dC, dI, K, aX) PX k hk _ T1 K1 M1 A1 hW hTM.2.1.an hBX hOX hTX) cf_X11_values t_933 rfl (by decide) rfl rfl rfl (Nat.le_of_ble_eq_true rfl) (Nat.le_of_ble_eq_true rfl) (Nat.le_of_ble_eq_true rfl) (by simp only [List.map_cons, List.map_nil, gv_xz]; rfl) dL_law_382 (fun v1 P1 H1 locs1 hq1 pt1 hS1 hz1 hk1 => ?_) (Nat.le_refl _) (Nat.le_refl _)
  obtain ⟨⟨r1, rfl, hr1, hp1⟩, hc1, hO1, hI1⟩ := hq1
  have ptN := pt_kept ptM (fun q hq1 hq2 => hk1 q hq1 (fun h => hdis q h hq2))
  refine W.eq (g2 := F0 m 385 ls [.int (Int32.ofInt r1)]) rfl ?_
  refine lv_pop hx hb dL_law_385 rfl ?_
  refine lv_aload_n hx hb dL_law_386 rfl (lv_at hl 1 rfl) ?_
  refine lv_aload_n hx hb dL_law_387 rfl (lv_at hl 3 rfl) ?_
  refine lv_iload_n hx hb dL_law_388 rfl (lv_at hl 0 rfl) ?_
  refine lv_iconst (v := 1) hx hb dL_law_389 (by decide) ?_
  refine k_iadd (v := nI (i + 1)) hx hb (nI_ad2 i 1) dL_law_390 ?_
  refine va_sld hx hb hXs hbl hbA hS1 (vp_in_nI (by omega) (by omega)) dL_law_391 ?_
  refine cw_call (S := WSM) (G := (l, dC, dI, K, aM)) (P := PM) (av := [xz (xs (nI (i + 1)).toNatClampNeg)]) (o := 0) (rest := []) (j := iX12_values) (n := 1) hx hb hml hown hts hl.1 hKM hiM ptN hS1 hAM (wM_values (l, dC, dI, K, aM) PM k hk _ T1 K1 M1 A1 hW hIM hTM) cf_X12_values t_1875 rfl (by decide) rfl rfl rfl (Nat.le_of_ble_eq_true rfl) (Nat.le_of_ble_eq_true rfl) (Nat.le_of_ble_eq_true rfl) (by simp only [List.map_cons, List.map_nil, gv_xz]; rfl) dL_law_392 (fun v2 P2 H2 locs2 hq2 pt2 hS2 hz2 hk2 => ?_) (Nat.le_refl _) (Nat.le_refl _)
  obtain ⟨⟨r2, rfl, hr2, hp2⟩, hc2, hI2⟩ := hq2
  have ptO := pt_kept pt1 (fun q hq1 hq2 => hk2 q hq1 (fun h => hdis q hq2 h))
  refine W.eq (g2 := F0 m 395 ls [.int (Int32.ofInt r2)]) rfl ?_
  refine lv_pop hx hb dL_law_395 rfl ?_
  refine lv_goto (tgt := 1093) hx hb dL_law_396 (by decide) ?_
  exact kk H2 locs2 P1 P2 ptO pt2 hI1 hI2 hO1 ⟨_, _, _, _, (by rw [show ((k + 1 : Nat) : Int) = (k : Int) + 1 by omega]; exact hW.nx), hc1, hc2⟩ hS2
set_option maxHeartbeats 4000000 in
set_option maxRecDepth 100000 in
/-- arm -/
theorem law_7 {p : Program} {l : Launch} {e : Env} {s : State} {m : MethodId} {below : List Frame} {meth : Method} {c : Code} {dC : Nat → ClassId} {dI : Nat → Nat → Nat} {K : Nat → ClassId} {aX aM : Nat → Nat} {b L : Nat} {xs : Nat → Int32} {H : Heap} {locs : List Loc} {PX PM : PH} {ls : Array Slot} {i k : Nat} (C : LF p l s m meth c b L xs dC dI K aX aM) (hiL : i + 6 ≤ L) (hk : k ≤ 512) (ptX : ptG WSX (l, dC, dI, K, aX) PX H) (ptM : ptG WSM (l, dC, dI, K, aM) PM H) (hBX : BdX PX) (hIM : IM k PM) (hOX : OWN PX) (hTL : (∃ (T1 : TT) (K1 M1 A1 : PH), WFT (k : Int) K1 M1 A1 ∧ SXT T1 K1 M1 A1 PX ∧ SMT T1 K1 M1 A1 PM)) (hS : va_S (fun q => s.heap.size ≤ q) s.heap H locs) (hl : lv_has ls 4 [(3, .int (nI i)), (2, .ref (aM 0)), (1, .ref (aX 0)), (0, .ref b)]) (kk : ∀ (H : Heap) (locs : List Loc) (PX PM : PH), ptG WSX (l, dC, dI, K, aX) PX H → ptG WSM (l, dC, dI, K, aM) PM H → BdX PX → IM (k + 1) PM → OWN PX → (∃ (T1 : TT) (K1 M1 A1 : PH), WFT ((k + 1 : Nat) : Int) K1 M1 A1 ∧ SXT T1 K1 M1 A1 PX ∧ SMT T1 K1 M1 A1 PM) → va_S (fun q => s.heap.size ≤ q) s.heap H locs → W p l e room_1 s m #[Value.ref b] below meth c H locs 600000 7302250 (lw_Z below #[Value.ref b] s) (F0 m 1093 ls [])) : W p l e room_1 s m #[Value.ref b] below meth c H locs 600000 7302250 (lw_Z below #[Value.ref b] s) (F0 m 399 ls []) := by
  obtain ⟨T1, K1, M1, A1, hW, hTX, hTM⟩ := hTL
  obtain ⟨hx, hb, hml, hown, hts, hXs, hbl, hL, hr, hlk, hKX, hKM, hiX, hiM, hAX, hAM, hdis⟩ := C
  have hbA : ¬ (fun q => s.heap.size ≤ q) b := Nat.not_le.mpr hbl
  refine lv_aload_n hx hb dL_law_399 rfl (lv_at hl 2 rfl) ?_
  refine lv_aload_n hx hb dL_law_400 rfl (lv_at hl 3 rfl) ?_
  refine lv_iload_n hx hb dL_law_401 rfl (lv_at hl 0 rfl) ?_
  refine lv_iconst (v := 1) hx hb dL_law_402 (by decide) ?_
  refine k_iadd (v := nI (i + 1)) hx hb (nI_ad2 i 1) dL_law_403 ?_
  refine va_sld hx hb hXs hbl hbA hS (vp_in_nI (by omega) (by omega)) dL_law_404 ?_
  refine lv_aload_n hx hb dL_law_405 rfl (lv_at hl 3 rfl) ?_
  refine lv_iload_n hx hb dL_law_406 rfl (lv_at hl 0 rfl) ?_
  refine lv_iconst (v := 2) hx hb dL_law_407 (by decide) ?_
  refine k_iadd (v := nI (i + 2)) hx hb (nI_ad2 i 2) dL_law_408 ?_
  refine va_sld hx hb hXs hbl hbA hS (vp_in_nI (by omega) (by omega)) dL_law_409 ?_
  refine cw_call (S := WSX) (G := (l, dC, dI, K, aX)) (P := PX) (av := [xz (xs (nI (i + 1)).toNatClampNeg), xz (xs (nI (i + 2)).toNatClampNeg)]) (o := 0) (rest := []) (j := iX11_arm) (n := 2) hx hb hml hown hts hl.1 hKX hiX ptX hS hAX (wX_arm (l, dC, dI, K, aX) PX k hk _ _ T1 K1 M1 A1 hW hTM.2.1.an hBX hOX hTX) cf_X11_arm t_942 rfl (by decide) rfl rfl rfl (Nat.le_of_ble_eq_true rfl) (Nat.le_of_ble_eq_true rfl) (Nat.le_of_ble_eq_true rfl) (by simp only [List.map_cons, List.map_nil, gv_xz]; rfl) dL_law_410 (fun v1 P1 H1 locs1 hq1 pt1 hS1 hz1 hk1 => ?_) (Nat.le_refl _) (Nat.le_refl _)
  obtain ⟨⟨r1, rfl, hr1, hp1⟩, hc1, hO1, hI1⟩ := hq1
  have ptN := pt_kept ptM (fun q hq1 hq2 => hk1 q hq1 (fun h => hdis q h hq2))
  refine W.eq (g2 := F0 m 413 ls [.int (Int32.ofInt r1)]) rfl ?_
  refine lv_pop hx hb dL_law_413 rfl ?_
  refine lv_aload_n hx hb dL_law_414 rfl (lv_at hl 1 rfl) ?_
  refine lv_aload_n hx hb dL_law_415 rfl (lv_at hl 3 rfl) ?_
  refine lv_iload_n hx hb dL_law_416 rfl (lv_at hl 0 rfl) ?_
  refine lv_iconst (v := 1) hx hb dL_law_417 (by decide) ?_
  refine k_iadd (v := nI (i + 1)) hx hb (nI_ad2 i 1) dL_law_418 ?_
  refine va_sld hx hb hXs hbl hbA hS1 (vp_in_nI (by omega) (by omega)) dL_law_419 ?_
  refine lv_aload_n hx hb dL_law_420 rfl (lv_at hl 3 rfl) ?_
  refine lv_iload_n hx hb dL_law_421 rfl (lv_at hl 0 rfl) ?_
  refine lv_iconst (v := 2) hx hb dL_law_422 (by decide) ?_
  refine k_iadd (v := nI (i + 2)) hx hb (nI_ad2 i 2) dL_law_423 ?_
  refine va_sld hx hb hXs hbl hbA hS1 (vp_in_nI (by omega) (by omega)) dL_law_424 ?_
  refine cw_call (S := WSM) (G := (l, dC, dI, K, aM)) (P := PM) (av := [xz (xs (nI (i + 1)).toNatClampNeg), xz (xs (nI (i + 2)).toNatClampNeg)]) (o := 0) (rest := []) (j := iX12_arm) (n := 2) hx hb hml hown hts hl.1 hKM hiM ptN hS1 hAM (wM_arm (l, dC, dI, K, aM) PM k hk _ _ T1 K1 M1 A1 hW hIM hTM) cf_X12_arm t_1879 rfl (by decide) rfl rfl rfl (Nat.le_of_ble_eq_true rfl) (Nat.le_of_ble_eq_true rfl) (Nat.le_of_ble_eq_true rfl) (by simp only [List.map_cons, List.map_nil, gv_xz]; rfl) dL_law_425 (fun v2 P2 H2 locs2 hq2 pt2 hS2 hz2 hk2 => ?_) (Nat.le_refl _) (Nat.le_refl _)
  obtain ⟨⟨r2, rfl, hr2, hp2⟩, hc2, hI2⟩ := hq2
  have ptO := pt_kept pt1 (fun q hq1 hq2 => hk2 q hq1 (fun h => hdis q hq2 h))
  refine W.eq (g2 := F0 m 428 ls [.int (Int32.ofInt r2)]) rfl ?_
  refine lv_pop hx hb dL_law_428 rfl ?_
  refine lv_goto (tgt := 1093) hx hb dL_law_429 (by decide) ?_
  exact kk H2 locs2 P1 P2 ptO pt2 hI1 hI2 hO1 ⟨_, _, _, _, (by rw [show ((k + 1 : Nat) : Int) = (k : Int) + 1 by omega]; exact hW.nx), hc1, hc2⟩ hS2
set_option maxHeartbeats 4000000 in
set_option maxRecDepth 100000 in
/-- fits -/
theorem law_8 {p : Program} {l : Launch} {e : Env} {s : State} {m : MethodId} {below : List Frame} {meth : Method} {c : Code} {dC : Nat → ClassId} {dI : Nat → Nat → Nat} {K : Nat → ClassId} {aX aM : Nat → Nat} {b L : Nat} {xs : Nat → Int32} {H : Heap} {locs : List Loc} {PX PM : PH} {ls : Array Slot} {i k : Nat} (C : LF p l s m meth c b L xs dC dI K aX aM) (hiL : i + 6 ≤ L) (hk : k ≤ 512) (ptX : ptG WSX (l, dC, dI, K, aX) PX H) (ptM : ptG WSM (l, dC, dI, K, aM) PM H) (hBX : BdX PX) (hIM : IM k PM) (hOX : OWN PX) (hTL : (∃ (T1 : TT) (K1 M1 A1 : PH), WFT (k : Int) K1 M1 A1 ∧ SXT T1 K1 M1 A1 PX ∧ SMT T1 K1 M1 A1 PM)) (hS : va_S (fun q => s.heap.size ≤ q) s.heap H locs) (hl : lv_has ls 4 [(3, .int (nI i)), (2, .ref (aM 0)), (1, .ref (aX 0)), (0, .ref b)]) (kk : ∀ (H : Heap) (locs : List Loc) (PX PM : PH), ptG WSX (l, dC, dI, K, aX) PX H → ptG WSM (l, dC, dI, K, aM) PM H → BdX PX → IM (k + 1) PM → OWN PX → (∃ (T1 : TT) (K1 M1 A1 : PH), WFT ((k + 1 : Nat) : Int) K1 M1 A1 ∧ SXT T1 K1 M1 A1 PX ∧ SMT T1 K1 M1 A1 PM) → va_S (fun q => s.heap.size ≤ q) s.heap H locs → W p l e room_1 s m #[Value.ref b] below meth c H locs 600000 7302250 (lw_Z below #[Value.ref b] s) (F0 m 1093 ls [])) : W p l e room_1 s m #[Value.ref b] below meth c H locs 600000 7302250 (lw_Z below #[Value.ref b] s) (F0 m 432 ls []) := by
  obtain ⟨T1, K1, M1, A1, hW, hTX, hTM⟩ := hTL
  obtain ⟨hx, hb, hml, hown, hts, hXs, hbl, hL, hr, hlk, hKX, hKM, hiX, hiM, hAX, hAM, hdis⟩ := C
  have hbA : ¬ (fun q => s.heap.size ≤ q) b := Nat.not_le.mpr hbl
  refine lv_aload_n hx hb dL_law_432 rfl (lv_at hl 2 rfl) ?_
  refine lv_aload_n hx hb dL_law_433 rfl (lv_at hl 3 rfl) ?_
  refine lv_iload_n hx hb dL_law_434 rfl (lv_at hl 0 rfl) ?_
  refine lv_iconst (v := 1) hx hb dL_law_435 (by decide) ?_
  refine k_iadd (v := nI (i + 1)) hx hb (nI_ad2 i 1) dL_law_436 ?_
  refine va_sld hx hb hXs hbl hbA hS (vp_in_nI (by omega) (by omega)) dL_law_437 ?_
  refine lv_aload_n hx hb dL_law_438 rfl (lv_at hl 3 rfl) ?_
  refine lv_iload_n hx hb dL_law_439 rfl (lv_at hl 0 rfl) ?_
  refine lv_iconst (v := 2) hx hb dL_law_440 (by decide) ?_
  refine k_iadd (v := nI (i + 2)) hx hb (nI_ad2 i 2) dL_law_441 ?_
  refine va_sld hx hb hXs hbl hbA hS (vp_in_nI (by omega) (by omega)) dL_law_442 ?_
  refine lv_aload_n hx hb dL_law_443 rfl (lv_at hl 3 rfl) ?_
  refine lv_iload_n hx hb dL_law_444 rfl (lv_at hl 0 rfl) ?_
  refine lv_iconst (v := 3) hx hb dL_law_445 (by decide) ?_
  refine k_iadd (v := nI (i + 3)) hx hb (nI_ad2 i 3) dL_law_446 ?_
  refine va_sld hx hb hXs hbl hbA hS (vp_in_nI (by omega) (by omega)) dL_law_447 ?_
  refine cw_call (S := WSX) (G := (l, dC, dI, K, aX)) (P := PX) (av := [xz (xs (nI (i + 1)).toNatClampNeg), xz (xs (nI (i + 2)).toNatClampNeg), xz (xs (nI (i + 3)).toNatClampNeg)]) (o := 0) (rest := []) (j := iX11_fits) (n := 3) hx hb hml hown hts hl.1 hKX hiX ptX hS hAX (wX_fits (l, dC, dI, K, aX) PX k hk _ _ _ T1 K1 M1 A1 hW hTM.2.1.an hBX hOX hTX) cf_X11_fits t_983 rfl (by decide) rfl rfl rfl (Nat.le_of_ble_eq_true rfl) (Nat.le_of_ble_eq_true rfl) (Nat.le_of_ble_eq_true rfl) (by simp only [List.map_cons, List.map_nil, gv_xz]; rfl) dL_law_448 (fun v1 P1 H1 locs1 hq1 pt1 hS1 hz1 hk1 => ?_) (Nat.le_refl _) (Nat.le_refl _)
  obtain ⟨⟨r1, rfl, hr1, hp1⟩, hc1, hO1, hI1⟩ := hq1
  have ptN := pt_kept ptM (fun q hq1 hq2 => hk1 q hq1 (fun h => hdis q h hq2))
  refine W.eq (g2 := F0 m 451 ls [.int (Int32.ofInt r1)]) rfl ?_
  refine lv_pop hx hb dL_law_451 rfl ?_
  refine lv_aload_n hx hb dL_law_452 rfl (lv_at hl 1 rfl) ?_
  refine lv_aload_n hx hb dL_law_453 rfl (lv_at hl 3 rfl) ?_
  refine lv_iload_n hx hb dL_law_454 rfl (lv_at hl 0 rfl) ?_
  refine lv_iconst (v := 1) hx hb dL_law_455 (by decide) ?_
  refine k_iadd (v := nI (i + 1)) hx hb (nI_ad2 i 1) dL_law_456 ?_
  refine va_sld hx hb hXs hbl hbA hS1 (vp_in_nI (by omega) (by omega)) dL_law_457 ?_
  refine lv_aload_n hx hb dL_law_458 rfl (lv_at hl 3 rfl) ?_
  refine lv_iload_n hx hb dL_law_459 rfl (lv_at hl 0 rfl) ?_
  refine lv_iconst (v := 2) hx hb dL_law_460 (by decide) ?_
  refine k_iadd (v := nI (i + 2)) hx hb (nI_ad2 i 2) dL_law_461 ?_
  refine va_sld hx hb hXs hbl hbA hS1 (vp_in_nI (by omega) (by omega)) dL_law_462 ?_
  refine lv_aload_n hx hb dL_law_463 rfl (lv_at hl 3 rfl) ?_
  refine lv_iload_n hx hb dL_law_464 rfl (lv_at hl 0 rfl) ?_
  refine lv_iconst (v := 3) hx hb dL_law_465 (by decide) ?_
  refine k_iadd (v := nI (i + 3)) hx hb (nI_ad2 i 3) dL_law_466 ?_
  refine va_sld hx hb hXs hbl hbA hS1 (vp_in_nI (by omega) (by omega)) dL_law_467 ?_
  refine cw_call (S := WSM) (G := (l, dC, dI, K, aM)) (P := PM) (av := [xz (xs (nI (i + 1)).toNatClampNeg), xz (xs (nI (i + 2)).toNatClampNeg), xz (xs (nI (i + 3)).toNatClampNeg)]) (o := 0) (rest := []) (j := iX12_fits) (n := 3) hx hb hml hown hts hl.1 hKM hiM ptN hS1 hAM (wM_fits (l, dC, dI, K, aM) PM k hk _ _ _ T1 K1 M1 A1 hW hIM hTM) cf_X12_fits t_1930 rfl (by decide) rfl rfl rfl (Nat.le_of_ble_eq_true rfl) (Nat.le_of_ble_eq_true rfl) (Nat.le_of_ble_eq_true rfl) (by simp only [List.map_cons, List.map_nil, gv_xz]; rfl) dL_law_468 (fun v2 P2 H2 locs2 hq2 pt2 hS2 hz2 hk2 => ?_) (Nat.le_refl _) (Nat.le_refl _)
  obtain ⟨⟨r2, rfl, hr2, hp2⟩, hc2, hI2⟩ := hq2
  have ptO := pt_kept pt1 (fun q hq1 hq2 => hk2 q hq1 (fun h => hdis q hq2 h))
  refine W.eq (g2 := F0 m 471 ls [.int (Int32.ofInt r2)]) rfl ?_
  refine lv_pop hx hb dL_law_471 rfl ?_
  refine lv_goto (tgt := 1093) hx hb dL_law_472 (by decide) ?_
  exact kk H2 locs2 P1 P2 ptO pt2 hI1 hI2 hO1 ⟨_, _, _, _, (by rw [show ((k + 1 : Nat) : Int) = (k : Int) + 1 by omega]; exact hW.nx), hc1, hc2⟩ hS2
set_option maxHeartbeats 4000000 in
set_option maxRecDepth 100000 in
/-- holds -/
theorem law_9 {p : Program} {l : Launch} {e : Env} {s : State} {m : MethodId} {below : List Frame} {meth : Method} {c : Code} {dC : Nat → ClassId} {dI : Nat → Nat → Nat} {K : Nat → ClassId} {aX aM : Nat → Nat} {b L : Nat} {xs : Nat → Int32} {H : Heap} {locs : List Loc} {PX PM : PH} {ls : Array Slot} {i k : Nat} (C : LF p l s m meth c b L xs dC dI K aX aM) (hiL : i + 6 ≤ L) (hk : k ≤ 512) (ptX : ptG WSX (l, dC, dI, K, aX) PX H) (ptM : ptG WSM (l, dC, dI, K, aM) PM H) (hBX : BdX PX) (hIM : IM k PM) (hOX : OWN PX) (hTL : (∃ (T1 : TT) (K1 M1 A1 : PH), WFT (k : Int) K1 M1 A1 ∧ SXT T1 K1 M1 A1 PX ∧ SMT T1 K1 M1 A1 PM)) (hS : va_S (fun q => s.heap.size ≤ q) s.heap H locs) (hl : lv_has ls 4 [(3, .int (nI i)), (2, .ref (aM 0)), (1, .ref (aX 0)), (0, .ref b)]) (kk : ∀ (H : Heap) (locs : List Loc) (PX PM : PH), ptG WSX (l, dC, dI, K, aX) PX H → ptG WSM (l, dC, dI, K, aM) PM H → BdX PX → IM (k + 1) PM → OWN PX → (∃ (T1 : TT) (K1 M1 A1 : PH), WFT ((k + 1 : Nat) : Int) K1 M1 A1 ∧ SXT T1 K1 M1 A1 PX ∧ SMT T1 K1 M1 A1 PM) → va_S (fun q => s.heap.size ≤ q) s.heap H locs → W p l e room_1 s m #[Value.ref b] below meth c H locs 600000 7302250 (lw_Z below #[Value.ref b] s) (F0 m 1093 ls [])) : W p l e room_1 s m #[Value.ref b] below meth c H locs 600000 7302250 (lw_Z below #[Value.ref b] s) (F0 m 475 ls []) := by
  obtain ⟨T1, K1, M1, A1, hW, hTX, hTM⟩ := hTL
  obtain ⟨hx, hb, hml, hown, hts, hXs, hbl, hL, hr, hlk, hKX, hKM, hiX, hiM, hAX, hAM, hdis⟩ := C
  have hbA : ¬ (fun q => s.heap.size ≤ q) b := Nat.not_le.mpr hbl
  refine lv_aload_n hx hb dL_law_475 rfl (lv_at hl 2 rfl) ?_
  refine lv_aload_n hx hb dL_law_476 rfl (lv_at hl 3 rfl) ?_
  refine lv_iload_n hx hb dL_law_477 rfl (lv_at hl 0 rfl) ?_
  refine lv_iconst (v := 1) hx hb dL_law_478 (by decide) ?_
  refine k_iadd (v := nI (i + 1)) hx hb (nI_ad2 i 1) dL_law_479 ?_
  refine va_sld hx hb hXs hbl hbA hS (vp_in_nI (by omega) (by omega)) dL_law_480 ?_
  refine lv_aload_n hx hb dL_law_481 rfl (lv_at hl 3 rfl) ?_
  refine lv_iload_n hx hb dL_law_482 rfl (lv_at hl 0 rfl) ?_
  refine lv_iconst (v := 2) hx hb dL_law_483 (by decide) ?_
  refine k_iadd (v := nI (i + 2)) hx hb (nI_ad2 i 2) dL_law_484 ?_
  refine va_sld hx hb hXs hbl hbA hS (vp_in_nI (by omega) (by omega)) dL_law_485 ?_
  refine cw_call (S := WSX) (G := (l, dC, dI, K, aX)) (P := PX) (av := [xz (xs (nI (i + 1)).toNatClampNeg), xz (xs (nI (i + 2)).toNatClampNeg)]) (o := 0) (rest := []) (j := iX11_holds) (n := 2) hx hb hml hown hts hl.1 hKX hiX ptX hS hAX (wX_holds (l, dC, dI, K, aX) PX k hk _ _ T1 K1 M1 A1 hW hTM.2.1.an hBX hOX hTX) cf_X11_holds t_988 rfl (by decide) rfl rfl rfl (Nat.le_of_ble_eq_true rfl) (Nat.le_of_ble_eq_true rfl) (Nat.le_of_ble_eq_true rfl) (by simp only [List.map_cons, List.map_nil, gv_xz]; rfl) dL_law_486 (fun v1 P1 H1 locs1 hq1 pt1 hS1 hz1 hk1 => ?_) (Nat.le_refl _) (Nat.le_refl _)
  obtain ⟨⟨r1, rfl, hr1, hp1⟩, hc1, hO1, hI1⟩ := hq1
  have ptN := pt_kept ptM (fun q hq1 hq2 => hk1 q hq1 (fun h => hdis q h hq2))
  refine W.eq (g2 := F0 m 489 ls [.int (Int32.ofInt r1)]) rfl ?_
  refine lv_pop hx hb dL_law_489 rfl ?_
  refine lv_aload_n hx hb dL_law_490 rfl (lv_at hl 1 rfl) ?_
  refine lv_aload_n hx hb dL_law_491 rfl (lv_at hl 3 rfl) ?_
  refine lv_iload_n hx hb dL_law_492 rfl (lv_at hl 0 rfl) ?_
  refine lv_iconst (v := 1) hx hb dL_law_493 (by decide) ?_
  refine k_iadd (v := nI (i + 1)) hx hb (nI_ad2 i 1) dL_law_494 ?_
  refine va_sld hx hb hXs hbl hbA hS1 (vp_in_nI (by omega) (by omega)) dL_law_495 ?_
  refine lv_aload_n hx hb dL_law_496 rfl (lv_at hl 3 rfl) ?_
  refine lv_iload_n hx hb dL_law_497 rfl (lv_at hl 0 rfl) ?_
  refine lv_iconst (v := 2) hx hb dL_law_498 (by decide) ?_
  refine k_iadd (v := nI (i + 2)) hx hb (nI_ad2 i 2) dL_law_499 ?_
  refine va_sld hx hb hXs hbl hbA hS1 (vp_in_nI (by omega) (by omega)) dL_law_500 ?_
  refine cw_call (S := WSM) (G := (l, dC, dI, K, aM)) (P := PM) (av := [xz (xs (nI (i + 1)).toNatClampNeg), xz (xs (nI (i + 2)).toNatClampNeg)]) (o := 0) (rest := []) (j := iX12_holds) (n := 2) hx hb hml hown hts hl.1 hKM hiM ptN hS1 hAM (wM_holds (l, dC, dI, K, aM) PM k hk _ _ T1 K1 M1 A1 hW hIM hTM) cf_X12_holds t_1934 rfl (by decide) rfl rfl rfl (Nat.le_of_ble_eq_true rfl) (Nat.le_of_ble_eq_true rfl) (Nat.le_of_ble_eq_true rfl) (by simp only [List.map_cons, List.map_nil, gv_xz]; rfl) dL_law_501 (fun v2 P2 H2 locs2 hq2 pt2 hS2 hz2 hk2 => ?_) (Nat.le_refl _) (Nat.le_refl _)
  obtain ⟨⟨r2, rfl, hr2, hp2⟩, hc2, hI2⟩ := hq2
  have ptO := pt_kept pt1 (fun q hq1 hq2 => hk2 q hq1 (fun h => hdis q hq2 h))
  refine W.eq (g2 := F0 m 504 ls [.int (Int32.ofInt r2)]) rfl ?_
  refine lv_pop hx hb dL_law_504 rfl ?_
  refine lv_goto (tgt := 1093) hx hb dL_law_505 (by decide) ?_
  exact kk H2 locs2 P1 P2 ptO pt2 hI1 hI2 hO1 ⟨_, _, _, _, (by rw [show ((k + 1 : Nat) : Int) = (k : Int) + 1 by omega]; exact hW.nx), hc1, hc2⟩ hS2
set_option maxHeartbeats 4000000 in
set_option maxRecDepth 100000 in
/-- missing -/
theorem law_10 {p : Program} {l : Launch} {e : Env} {s : State} {m : MethodId} {below : List Frame} {meth : Method} {c : Code} {dC : Nat → ClassId} {dI : Nat → Nat → Nat} {K : Nat → ClassId} {aX aM : Nat → Nat} {b L : Nat} {xs : Nat → Int32} {H : Heap} {locs : List Loc} {PX PM : PH} {ls : Array Slot} {i k : Nat} (C : LF p l s m meth c b L xs dC dI K aX aM) (hiL : i + 6 ≤ L) (hk : k ≤ 512) (ptX : ptG WSX (l, dC, dI, K, aX) PX H) (ptM : ptG WSM (l, dC, dI, K, aM) PM H) (hBX : BdX PX) (hIM : IM k PM) (hOX : OWN PX) (hTL : (∃ (T1 : TT) (K1 M1 A1 : PH), WFT (k : Int) K1 M1 A1 ∧ SXT T1 K1 M1 A1 PX ∧ SMT T1 K1 M1 A1 PM)) (hS : va_S (fun q => s.heap.size ≤ q) s.heap H locs) (hl : lv_has ls 4 [(3, .int (nI i)), (2, .ref (aM 0)), (1, .ref (aX 0)), (0, .ref b)]) (kk : ∀ (H : Heap) (locs : List Loc) (PX PM : PH), ptG WSX (l, dC, dI, K, aX) PX H → ptG WSM (l, dC, dI, K, aM) PM H → BdX PX → IM (k + 1) PM → OWN PX → (∃ (T1 : TT) (K1 M1 A1 : PH), WFT ((k + 1 : Nat) : Int) K1 M1 A1 ∧ SXT T1 K1 M1 A1 PX ∧ SMT T1 K1 M1 A1 PM) → va_S (fun q => s.heap.size ≤ q) s.heap H locs → W p l e room_1 s m #[Value.ref b] below meth c H locs 600000 7302250 (lw_Z below #[Value.ref b] s) (F0 m 1093 ls [])) : W p l e room_1 s m #[Value.ref b] below meth c H locs 600000 7302250 (lw_Z below #[Value.ref b] s) (F0 m 508 ls []) := by
  obtain ⟨T1, K1, M1, A1, hW, hTX, hTM⟩ := hTL
  obtain ⟨hx, hb, hml, hown, hts, hXs, hbl, hL, hr, hlk, hKX, hKM, hiX, hiM, hAX, hAM, hdis⟩ := C
  have hbA : ¬ (fun q => s.heap.size ≤ q) b := Nat.not_le.mpr hbl
  refine lv_aload_n hx hb dL_law_508 rfl (lv_at hl 2 rfl) ?_
  refine lv_aload_n hx hb dL_law_509 rfl (lv_at hl 3 rfl) ?_
  refine lv_iload_n hx hb dL_law_510 rfl (lv_at hl 0 rfl) ?_
  refine lv_iconst (v := 1) hx hb dL_law_511 (by decide) ?_
  refine k_iadd (v := nI (i + 1)) hx hb (nI_ad2 i 1) dL_law_512 ?_
  refine va_sld hx hb hXs hbl hbA hS (vp_in_nI (by omega) (by omega)) dL_law_513 ?_
  refine cw_call (S := WSX) (G := (l, dC, dI, K, aX)) (P := PX) (av := [xz (xs (nI (i + 1)).toNatClampNeg)]) (o := 0) (rest := []) (j := iX11_missing) (n := 1) hx hb hml hown hts hl.1 hKX hiX ptX hS hAX (wX_missing (l, dC, dI, K, aX) PX k hk _ T1 K1 M1 A1 hW hTM.2.1.an hBX hOX hTX) cf_X11_missing t_992 rfl (by decide) rfl rfl rfl (Nat.le_of_ble_eq_true rfl) (Nat.le_of_ble_eq_true rfl) (Nat.le_of_ble_eq_true rfl) (by simp only [List.map_cons, List.map_nil, gv_xz]; rfl) dL_law_514 (fun v1 P1 H1 locs1 hq1 pt1 hS1 hz1 hk1 => ?_) (Nat.le_refl _) (Nat.le_refl _)
  obtain ⟨⟨r1, rfl, hr1, hp1⟩, hc1, hO1, hI1⟩ := hq1
  have ptN := pt_kept ptM (fun q hq1 hq2 => hk1 q hq1 (fun h => hdis q h hq2))
  refine W.eq (g2 := F0 m 517 ls [.int (Int32.ofInt r1)]) rfl ?_
  refine lv_pop hx hb dL_law_517 rfl ?_
  refine lv_aload_n hx hb dL_law_518 rfl (lv_at hl 1 rfl) ?_
  refine lv_aload_n hx hb dL_law_519 rfl (lv_at hl 3 rfl) ?_
  refine lv_iload_n hx hb dL_law_520 rfl (lv_at hl 0 rfl) ?_
  refine lv_iconst (v := 1) hx hb dL_law_521 (by decide) ?_
  refine k_iadd (v := nI (i + 1)) hx hb (nI_ad2 i 1) dL_law_522 ?_
  refine va_sld hx hb hXs hbl hbA hS1 (vp_in_nI (by omega) (by omega)) dL_law_523 ?_
  refine cw_call (S := WSM) (G := (l, dC, dI, K, aM)) (P := PM) (av := [xz (xs (nI (i + 1)).toNatClampNeg)]) (o := 0) (rest := []) (j := iX12_missing) (n := 1) hx hb hml hown hts hl.1 hKM hiM ptN hS1 hAM (wM_missing (l, dC, dI, K, aM) PM k hk _ T1 K1 M1 A1 hW hIM hTM) cf_X12_missing t_1938 rfl (by decide) rfl rfl rfl (Nat.le_of_ble_eq_true rfl) (Nat.le_of_ble_eq_true rfl) (Nat.le_of_ble_eq_true rfl) (by simp only [List.map_cons, List.map_nil, gv_xz]; rfl) dL_law_524 (fun v2 P2 H2 locs2 hq2 pt2 hS2 hz2 hk2 => ?_) (Nat.le_refl _) (Nat.le_refl _)
  obtain ⟨⟨r2, rfl, hr2, hp2⟩, hc2, hI2⟩ := hq2
  have ptO := pt_kept pt1 (fun q hq1 hq2 => hk2 q hq1 (fun h => hdis q hq2 h))
  refine W.eq (g2 := F0 m 527 ls [.int (Int32.ofInt r2)]) rfl ?_
  refine lv_pop hx hb dL_law_527 rfl ?_
  refine lv_goto (tgt := 1093) hx hb dL_law_528 (by decide) ?_
  exact kk H2 locs2 P1 P2 ptO pt2 hI1 hI2 hO1 ⟨_, _, _, _, (by rw [show ((k + 1 : Nat) : Int) = (k : Int) + 1 by omega]; exact hW.nx), hc1, hc2⟩ hS2
set_option maxHeartbeats 4000000 in
set_option maxRecDepth 100000 in
/-- taken -/
theorem law_11 {p : Program} {l : Launch} {e : Env} {s : State} {m : MethodId} {below : List Frame} {meth : Method} {c : Code} {dC : Nat → ClassId} {dI : Nat → Nat → Nat} {K : Nat → ClassId} {aX aM : Nat → Nat} {b L : Nat} {xs : Nat → Int32} {H : Heap} {locs : List Loc} {PX PM : PH} {ls : Array Slot} {i k : Nat} (C : LF p l s m meth c b L xs dC dI K aX aM) (hiL : i + 6 ≤ L) (hk : k ≤ 512) (ptX : ptG WSX (l, dC, dI, K, aX) PX H) (ptM : ptG WSM (l, dC, dI, K, aM) PM H) (hBX : BdX PX) (hIM : IM k PM) (hOX : OWN PX) (hTL : (∃ (T1 : TT) (K1 M1 A1 : PH), WFT (k : Int) K1 M1 A1 ∧ SXT T1 K1 M1 A1 PX ∧ SMT T1 K1 M1 A1 PM)) (hS : va_S (fun q => s.heap.size ≤ q) s.heap H locs) (hl : lv_has ls 4 [(3, .int (nI i)), (2, .ref (aM 0)), (1, .ref (aX 0)), (0, .ref b)]) (kk : ∀ (H : Heap) (locs : List Loc) (PX PM : PH), ptG WSX (l, dC, dI, K, aX) PX H → ptG WSM (l, dC, dI, K, aM) PM H → BdX PX → IM (k + 1) PM → OWN PX → (∃ (T1 : TT) (K1 M1 A1 : PH), WFT ((k + 1 : Nat) : Int) K1 M1 A1 ∧ SXT T1 K1 M1 A1 PX ∧ SMT T1 K1 M1 A1 PM) → va_S (fun q => s.heap.size ≤ q) s.heap H locs → W p l e room_1 s m #[Value.ref b] below meth c H locs 600000 7302250 (lw_Z below #[Value.ref b] s) (F0 m 1093 ls [])) : W p l e room_1 s m #[Value.ref b] below meth c H locs 600000 7302250 (lw_Z below #[Value.ref b] s) (F0 m 531 ls []) := by
  obtain ⟨T1, K1, M1, A1, hW, hTX, hTM⟩ := hTL
  obtain ⟨hx, hb, hml, hown, hts, hXs, hbl, hL, hr, hlk, hKX, hKM, hiX, hiM, hAX, hAM, hdis⟩ := C
  have hbA : ¬ (fun q => s.heap.size ≤ q) b := Nat.not_le.mpr hbl
  refine lv_aload_n hx hb dL_law_531 rfl (lv_at hl 2 rfl) ?_
  refine lv_aload_n hx hb dL_law_532 rfl (lv_at hl 3 rfl) ?_
  refine lv_iload_n hx hb dL_law_533 rfl (lv_at hl 0 rfl) ?_
  refine lv_iconst (v := 1) hx hb dL_law_534 (by decide) ?_
  refine k_iadd (v := nI (i + 1)) hx hb (nI_ad2 i 1) dL_law_535 ?_
  refine va_sld hx hb hXs hbl hbA hS (vp_in_nI (by omega) (by omega)) dL_law_536 ?_
  refine cw_call (S := WSX) (G := (l, dC, dI, K, aX)) (P := PX) (av := [xz (xs (nI (i + 1)).toNatClampNeg)]) (o := 0) (rest := []) (j := iX11_taken) (n := 1) hx hb hml hown hts hl.1 hKX hiX ptX hS hAX (wX_taken (l, dC, dI, K, aX) PX k hk _ T1 K1 M1 A1 hW hTM.2.1.an hBX hOX hTX) cf_X11_taken t_1010 rfl (by decide) rfl rfl rfl (Nat.le_of_ble_eq_true rfl) (Nat.le_of_ble_eq_true rfl) (Nat.le_of_ble_eq_true rfl) (by simp only [List.map_cons, List.map_nil, gv_xz]; rfl) dL_law_537 (fun v1 P1 H1 locs1 hq1 pt1 hS1 hz1 hk1 => ?_) (Nat.le_refl _) (Nat.le_refl _)
  obtain ⟨⟨r1, rfl, hr1, hp1⟩, hc1, hO1, hI1⟩ := hq1
  have ptN := pt_kept ptM (fun q hq1 hq2 => hk1 q hq1 (fun h => hdis q h hq2))
  refine W.eq (g2 := F0 m 540 ls [.int (Int32.ofInt r1)]) rfl ?_
  refine lv_pop hx hb dL_law_540 rfl ?_
  refine lv_aload_n hx hb dL_law_541 rfl (lv_at hl 1 rfl) ?_
  refine lv_aload_n hx hb dL_law_542 rfl (lv_at hl 3 rfl) ?_
  refine lv_iload_n hx hb dL_law_543 rfl (lv_at hl 0 rfl) ?_
  refine lv_iconst (v := 1) hx hb dL_law_544 (by decide) ?_
  refine k_iadd (v := nI (i + 1)) hx hb (nI_ad2 i 1) dL_law_545 ?_
  refine va_sld hx hb hXs hbl hbA hS1 (vp_in_nI (by omega) (by omega)) dL_law_546 ?_
  refine cw_call (S := WSM) (G := (l, dC, dI, K, aM)) (P := PM) (av := [xz (xs (nI (i + 1)).toNatClampNeg)]) (o := 0) (rest := []) (j := iX12_taken) (n := 1) hx hb hml hown hts hl.1 hKM hiM ptN hS1 hAM (wM_taken (l, dC, dI, K, aM) PM k hk _ T1 K1 M1 A1 hW hIM hTM) cf_X12_taken t_1942 rfl (by decide) rfl rfl rfl (Nat.le_of_ble_eq_true rfl) (Nat.le_of_ble_eq_true rfl) (Nat.le_of_ble_eq_true rfl) (by simp only [List.map_cons, List.map_nil, gv_xz]; rfl) dL_law_547 (fun v2 P2 H2 locs2 hq2 pt2 hS2 hz2 hk2 => ?_) (Nat.le_refl _) (Nat.le_refl _)
  obtain ⟨⟨r2, rfl, hr2, hp2⟩, hc2, hI2⟩ := hq2
  have ptO := pt_kept pt1 (fun q hq1 hq2 => hk2 q hq1 (fun h => hdis q hq2 h))
  refine W.eq (g2 := F0 m 550 ls [.int (Int32.ofInt r2)]) rfl ?_
  refine lv_pop hx hb dL_law_550 rfl ?_
  refine lv_goto (tgt := 1093) hx hb dL_law_551 (by decide) ?_
  exact kk H2 locs2 P1 P2 ptO pt2 hI1 hI2 hO1 ⟨_, _, _, _, (by rw [show ((k + 1 : Nat) : Int) = (k : Int) + 1 by omega]; exact hW.nx), hc1, hc2⟩ hS2
set_option maxHeartbeats 4000000 in
set_option maxRecDepth 100000 in
/-- row -/
theorem law_12 {p : Program} {l : Launch} {e : Env} {s : State} {m : MethodId} {below : List Frame} {meth : Method} {c : Code} {dC : Nat → ClassId} {dI : Nat → Nat → Nat} {K : Nat → ClassId} {aX aM : Nat → Nat} {b L : Nat} {xs : Nat → Int32} {H : Heap} {locs : List Loc} {PX PM : PH} {ls : Array Slot} {i k : Nat} (C : LF p l s m meth c b L xs dC dI K aX aM) (hiL : i + 6 ≤ L) (hk : k ≤ 512) (ptX : ptG WSX (l, dC, dI, K, aX) PX H) (ptM : ptG WSM (l, dC, dI, K, aM) PM H) (hBX : BdX PX) (hIM : IM k PM) (hOX : OWN PX) (hTL : (∃ (T1 : TT) (K1 M1 A1 : PH), WFT (k : Int) K1 M1 A1 ∧ SXT T1 K1 M1 A1 PX ∧ SMT T1 K1 M1 A1 PM)) (hS : va_S (fun q => s.heap.size ≤ q) s.heap H locs) (hl : lv_has ls 4 [(3, .int (nI i)), (2, .ref (aM 0)), (1, .ref (aX 0)), (0, .ref b)]) (kk : ∀ (H : Heap) (locs : List Loc) (PX PM : PH), ptG WSX (l, dC, dI, K, aX) PX H → ptG WSM (l, dC, dI, K, aM) PM H → BdX PX → IM (k + 1) PM → OWN PX → (∃ (T1 : TT) (K1 M1 A1 : PH), WFT ((k + 1 : Nat) : Int) K1 M1 A1 ∧ SXT T1 K1 M1 A1 PX ∧ SMT T1 K1 M1 A1 PM) → va_S (fun q => s.heap.size ≤ q) s.heap H locs → W p l e room_1 s m #[Value.ref b] below meth c H locs 600000 7302250 (lw_Z below #[Value.ref b] s) (F0 m 1093 ls [])) : W p l e room_1 s m #[Value.ref b] below meth c H locs 600000 7302250 (lw_Z below #[Value.ref b] s) (F0 m 554 ls []) := by
  obtain ⟨T1, K1, M1, A1, hW, hTX, hTM⟩ := hTL
  obtain ⟨hx, hb, hml, hown, hts, hXs, hbl, hL, hr, hlk, hKX, hKM, hiX, hiM, hAX, hAM, hdis⟩ := C
  have hbA : ¬ (fun q => s.heap.size ≤ q) b := Nat.not_le.mpr hbl
  refine lv_aload_n hx hb dL_law_554 rfl (lv_at hl 2 rfl) ?_
  refine cw_call (S := WSX) (G := (l, dC, dI, K, aX)) (P := PX) (av := []) (o := 0) (rest := []) (j := iX11_row) (n := 0) hx hb hml hown hts hl.1 hKX hiX ptX hS hAX (wX_row (l, dC, dI, K, aX) PX k hk T1 K1 M1 A1 hW hTM.2.1.an hBX hOX hTX) cf_X11_row t_1018 rfl (by decide) rfl rfl rfl (Nat.le_of_ble_eq_true rfl) (Nat.le_of_ble_eq_true rfl) (Nat.le_of_ble_eq_true rfl) (by simp only [List.map_cons, List.map_nil, gv_xz]; rfl) dL_law_555 (fun v1 P1 H1 locs1 hq1 pt1 hS1 hz1 hk1 => ?_) (Nat.le_refl _) (Nat.le_refl _)
  obtain ⟨⟨r1, rfl, hr1, hp1⟩, hc1, hO1, hI1⟩ := hq1
  have ptN := pt_kept ptM (fun q hq1 hq2 => hk1 q hq1 (fun h => hdis q h hq2))
  refine W.eq (g2 := F0 m 558 ls [.int (Int32.ofInt r1)]) rfl ?_
  refine lv_pop hx hb dL_law_558 rfl ?_
  refine lv_aload_n hx hb dL_law_559 rfl (lv_at hl 1 rfl) ?_
  refine cw_call (S := WSM) (G := (l, dC, dI, K, aM)) (P := PM) (av := []) (o := 0) (rest := []) (j := iX12_row) (n := 0) hx hb hml hown hts hl.1 hKM hiM ptN hS1 hAM (wM_row (l, dC, dI, K, aM) PM k hk T1 K1 M1 A1 hW hIM hTM) cf_X12_row t_1950 rfl (by decide) rfl rfl rfl (Nat.le_of_ble_eq_true rfl) (Nat.le_of_ble_eq_true rfl) (Nat.le_of_ble_eq_true rfl) (by simp only [List.map_cons, List.map_nil, gv_xz]; rfl) dL_law_560 (fun v2 P2 H2 locs2 hq2 pt2 hS2 hz2 hk2 => ?_) (Nat.le_refl _) (Nat.le_refl _)
  obtain ⟨⟨r2, rfl, hr2, hp2⟩, hc2, hI2⟩ := hq2
  have ptO := pt_kept pt1 (fun q hq1 hq2 => hk2 q hq1 (fun h => hdis q hq2 h))
  refine W.eq (g2 := F0 m 563 ls [.int (Int32.ofInt r2)]) rfl ?_
  refine lv_pop hx hb dL_law_563 rfl ?_
  refine lv_goto (tgt := 1093) hx hb dL_law_564 (by decide) ?_
  exact kk H2 locs2 P1 P2 ptO pt2 hI1 hI2 hO1 ⟨_, _, _, _, (by rw [show ((k + 1 : Nat) : Int) = (k : Int) + 1 by omega]; exact hW.nx), hc1, hc2⟩ hS2
set_option maxHeartbeats 4000000 in
set_option maxRecDepth 100000 in
/-- text -/
theorem law_13 {p : Program} {l : Launch} {e : Env} {s : State} {m : MethodId} {below : List Frame} {meth : Method} {c : Code} {dC : Nat → ClassId} {dI : Nat → Nat → Nat} {K : Nat → ClassId} {aX aM : Nat → Nat} {b L : Nat} {xs : Nat → Int32} {H : Heap} {locs : List Loc} {PX PM : PH} {ls : Array Slot} {i k : Nat} (C : LF p l s m meth c b L xs dC dI K aX aM) (hiL : i + 6 ≤ L) (hk : k ≤ 512) (ptX : ptG WSX (l, dC, dI, K, aX) PX H) (ptM : ptG WSM (l, dC, dI, K, aM) PM H) (hBX : BdX PX) (hIM : IM k PM) (hOX : OWN PX) (hTL : (∃ (T1 : TT) (K1 M1 A1 : PH), WFT (k : Int) K1 M1 A1 ∧ SXT T1 K1 M1 A1 PX ∧ SMT T1 K1 M1 A1 PM)) (hS : va_S (fun q => s.heap.size ≤ q) s.heap H locs) (hl : lv_has ls 4 [(3, .int (nI i)), (2, .ref (aM 0)), (1, .ref (aX 0)), (0, .ref b)]) (kk : ∀ (H : Heap) (locs : List Loc) (PX PM : PH), ptG WSX (l, dC, dI, K, aX) PX H → ptG WSM (l, dC, dI, K, aM) PM H → BdX PX → IM (k + 1) PM → OWN PX → (∃ (T1 : TT) (K1 M1 A1 : PH), WFT ((k + 1 : Nat) : Int) K1 M1 A1 ∧ SXT T1 K1 M1 A1 PX ∧ SMT T1 K1 M1 A1 PM) → va_S (fun q => s.heap.size ≤ q) s.heap H locs → W p l e room_1 s m #[Value.ref b] below meth c H locs 600000 7302250 (lw_Z below #[Value.ref b] s) (F0 m 1093 ls [])) : W p l e room_1 s m #[Value.ref b] below meth c H locs 600000 7302250 (lw_Z below #[Value.ref b] s) (F0 m 567 ls []) := by
  obtain ⟨T1, K1, M1, A1, hW, hTX, hTM⟩ := hTL
  obtain ⟨hx, hb, hml, hown, hts, hXs, hbl, hL, hr, hlk, hKX, hKM, hiX, hiM, hAX, hAM, hdis⟩ := C
  have hbA : ¬ (fun q => s.heap.size ≤ q) b := Nat.not_le.mpr hbl
  refine lv_aload_n hx hb dL_law_567 rfl (lv_at hl 2 rfl) ?_
  refine lv_aload_n hx hb dL_law_568 rfl (lv_at hl 3 rfl) ?_
  refine lv_iload_n hx hb dL_law_569 rfl (lv_at hl 0 rfl) ?_
  refine lv_iconst (v := 1) hx hb dL_law_570 (by decide) ?_
  refine k_iadd (v := nI (i + 1)) hx hb (nI_ad2 i 1) dL_law_571 ?_
  refine va_sld hx hb hXs hbl hbA hS (vp_in_nI (by omega) (by omega)) dL_law_572 ?_
  refine cw_call (S := WSX) (G := (l, dC, dI, K, aX)) (P := PX) (av := [xz (xs (nI (i + 1)).toNatClampNeg)]) (o := 0) (rest := []) (j := iX11_text) (n := 1) hx hb hml hown hts hl.1 hKX hiX ptX hS hAX (wX_text (l, dC, dI, K, aX) PX k hk _ T1 K1 M1 A1 hW hTM.2.1.an hBX hOX hTX) cf_X11_text t_1029 rfl (by decide) rfl rfl rfl (Nat.le_of_ble_eq_true rfl) (Nat.le_of_ble_eq_true rfl) (Nat.le_of_ble_eq_true rfl) (by simp only [List.map_cons, List.map_nil, gv_xz]; rfl) dL_law_573 (fun v1 P1 H1 locs1 hq1 pt1 hS1 hz1 hk1 => ?_) (Nat.le_refl _) (Nat.le_refl _)
  obtain ⟨⟨r1, rfl, hr1, hp1⟩, hc1, hO1, hI1⟩ := hq1
  have ptN := pt_kept ptM (fun q hq1 hq2 => hk1 q hq1 (fun h => hdis q h hq2))
  refine W.eq (g2 := F0 m 576 ls [.int (Int32.ofInt r1)]) rfl ?_
  refine lv_pop hx hb dL_law_576 rfl ?_
  refine lv_aload_n hx hb dL_law_577 rfl (lv_at hl 1 rfl) ?_
  refine lv_aload_n hx hb dL_law_578 rfl (lv_at hl 3 rfl) ?_
  refine lv_iload_n hx hb dL_law_579 rfl (lv_at hl 0 rfl) ?_
  refine lv_iconst (v := 1) hx hb dL_law_580 (by decide) ?_
  refine k_iadd (v := nI (i + 1)) hx hb (nI_ad2 i 1) dL_law_581 ?_
  refine va_sld hx hb hXs hbl hbA hS1 (vp_in_nI (by omega) (by omega)) dL_law_582 ?_
  refine cw_call (S := WSM) (G := (l, dC, dI, K, aM)) (P := PM) (av := [xz (xs (nI (i + 1)).toNatClampNeg)]) (o := 0) (rest := []) (j := iX12_text) (n := 1) hx hb hml hown hts hl.1 hKM hiM ptN hS1 hAM (wM_text (l, dC, dI, K, aM) PM k hk _ T1 K1 M1 A1 hW hIM hTM) cf_X12_text t_1966 rfl (by decide) rfl rfl rfl (Nat.le_of_ble_eq_true rfl) (Nat.le_of_ble_eq_true rfl) (Nat.le_of_ble_eq_true rfl) (by simp only [List.map_cons, List.map_nil, gv_xz]; rfl) dL_law_583 (fun v2 P2 H2 locs2 hq2 pt2 hS2 hz2 hk2 => ?_) (Nat.le_refl _) (Nat.le_refl _)
  obtain ⟨⟨r2, rfl, hr2, hp2⟩, hc2, hI2⟩ := hq2
  have ptO := pt_kept pt1 (fun q hq1 hq2 => hk2 q hq1 (fun h => hdis q hq2 h))
  refine W.eq (g2 := F0 m 586 ls [.int (Int32.ofInt r2)]) rfl ?_
  refine lv_pop hx hb dL_law_586 rfl ?_
  refine lv_goto (tgt := 1093) hx hb dL_law_587 (by decide) ?_
  exact kk H2 locs2 P1 P2 ptO pt2 hI1 hI2 hO1 ⟨_, _, _, _, (by rw [show ((k + 1 : Nat) : Int) = (k : Int) + 1 by omega]; exact hW.nx), hc1, hc2⟩ hS2
set_option maxHeartbeats 4000000 in
set_option maxRecDepth 100000 in
/-- octet -/
theorem law_14 {p : Program} {l : Launch} {e : Env} {s : State} {m : MethodId} {below : List Frame} {meth : Method} {c : Code} {dC : Nat → ClassId} {dI : Nat → Nat → Nat} {K : Nat → ClassId} {aX aM : Nat → Nat} {b L : Nat} {xs : Nat → Int32} {H : Heap} {locs : List Loc} {PX PM : PH} {ls : Array Slot} {i k : Nat} (C : LF p l s m meth c b L xs dC dI K aX aM) (hiL : i + 6 ≤ L) (hk : k ≤ 512) (ptX : ptG WSX (l, dC, dI, K, aX) PX H) (ptM : ptG WSM (l, dC, dI, K, aM) PM H) (hBX : BdX PX) (hIM : IM k PM) (hOX : OWN PX) (hTL : (∃ (T1 : TT) (K1 M1 A1 : PH), WFT (k : Int) K1 M1 A1 ∧ SXT T1 K1 M1 A1 PX ∧ SMT T1 K1 M1 A1 PM)) (hS : va_S (fun q => s.heap.size ≤ q) s.heap H locs) (hl : lv_has ls 4 [(3, .int (nI i)), (2, .ref (aM 0)), (1, .ref (aX 0)), (0, .ref b)]) (kk : ∀ (H : Heap) (locs : List Loc) (PX PM : PH), ptG WSX (l, dC, dI, K, aX) PX H → ptG WSM (l, dC, dI, K, aM) PM H → BdX PX → IM (k + 1) PM → OWN PX → (∃ (T1 : TT) (K1 M1 A1 : PH), WFT ((k + 1 : Nat) : Int) K1 M1 A1 ∧ SXT T1 K1 M1 A1 PX ∧ SMT T1 K1 M1 A1 PM) → va_S (fun q => s.heap.size ≤ q) s.heap H locs → W p l e room_1 s m #[Value.ref b] below meth c H locs 600000 7302250 (lw_Z below #[Value.ref b] s) (F0 m 1093 ls [])) : W p l e room_1 s m #[Value.ref b] below meth c H locs 600000 7302250 (lw_Z below #[Value.ref b] s) (F0 m 590 ls []) := by
  obtain ⟨T1, K1, M1, A1, hW, hTX, hTM⟩ := hTL
  obtain ⟨hx, hb, hml, hown, hts, hXs, hbl, hL, hr, hlk, hKX, hKM, hiX, hiM, hAX, hAM, hdis⟩ := C
  have hbA : ¬ (fun q => s.heap.size ≤ q) b := Nat.not_le.mpr hbl
  refine lv_aload_n hx hb dL_law_590 rfl (lv_at hl 2 rfl) ?_
  refine lv_aload_n hx hb dL_law_591 rfl (lv_at hl 3 rfl) ?_
  refine lv_iload_n hx hb dL_law_592 rfl (lv_at hl 0 rfl) ?_
  refine lv_iconst (v := 1) hx hb dL_law_593 (by decide) ?_
  refine k_iadd (v := nI (i + 1)) hx hb (nI_ad2 i 1) dL_law_594 ?_
  refine va_sld hx hb hXs hbl hbA hS (vp_in_nI (by omega) (by omega)) dL_law_595 ?_
  refine cw_call (S := WSX) (G := (l, dC, dI, K, aX)) (P := PX) (av := [xz (xs (nI (i + 1)).toNatClampNeg)]) (o := 0) (rest := []) (j := iX11_octet) (n := 1) hx hb hml hown hts hl.1 hKX hiX ptX hS hAX (wX_octet (l, dC, dI, K, aX) PX k hk _ T1 K1 M1 A1 hW hTM.2.1.an hBX hOX hTX) cf_X11_octet t_1055 rfl (by decide) rfl rfl rfl (Nat.le_of_ble_eq_true rfl) (Nat.le_of_ble_eq_true rfl) (Nat.le_of_ble_eq_true rfl) (by simp only [List.map_cons, List.map_nil, gv_xz]; rfl) dL_law_596 (fun v1 P1 H1 locs1 hq1 pt1 hS1 hz1 hk1 => ?_) (Nat.le_refl _) (Nat.le_refl _)
  obtain ⟨⟨r1, rfl, hr1, hp1⟩, hc1, hO1, hI1⟩ := hq1
  have ptN := pt_kept ptM (fun q hq1 hq2 => hk1 q hq1 (fun h => hdis q h hq2))
  refine W.eq (g2 := F0 m 599 ls [.int (Int32.ofInt r1)]) rfl ?_
  refine lv_pop hx hb dL_law_599 rfl ?_
  refine lv_aload_n hx hb dL_law_600 rfl (lv_at hl 1 rfl) ?_
  refine lv_aload_n hx hb dL_law_601 rfl (lv_at hl 3 rfl) ?_
  refine lv_iload_n hx hb dL_law_602 rfl (lv_at hl 0 rfl) ?_
  refine lv_iconst (v := 1) hx hb dL_law_603 (by decide) ?_
  refine k_iadd (v := nI (i + 1)) hx hb (nI_ad2 i 1) dL_law_604 ?_
  refine va_sld hx hb hXs hbl hbA hS1 (vp_in_nI (by omega) (by omega)) dL_law_605 ?_
  refine cw_call (S := WSM) (G := (l, dC, dI, K, aM)) (P := PM) (av := [xz (xs (nI (i + 1)).toNatClampNeg)]) (o := 0) (rest := []) (j := iX12_octet) (n := 1) hx hb hml hown hts hl.1 hKM hiM ptN hS1 hAM (wM_octet (l, dC, dI, K, aM) PM k hk _ T1 K1 M1 A1 hW hIM hTM) cf_X12_octet t_1990 rfl (by decide) rfl rfl rfl (Nat.le_of_ble_eq_true rfl) (Nat.le_of_ble_eq_true rfl) (Nat.le_of_ble_eq_true rfl) (by simp only [List.map_cons, List.map_nil, gv_xz]; rfl) dL_law_606 (fun v2 P2 H2 locs2 hq2 pt2 hS2 hz2 hk2 => ?_) (Nat.le_refl _) (Nat.le_refl _)
  obtain ⟨⟨r2, rfl, hr2, hp2⟩, hc2, hI2⟩ := hq2
  have ptO := pt_kept pt1 (fun q hq1 hq2 => hk2 q hq1 (fun h => hdis q hq2 h))
  refine W.eq (g2 := F0 m 609 ls [.int (Int32.ofInt r2)]) rfl ?_
  refine lv_pop hx hb dL_law_609 rfl ?_
  refine lv_goto (tgt := 1093) hx hb dL_law_610 (by decide) ?_
  exact kk H2 locs2 P1 P2 ptO pt2 hI1 hI2 hO1 ⟨_, _, _, _, (by rw [show ((k + 1 : Nat) : Int) = (k : Int) + 1 by omega]; exact hW.nx), hc1, hc2⟩ hS2
set_option maxHeartbeats 4000000 in
set_option maxRecDepth 100000 in
/-- tree -/
theorem law_15 {p : Program} {l : Launch} {e : Env} {s : State} {m : MethodId} {below : List Frame} {meth : Method} {c : Code} {dC : Nat → ClassId} {dI : Nat → Nat → Nat} {K : Nat → ClassId} {aX aM : Nat → Nat} {b L : Nat} {xs : Nat → Int32} {H : Heap} {locs : List Loc} {PX PM : PH} {ls : Array Slot} {i k : Nat} (C : LF p l s m meth c b L xs dC dI K aX aM) (hiL : i + 6 ≤ L) (hk : k ≤ 512) (ptX : ptG WSX (l, dC, dI, K, aX) PX H) (ptM : ptG WSM (l, dC, dI, K, aM) PM H) (hBX : BdX PX) (hIM : IM k PM) (hOX : OWN PX) (hTL : (∃ (T1 : TT) (K1 M1 A1 : PH), WFT (k : Int) K1 M1 A1 ∧ SXT T1 K1 M1 A1 PX ∧ SMT T1 K1 M1 A1 PM)) (hS : va_S (fun q => s.heap.size ≤ q) s.heap H locs) (hl : lv_has ls 4 [(3, .int (nI i)), (2, .ref (aM 0)), (1, .ref (aX 0)), (0, .ref b)]) (kk : ∀ (H : Heap) (locs : List Loc) (PX PM : PH), ptG WSX (l, dC, dI, K, aX) PX H → ptG WSM (l, dC, dI, K, aM) PM H → BdX PX → IM (k + 1) PM → OWN PX → (∃ (T1 : TT) (K1 M1 A1 : PH), WFT ((k + 1 : Nat) : Int) K1 M1 A1 ∧ SXT T1 K1 M1 A1 PX ∧ SMT T1 K1 M1 A1 PM) → va_S (fun q => s.heap.size ≤ q) s.heap H locs → W p l e room_1 s m #[Value.ref b] below meth c H locs 600000 7302250 (lw_Z below #[Value.ref b] s) (F0 m 1093 ls [])) : W p l e room_1 s m #[Value.ref b] below meth c H locs 600000 7302250 (lw_Z below #[Value.ref b] s) (F0 m 613 ls []) := by
  obtain ⟨T1, K1, M1, A1, hW, hTX, hTM⟩ := hTL
  obtain ⟨hx, hb, hml, hown, hts, hXs, hbl, hL, hr, hlk, hKX, hKM, hiX, hiM, hAX, hAM, hdis⟩ := C
  have hbA : ¬ (fun q => s.heap.size ≤ q) b := Nat.not_le.mpr hbl
  refine lv_aload_n hx hb dL_law_613 rfl (lv_at hl 2 rfl) ?_
  refine lv_aload_n hx hb dL_law_614 rfl (lv_at hl 3 rfl) ?_
  refine lv_iload_n hx hb dL_law_615 rfl (lv_at hl 0 rfl) ?_
  refine lv_iconst (v := 1) hx hb dL_law_616 (by decide) ?_
  refine k_iadd (v := nI (i + 1)) hx hb (nI_ad2 i 1) dL_law_617 ?_
  refine va_sld hx hb hXs hbl hbA hS (vp_in_nI (by omega) (by omega)) dL_law_618 ?_
  refine lv_aload_n hx hb dL_law_619 rfl (lv_at hl 3 rfl) ?_
  refine lv_iload_n hx hb dL_law_620 rfl (lv_at hl 0 rfl) ?_
  refine lv_iconst (v := 2) hx hb dL_law_621 (by decide) ?_
  refine k_iadd (v := nI (i + 2)) hx hb (nI_ad2 i 2) dL_law_622 ?_
  refine va_sld hx hb hXs hbl hbA hS (vp_in_nI (by omega) (by omega)) dL_law_623 ?_
  refine cw_call (S := WSX) (G := (l, dC, dI, K, aX)) (P := PX) (av := [xz (xs (nI (i + 1)).toNatClampNeg), xz (xs (nI (i + 2)).toNatClampNeg)]) (o := 0) (rest := []) (j := iX11_tree) (n := 2) hx hb hml hown hts hl.1 hKX hiX ptX hS hAX (wX_tree (l, dC, dI, K, aX) PX k hk _ _ T1 K1 M1 A1 hW hTM.2.1.an hBX hOX hTX) cf_X11_tree t_1063 rfl (by decide) rfl rfl rfl (Nat.le_of_ble_eq_true rfl) (Nat.le_of_ble_eq_true rfl) (Nat.le_of_ble_eq_true rfl) (by simp only [List.map_cons, List.map_nil, gv_xz]; rfl) dL_law_624 (fun v1 P1 H1 locs1 hq1 pt1 hS1 hz1 hk1 => ?_) (Nat.le_refl _) (Nat.le_refl _)
  obtain ⟨⟨r1, rfl, hr1, hp1⟩, hc1, hO1, hI1⟩ := hq1
  have ptN := pt_kept ptM (fun q hq1 hq2 => hk1 q hq1 (fun h => hdis q h hq2))
  refine W.eq (g2 := F0 m 627 ls [.int (Int32.ofInt r1)]) rfl ?_
  refine lv_pop hx hb dL_law_627 rfl ?_
  refine lv_aload_n hx hb dL_law_628 rfl (lv_at hl 1 rfl) ?_
  refine lv_aload_n hx hb dL_law_629 rfl (lv_at hl 3 rfl) ?_
  refine lv_iload_n hx hb dL_law_630 rfl (lv_at hl 0 rfl) ?_
  refine lv_iconst (v := 1) hx hb dL_law_631 (by decide) ?_
  refine k_iadd (v := nI (i + 1)) hx hb (nI_ad2 i 1) dL_law_632 ?_
  refine va_sld hx hb hXs hbl hbA hS1 (vp_in_nI (by omega) (by omega)) dL_law_633 ?_
  refine lv_aload_n hx hb dL_law_634 rfl (lv_at hl 3 rfl) ?_
  refine lv_iload_n hx hb dL_law_635 rfl (lv_at hl 0 rfl) ?_
  refine lv_iconst (v := 2) hx hb dL_law_636 (by decide) ?_
  refine k_iadd (v := nI (i + 2)) hx hb (nI_ad2 i 2) dL_law_637 ?_
  refine va_sld hx hb hXs hbl hbA hS1 (vp_in_nI (by omega) (by omega)) dL_law_638 ?_
  refine cw_call (S := WSM) (G := (l, dC, dI, K, aM)) (P := PM) (av := [xz (xs (nI (i + 1)).toNatClampNeg), xz (xs (nI (i + 2)).toNatClampNeg)]) (o := 0) (rest := []) (j := iX12_tree) (n := 2) hx hb hml hown hts hl.1 hKM hiM ptN hS1 hAM (wM_tree (l, dC, dI, K, aM) PM k hk _ _ T1 K1 M1 A1 hW hIM hTM) cf_X12_tree t_1994 rfl (by decide) rfl rfl rfl (Nat.le_of_ble_eq_true rfl) (Nat.le_of_ble_eq_true rfl) (Nat.le_of_ble_eq_true rfl) (by simp only [List.map_cons, List.map_nil, gv_xz]; rfl) dL_law_639 (fun v2 P2 H2 locs2 hq2 pt2 hS2 hz2 hk2 => ?_) (Nat.le_refl _) (Nat.le_refl _)
  obtain ⟨⟨r2, rfl, hr2, hp2⟩, hc2, hI2⟩ := hq2
  have ptO := pt_kept pt1 (fun q hq1 hq2 => hk2 q hq1 (fun h => hdis q hq2 h))
  refine W.eq (g2 := F0 m 642 ls [.int (Int32.ofInt r2)]) rfl ?_
  refine lv_pop hx hb dL_law_642 rfl ?_
  refine lv_goto (tgt := 1093) hx hb dL_law_643 (by decide) ?_
  exact kk H2 locs2 P1 P2 ptO pt2 hI1 hI2 hO1 ⟨_, _, _, _, (by rw [show ((k + 1 : Nat) : Int) = (k : Int) + 1 by omega]; exact hW.nx), hc1, hc2⟩ hS2
set_option maxHeartbeats 4000000 in
set_option maxRecDepth 100000 in
/-- first -/
theorem law_16 {p : Program} {l : Launch} {e : Env} {s : State} {m : MethodId} {below : List Frame} {meth : Method} {c : Code} {dC : Nat → ClassId} {dI : Nat → Nat → Nat} {K : Nat → ClassId} {aX aM : Nat → Nat} {b L : Nat} {xs : Nat → Int32} {H : Heap} {locs : List Loc} {PX PM : PH} {ls : Array Slot} {i k : Nat} (C : LF p l s m meth c b L xs dC dI K aX aM) (hiL : i + 6 ≤ L) (hk : k ≤ 512) (ptX : ptG WSX (l, dC, dI, K, aX) PX H) (ptM : ptG WSM (l, dC, dI, K, aM) PM H) (hBX : BdX PX) (hIM : IM k PM) (hOX : OWN PX) (hTL : (∃ (T1 : TT) (K1 M1 A1 : PH), WFT (k : Int) K1 M1 A1 ∧ SXT T1 K1 M1 A1 PX ∧ SMT T1 K1 M1 A1 PM)) (hS : va_S (fun q => s.heap.size ≤ q) s.heap H locs) (hl : lv_has ls 4 [(3, .int (nI i)), (2, .ref (aM 0)), (1, .ref (aX 0)), (0, .ref b)]) (kk : ∀ (H : Heap) (locs : List Loc) (PX PM : PH), ptG WSX (l, dC, dI, K, aX) PX H → ptG WSM (l, dC, dI, K, aM) PM H → BdX PX → IM (k + 1) PM → OWN PX → (∃ (T1 : TT) (K1 M1 A1 : PH), WFT ((k + 1 : Nat) : Int) K1 M1 A1 ∧ SXT T1 K1 M1 A1 PX ∧ SMT T1 K1 M1 A1 PM) → va_S (fun q => s.heap.size ≤ q) s.heap H locs → W p l e room_1 s m #[Value.ref b] below meth c H locs 600000 7302250 (lw_Z below #[Value.ref b] s) (F0 m 1093 ls [])) : W p l e room_1 s m #[Value.ref b] below meth c H locs 600000 7302250 (lw_Z below #[Value.ref b] s) (F0 m 646 ls []) := by
  obtain ⟨T1, K1, M1, A1, hW, hTX, hTM⟩ := hTL
  obtain ⟨hx, hb, hml, hown, hts, hXs, hbl, hL, hr, hlk, hKX, hKM, hiX, hiM, hAX, hAM, hdis⟩ := C
  have hbA : ¬ (fun q => s.heap.size ≤ q) b := Nat.not_le.mpr hbl
  refine lv_aload_n hx hb dL_law_646 rfl (lv_at hl 2 rfl) ?_
  refine lv_aload_n hx hb dL_law_647 rfl (lv_at hl 3 rfl) ?_
  refine lv_iload_n hx hb dL_law_648 rfl (lv_at hl 0 rfl) ?_
  refine lv_iconst (v := 1) hx hb dL_law_649 (by decide) ?_
  refine k_iadd (v := nI (i + 1)) hx hb (nI_ad2 i 1) dL_law_650 ?_
  refine va_sld hx hb hXs hbl hbA hS (vp_in_nI (by omega) (by omega)) dL_law_651 ?_
  refine cw_call (S := WSX) (G := (l, dC, dI, K, aX)) (P := PX) (av := [xz (xs (nI (i + 1)).toNatClampNeg)]) (o := 0) (rest := []) (j := iX11_first) (n := 1) hx hb hml hown hts hl.1 hKX hiX ptX hS hAX (wX_first (l, dC, dI, K, aX) PX k hk _ T1 K1 M1 A1 hW hTM.2.1.an hBX hOX hTX) cf_X11_first t_1149 rfl (by decide) rfl rfl rfl (Nat.le_of_ble_eq_true rfl) (Nat.le_of_ble_eq_true rfl) (Nat.le_of_ble_eq_true rfl) (by simp only [List.map_cons, List.map_nil, gv_xz]; rfl) dL_law_652 (fun v1 P1 H1 locs1 hq1 pt1 hS1 hz1 hk1 => ?_) (Nat.le_refl _) (Nat.le_refl _)
  obtain ⟨⟨r1, rfl, hr1, hp1⟩, hc1, hO1, hI1⟩ := hq1
  have ptN := pt_kept ptM (fun q hq1 hq2 => hk1 q hq1 (fun h => hdis q h hq2))
  refine W.eq (g2 := F0 m 655 ls [.int (Int32.ofInt r1)]) rfl ?_
  refine lv_pop hx hb dL_law_655 rfl ?_
  refine lv_aload_n hx hb dL_law_656 rfl (lv_at hl 1 rfl) ?_
  refine lv_aload_n hx hb dL_law_657 rfl (lv_at hl 3 rfl) ?_
  refine lv_iload_n hx hb dL_law_658 rfl (lv_at hl 0 rfl) ?_
  refine lv_iconst (v := 1) hx hb dL_law_659 (by decide) ?_
  refine k_iadd (v := nI (i + 1)) hx hb (nI_ad2 i 1) dL_law_660 ?_
  refine va_sld hx hb hXs hbl hbA hS1 (vp_in_nI (by omega) (by omega)) dL_law_661 ?_
  refine cw_call (S := WSM) (G := (l, dC, dI, K, aM)) (P := PM) (av := [xz (xs (nI (i + 1)).toNatClampNeg)]) (o := 0) (rest := []) (j := iX12_first) (n := 1) hx hb hml hown hts hl.1 hKM hiM ptN hS1 hAM (wM_first (l, dC, dI, K, aM) PM k hk _ T1 K1 M1 A1 hW hIM hTM) cf_X12_first t_2061 rfl (by decide) rfl rfl rfl (Nat.le_of_ble_eq_true rfl) (Nat.le_of_ble_eq_true rfl) (Nat.le_of_ble_eq_true rfl) (by simp only [List.map_cons, List.map_nil, gv_xz]; rfl) dL_law_662 (fun v2 P2 H2 locs2 hq2 pt2 hS2 hz2 hk2 => ?_) (Nat.le_refl _) (Nat.le_refl _)
  obtain ⟨⟨r2, rfl, hr2, hp2⟩, hc2, hI2⟩ := hq2
  have ptO := pt_kept pt1 (fun q hq1 hq2 => hk2 q hq1 (fun h => hdis q hq2 h))
  refine W.eq (g2 := F0 m 665 ls [.int (Int32.ofInt r2)]) rfl ?_
  refine lv_pop hx hb dL_law_665 rfl ?_
  refine lv_goto (tgt := 1093) hx hb dL_law_666 (by decide) ?_
  exact kk H2 locs2 P1 P2 ptO pt2 hI1 hI2 hO1 ⟨_, _, _, _, (by rw [show ((k + 1 : Nat) : Int) = (k : Int) + 1 by omega]; exact hW.nx), hc1, hc2⟩ hS2
set_option maxHeartbeats 4000000 in
set_option maxRecDepth 100000 in
/-- scopes -/
theorem law_17 {p : Program} {l : Launch} {e : Env} {s : State} {m : MethodId} {below : List Frame} {meth : Method} {c : Code} {dC : Nat → ClassId} {dI : Nat → Nat → Nat} {K : Nat → ClassId} {aX aM : Nat → Nat} {b L : Nat} {xs : Nat → Int32} {H : Heap} {locs : List Loc} {PX PM : PH} {ls : Array Slot} {i k : Nat} (C : LF p l s m meth c b L xs dC dI K aX aM) (hiL : i + 6 ≤ L) (hk : k ≤ 512) (ptX : ptG WSX (l, dC, dI, K, aX) PX H) (ptM : ptG WSM (l, dC, dI, K, aM) PM H) (hBX : BdX PX) (hIM : IM k PM) (hOX : OWN PX) (hTL : (∃ (T1 : TT) (K1 M1 A1 : PH), WFT (k : Int) K1 M1 A1 ∧ SXT T1 K1 M1 A1 PX ∧ SMT T1 K1 M1 A1 PM)) (hS : va_S (fun q => s.heap.size ≤ q) s.heap H locs) (hl : lv_has ls 4 [(3, .int (nI i)), (2, .ref (aM 0)), (1, .ref (aX 0)), (0, .ref b)]) (kk : ∀ (H : Heap) (locs : List Loc) (PX PM : PH), ptG WSX (l, dC, dI, K, aX) PX H → ptG WSM (l, dC, dI, K, aM) PM H → BdX PX → IM (k + 1) PM → OWN PX → (∃ (T1 : TT) (K1 M1 A1 : PH), WFT ((k + 1 : Nat) : Int) K1 M1 A1 ∧ SXT T1 K1 M1 A1 PX ∧ SMT T1 K1 M1 A1 PM) → va_S (fun q => s.heap.size ≤ q) s.heap H locs → W p l e room_1 s m #[Value.ref b] below meth c H locs 600000 7302250 (lw_Z below #[Value.ref b] s) (F0 m 1093 ls [])) : W p l e room_1 s m #[Value.ref b] below meth c H locs 600000 7302250 (lw_Z below #[Value.ref b] s) (F0 m 669 ls []) := by
  obtain ⟨T1, K1, M1, A1, hW, hTX, hTM⟩ := hTL
  obtain ⟨hx, hb, hml, hown, hts, hXs, hbl, hL, hr, hlk, hKX, hKM, hiX, hiM, hAX, hAM, hdis⟩ := C
  have hbA : ¬ (fun q => s.heap.size ≤ q) b := Nat.not_le.mpr hbl
  refine lv_aload_n hx hb dL_law_669 rfl (lv_at hl 2 rfl) ?_
  refine lv_aload_n hx hb dL_law_670 rfl (lv_at hl 3 rfl) ?_
  refine lv_iload_n hx hb dL_law_671 rfl (lv_at hl 0 rfl) ?_
  refine lv_iconst (v := 1) hx hb dL_law_672 (by decide) ?_
  refine k_iadd (v := nI (i + 1)) hx hb (nI_ad2 i 1) dL_law_673 ?_
  refine va_sld hx hb hXs hbl hbA hS (vp_in_nI (by omega) (by omega)) dL_law_674 ?_
  refine lv_aload_n hx hb dL_law_675 rfl (lv_at hl 3 rfl) ?_
  refine lv_iload_n hx hb dL_law_676 rfl (lv_at hl 0 rfl) ?_
  refine lv_iconst (v := 2) hx hb dL_law_677 (by decide) ?_
  refine k_iadd (v := nI (i + 2)) hx hb (nI_ad2 i 2) dL_law_678 ?_
  refine va_sld hx hb hXs hbl hbA hS (vp_in_nI (by omega) (by omega)) dL_law_679 ?_
  refine lv_aload_n hx hb dL_law_680 rfl (lv_at hl 3 rfl) ?_
  refine lv_iload_n hx hb dL_law_681 rfl (lv_at hl 0 rfl) ?_
  refine lv_iconst (v := 3) hx hb dL_law_682 (by decide) ?_
  refine k_iadd (v := nI (i + 3)) hx hb (nI_ad2 i 3) dL_law_683 ?_
  refine va_sld hx hb hXs hbl hbA hS (vp_in_nI (by omega) (by omega)) dL_law_684 ?_
  refine cw_call (S := WSX) (G := (l, dC, dI, K, aX)) (P := PX) (av := [xz (xs (nI (i + 1)).toNatClampNeg), xz (xs (nI (i + 2)).toNatClampNeg), xz (xs (nI (i + 3)).toNatClampNeg)]) (o := 0) (rest := []) (j := iX11_scopes) (n := 3) hx hb hml hown hts hl.1 hKX hiX ptX hS hAX (wX_scopes (l, dC, dI, K, aX) PX k hk _ _ _ T1 K1 M1 A1 hW hTM.2.1.an hBX hOX hTX) cf_X11_scopes t_1157 rfl (by decide) rfl rfl rfl (Nat.le_of_ble_eq_true rfl) (Nat.le_of_ble_eq_true rfl) (Nat.le_of_ble_eq_true rfl) (by simp only [List.map_cons, List.map_nil, gv_xz]; rfl) dL_law_685 (fun v1 P1 H1 locs1 hq1 pt1 hS1 hz1 hk1 => ?_) (Nat.le_refl _) (Nat.le_refl _)
  obtain ⟨⟨r1, rfl, hr1, hp1⟩, hc1, hO1, hI1⟩ := hq1
  have ptN := pt_kept ptM (fun q hq1 hq2 => hk1 q hq1 (fun h => hdis q h hq2))
  refine W.eq (g2 := F0 m 688 ls [.int (Int32.ofInt r1)]) rfl ?_
  refine lv_pop hx hb dL_law_688 rfl ?_
  refine lv_aload_n hx hb dL_law_689 rfl (lv_at hl 1 rfl) ?_
  refine lv_aload_n hx hb dL_law_690 rfl (lv_at hl 3 rfl) ?_
  refine lv_iload_n hx hb dL_law_691 rfl (lv_at hl 0 rfl) ?_
  refine lv_iconst (v := 1) hx hb dL_law_692 (by decide) ?_
  refine k_iadd (v := nI (i + 1)) hx hb (nI_ad2 i 1) dL_law_693 ?_
  refine va_sld hx hb hXs hbl hbA hS1 (vp_in_nI (by omega) (by omega)) dL_law_694 ?_
  refine lv_aload_n hx hb dL_law_695 rfl (lv_at hl 3 rfl) ?_
  refine lv_iload_n hx hb dL_law_696 rfl (lv_at hl 0 rfl) ?_
  refine lv_iconst (v := 2) hx hb dL_law_697 (by decide) ?_
  refine k_iadd (v := nI (i + 2)) hx hb (nI_ad2 i 2) dL_law_698 ?_
  refine va_sld hx hb hXs hbl hbA hS1 (vp_in_nI (by omega) (by omega)) dL_law_699 ?_
  refine lv_aload_n hx hb dL_law_700 rfl (lv_at hl 3 rfl) ?_
  refine lv_iload_n hx hb dL_law_701 rfl (lv_at hl 0 rfl) ?_
  refine lv_iconst (v := 3) hx hb dL_law_702 (by decide) ?_
  refine k_iadd (v := nI (i + 3)) hx hb (nI_ad2 i 3) dL_law_703 ?_
  refine va_sld hx hb hXs hbl hbA hS1 (vp_in_nI (by omega) (by omega)) dL_law_704 ?_
  refine cw_call (S := WSM) (G := (l, dC, dI, K, aM)) (P := PM) (av := [xz (xs (nI (i + 1)).toNatClampNeg), xz (xs (nI (i + 2)).toNatClampNeg), xz (xs (nI (i + 3)).toNatClampNeg)]) (o := 0) (rest := []) (j := iX12_scopes) (n := 3) hx hb hml hown hts hl.1 hKM hiM ptN hS1 hAM (wM_scopes (l, dC, dI, K, aM) PM k hk _ _ _ T1 K1 M1 A1 hW hIM hTM) cf_X12_scopes t_2065 rfl (by decide) rfl rfl rfl (Nat.le_of_ble_eq_true rfl) (Nat.le_of_ble_eq_true rfl) (Nat.le_of_ble_eq_true rfl) (by simp only [List.map_cons, List.map_nil, gv_xz]; rfl) dL_law_705 (fun v2 P2 H2 locs2 hq2 pt2 hS2 hz2 hk2 => ?_) (Nat.le_refl _) (Nat.le_refl _)
  obtain ⟨⟨r2, rfl, hr2, hp2⟩, hc2, hI2⟩ := hq2
  have ptO := pt_kept pt1 (fun q hq1 hq2 => hk2 q hq1 (fun h => hdis q hq2 h))
  refine W.eq (g2 := F0 m 708 ls [.int (Int32.ofInt r2)]) rfl ?_
  refine lv_pop hx hb dL_law_708 rfl ?_
  refine lv_goto (tgt := 1093) hx hb dL_law_709 (by decide) ?_
  exact kk H2 locs2 P1 P2 ptO pt2 hI1 hI2 hO1 ⟨_, _, _, _, (by rw [show ((k + 1 : Nat) : Int) = (k : Int) + 1 by omega]; exact hW.nx), hc1, hc2⟩ hS2
set_option maxHeartbeats 4000000 in
set_option maxRecDepth 100000 in
/-- safe -/
theorem law_18 {p : Program} {l : Launch} {e : Env} {s : State} {m : MethodId} {below : List Frame} {meth : Method} {c : Code} {dC : Nat → ClassId} {dI : Nat → Nat → Nat} {K : Nat → ClassId} {aX aM : Nat → Nat} {b L : Nat} {xs : Nat → Int32} {H : Heap} {locs : List Loc} {PX PM : PH} {ls : Array Slot} {i k : Nat} (C : LF p l s m meth c b L xs dC dI K aX aM) (hiL : i + 6 ≤ L) (hk : k ≤ 512) (ptX : ptG WSX (l, dC, dI, K, aX) PX H) (ptM : ptG WSM (l, dC, dI, K, aM) PM H) (hBX : BdX PX) (hIM : IM k PM) (hOX : OWN PX) (hTL : (∃ (T1 : TT) (K1 M1 A1 : PH), WFT (k : Int) K1 M1 A1 ∧ SXT T1 K1 M1 A1 PX ∧ SMT T1 K1 M1 A1 PM)) (hS : va_S (fun q => s.heap.size ≤ q) s.heap H locs) (hl : lv_has ls 4 [(3, .int (nI i)), (2, .ref (aM 0)), (1, .ref (aX 0)), (0, .ref b)]) (kk : ∀ (H : Heap) (locs : List Loc) (PX PM : PH), ptG WSX (l, dC, dI, K, aX) PX H → ptG WSM (l, dC, dI, K, aM) PM H → BdX PX → IM (k + 1) PM → OWN PX → (∃ (T1 : TT) (K1 M1 A1 : PH), WFT ((k + 1 : Nat) : Int) K1 M1 A1 ∧ SXT T1 K1 M1 A1 PX ∧ SMT T1 K1 M1 A1 PM) → va_S (fun q => s.heap.size ≤ q) s.heap H locs → W p l e room_1 s m #[Value.ref b] below meth c H locs 600000 7302250 (lw_Z below #[Value.ref b] s) (F0 m 1093 ls [])) : W p l e room_1 s m #[Value.ref b] below meth c H locs 600000 7302250 (lw_Z below #[Value.ref b] s) (F0 m 712 ls []) := by
  obtain ⟨T1, K1, M1, A1, hW, hTX, hTM⟩ := hTL
  obtain ⟨hx, hb, hml, hown, hts, hXs, hbl, hL, hr, hlk, hKX, hKM, hiX, hiM, hAX, hAM, hdis⟩ := C
  have hbA : ¬ (fun q => s.heap.size ≤ q) b := Nat.not_le.mpr hbl
  refine lv_aload_n hx hb dL_law_712 rfl (lv_at hl 2 rfl) ?_
  refine lv_aload_n hx hb dL_law_713 rfl (lv_at hl 3 rfl) ?_
  refine lv_iload_n hx hb dL_law_714 rfl (lv_at hl 0 rfl) ?_
  refine lv_iconst (v := 1) hx hb dL_law_715 (by decide) ?_
  refine k_iadd (v := nI (i + 1)) hx hb (nI_ad2 i 1) dL_law_716 ?_
  refine va_sld hx hb hXs hbl hbA hS (vp_in_nI (by omega) (by omega)) dL_law_717 ?_
  refine lv_aload_n hx hb dL_law_718 rfl (lv_at hl 3 rfl) ?_
  refine lv_iload_n hx hb dL_law_719 rfl (lv_at hl 0 rfl) ?_
  refine lv_iconst (v := 2) hx hb dL_law_720 (by decide) ?_
  refine k_iadd (v := nI (i + 2)) hx hb (nI_ad2 i 2) dL_law_721 ?_
  refine va_sld hx hb hXs hbl hbA hS (vp_in_nI (by omega) (by omega)) dL_law_722 ?_
  refine cw_call (S := WSX) (G := (l, dC, dI, K, aX)) (P := PX) (av := [xz (xs (nI (i + 1)).toNatClampNeg), xz (xs (nI (i + 2)).toNatClampNeg)]) (o := 0) (rest := []) (j := iX11_safe) (n := 2) hx hb hml hown hts hl.1 hKX hiX ptX hS hAX (wX_safe (l, dC, dI, K, aX) PX k hk _ _ T1 K1 M1 A1 hW hTM.2.1.an hBX hOX hTX) cf_X11_safe t_1180 rfl (by decide) rfl rfl rfl (Nat.le_of_ble_eq_true rfl) (Nat.le_of_ble_eq_true rfl) (Nat.le_of_ble_eq_true rfl) (by simp only [List.map_cons, List.map_nil, gv_xz]; rfl) dL_law_723 (fun v1 P1 H1 locs1 hq1 pt1 hS1 hz1 hk1 => ?_) (Nat.le_refl _) (Nat.le_refl _)
  obtain ⟨⟨r1, rfl, hr1, hp1⟩, hc1, hO1, hI1⟩ := hq1
  have ptN := pt_kept ptM (fun q hq1 hq2 => hk1 q hq1 (fun h => hdis q h hq2))
  refine W.eq (g2 := F0 m 726 ls [.int (Int32.ofInt r1)]) rfl ?_
  refine lv_pop hx hb dL_law_726 rfl ?_
  refine lv_aload_n hx hb dL_law_727 rfl (lv_at hl 1 rfl) ?_
  refine lv_aload_n hx hb dL_law_728 rfl (lv_at hl 3 rfl) ?_
  refine lv_iload_n hx hb dL_law_729 rfl (lv_at hl 0 rfl) ?_
  refine lv_iconst (v := 1) hx hb dL_law_730 (by decide) ?_
  refine k_iadd (v := nI (i + 1)) hx hb (nI_ad2 i 1) dL_law_731 ?_
  refine va_sld hx hb hXs hbl hbA hS1 (vp_in_nI (by omega) (by omega)) dL_law_732 ?_
  refine lv_aload_n hx hb dL_law_733 rfl (lv_at hl 3 rfl) ?_
  refine lv_iload_n hx hb dL_law_734 rfl (lv_at hl 0 rfl) ?_
  refine lv_iconst (v := 2) hx hb dL_law_735 (by decide) ?_
  refine k_iadd (v := nI (i + 2)) hx hb (nI_ad2 i 2) dL_law_736 ?_
  refine va_sld hx hb hXs hbl hbA hS1 (vp_in_nI (by omega) (by omega)) dL_law_737 ?_
  refine cw_call (S := WSM) (G := (l, dC, dI, K, aM)) (P := PM) (av := [xz (xs (nI (i + 1)).toNatClampNeg), xz (xs (nI (i + 2)).toNatClampNeg)]) (o := 0) (rest := []) (j := iX12_safe) (n := 2) hx hb hml hown hts hl.1 hKM hiM ptN hS1 hAM (wM_safe (l, dC, dI, K, aM) PM k hk _ _ T1 K1 M1 A1 hW hIM hTM) cf_X12_safe t_2085 rfl (by decide) rfl rfl rfl (Nat.le_of_ble_eq_true rfl) (Nat.le_of_ble_eq_true rfl) (Nat.le_of_ble_eq_true rfl) (by simp only [List.map_cons, List.map_nil, gv_xz]; rfl) dL_law_738 (fun v2 P2 H2 locs2 hq2 pt2 hS2 hz2 hk2 => ?_) (Nat.le_refl _) (Nat.le_refl _)
  obtain ⟨⟨r2, rfl, hr2, hp2⟩, hc2, hI2⟩ := hq2
  have ptO := pt_kept pt1 (fun q hq1 hq2 => hk2 q hq1 (fun h => hdis q hq2 h))
  refine W.eq (g2 := F0 m 741 ls [.int (Int32.ofInt r2)]) rfl ?_
  refine lv_pop hx hb dL_law_741 rfl ?_
  refine lv_goto (tgt := 1093) hx hb dL_law_742 (by decide) ?_
  exact kk H2 locs2 P1 P2 ptO pt2 hI1 hI2 hO1 ⟨_, _, _, _, (by rw [show ((k + 1 : Nat) : Int) = (k : Int) + 1 by omega]; exact hW.nx), hc1, hc2⟩ hS2
set_option maxHeartbeats 4000000 in
set_option maxRecDepth 100000 in
/-- best -/
theorem law_19 {p : Program} {l : Launch} {e : Env} {s : State} {m : MethodId} {below : List Frame} {meth : Method} {c : Code} {dC : Nat → ClassId} {dI : Nat → Nat → Nat} {K : Nat → ClassId} {aX aM : Nat → Nat} {b L : Nat} {xs : Nat → Int32} {H : Heap} {locs : List Loc} {PX PM : PH} {ls : Array Slot} {i k : Nat} (C : LF p l s m meth c b L xs dC dI K aX aM) (hiL : i + 6 ≤ L) (hk : k ≤ 512) (ptX : ptG WSX (l, dC, dI, K, aX) PX H) (ptM : ptG WSM (l, dC, dI, K, aM) PM H) (hBX : BdX PX) (hIM : IM k PM) (hOX : OWN PX) (hTL : (∃ (T1 : TT) (K1 M1 A1 : PH), WFT (k : Int) K1 M1 A1 ∧ SXT T1 K1 M1 A1 PX ∧ SMT T1 K1 M1 A1 PM)) (hS : va_S (fun q => s.heap.size ≤ q) s.heap H locs) (hl : lv_has ls 4 [(3, .int (nI i)), (2, .ref (aM 0)), (1, .ref (aX 0)), (0, .ref b)]) (kk : ∀ (H : Heap) (locs : List Loc) (PX PM : PH), ptG WSX (l, dC, dI, K, aX) PX H → ptG WSM (l, dC, dI, K, aM) PM H → BdX PX → IM (k + 1) PM → OWN PX → (∃ (T1 : TT) (K1 M1 A1 : PH), WFT ((k + 1 : Nat) : Int) K1 M1 A1 ∧ SXT T1 K1 M1 A1 PX ∧ SMT T1 K1 M1 A1 PM) → va_S (fun q => s.heap.size ≤ q) s.heap H locs → W p l e room_1 s m #[Value.ref b] below meth c H locs 600000 7302250 (lw_Z below #[Value.ref b] s) (F0 m 1093 ls [])) : W p l e room_1 s m #[Value.ref b] below meth c H locs 600000 7302250 (lw_Z below #[Value.ref b] s) (F0 m 745 ls []) := by
  obtain ⟨T1, K1, M1, A1, hW, hTX, hTM⟩ := hTL
  obtain ⟨hx, hb, hml, hown, hts, hXs, hbl, hL, hr, hlk, hKX, hKM, hiX, hiM, hAX, hAM, hdis⟩ := C
  have hbA : ¬ (fun q => s.heap.size ≤ q) b := Nat.not_le.mpr hbl
  refine lv_aload_n hx hb dL_law_745 rfl (lv_at hl 2 rfl) ?_
  refine lv_aload_n hx hb dL_law_746 rfl (lv_at hl 3 rfl) ?_
  refine lv_iload_n hx hb dL_law_747 rfl (lv_at hl 0 rfl) ?_
  refine lv_iconst (v := 1) hx hb dL_law_748 (by decide) ?_
  refine k_iadd (v := nI (i + 1)) hx hb (nI_ad2 i 1) dL_law_749 ?_
  refine va_sld hx hb hXs hbl hbA hS (vp_in_nI (by omega) (by omega)) dL_law_750 ?_
  refine cw_call (S := WSX) (G := (l, dC, dI, K, aX)) (P := PX) (av := [xz (xs (nI (i + 1)).toNatClampNeg)]) (o := 0) (rest := []) (j := iX11_best) (n := 1) hx hb hml hown hts hl.1 hKX hiX ptX hS hAX (wX_best (l, dC, dI, K, aX) PX k hk _ T1 K1 M1 A1 hW hTM.2.1.an hBX hOX hTX) cf_X11_best t_1202 rfl (by decide) rfl rfl rfl (Nat.le_of_ble_eq_true rfl) (Nat.le_of_ble_eq_true rfl) (Nat.le_of_ble_eq_true rfl) (by simp only [List.map_cons, List.map_nil, gv_xz]; rfl) dL_law_751 (fun v1 P1 H1 locs1 hq1 pt1 hS1 hz1 hk1 => ?_) (Nat.le_refl _) (Nat.le_refl _)
  obtain ⟨⟨r1, rfl, hr1, hp1⟩, hc1, hO1, hI1⟩ := hq1
  have ptN := pt_kept ptM (fun q hq1 hq2 => hk1 q hq1 (fun h => hdis q h hq2))
  refine W.eq (g2 := F0 m 754 ls [.int (Int32.ofInt r1)]) rfl ?_
  refine lv_pop hx hb dL_law_754 rfl ?_
  refine lv_aload_n hx hb dL_law_755 rfl (lv_at hl 1 rfl) ?_
  refine lv_aload_n hx hb dL_law_756 rfl (lv_at hl 3 rfl) ?_
  refine lv_iload_n hx hb dL_law_757 rfl (lv_at hl 0 rfl) ?_
  refine lv_iconst (v := 1) hx hb dL_law_758 (by decide) ?_
  refine k_iadd (v := nI (i + 1)) hx hb (nI_ad2 i 1) dL_law_759 ?_
  refine va_sld hx hb hXs hbl hbA hS1 (vp_in_nI (by omega) (by omega)) dL_law_760 ?_
  refine cw_call (S := WSM) (G := (l, dC, dI, K, aM)) (P := PM) (av := [xz (xs (nI (i + 1)).toNatClampNeg)]) (o := 0) (rest := []) (j := iX12_best) (n := 1) hx hb hml hown hts hl.1 hKM hiM ptN hS1 hAM (wM_best (l, dC, dI, K, aM) PM k hk _ T1 K1 M1 A1 hW hIM hTM) cf_X12_best t_2099 rfl (by decide) rfl rfl rfl (Nat.le_of_ble_eq_true rfl) (Nat.le_of_ble_eq_true rfl) (Nat.le_of_ble_eq_true rfl) (by simp only [List.map_cons, List.map_nil, gv_xz]; rfl) dL_law_761 (fun v2 P2 H2 locs2 hq2 pt2 hS2 hz2 hk2 => ?_) (Nat.le_refl _) (Nat.le_refl _)
  obtain ⟨⟨r2, rfl, hr2, hp2⟩, hc2, hI2⟩ := hq2
  have ptO := pt_kept pt1 (fun q hq1 hq2 => hk2 q hq1 (fun h => hdis q hq2 h))
  refine W.eq (g2 := F0 m 764 ls [.int (Int32.ofInt r2)]) rfl ?_
  refine lv_pop hx hb dL_law_764 rfl ?_
  refine lv_goto (tgt := 1093) hx hb dL_law_765 (by decide) ?_
  exact kk H2 locs2 P1 P2 ptO pt2 hI1 hI2 hO1 ⟨_, _, _, _, (by rw [show ((k + 1 : Nat) : Int) = (k : Int) + 1 by omega]; exact hW.nx), hc1, hc2⟩ hS2
set_option maxHeartbeats 4000000 in
set_option maxRecDepth 100000 in
/-- see -/
theorem law_20 {p : Program} {l : Launch} {e : Env} {s : State} {m : MethodId} {below : List Frame} {meth : Method} {c : Code} {dC : Nat → ClassId} {dI : Nat → Nat → Nat} {K : Nat → ClassId} {aX aM : Nat → Nat} {b L : Nat} {xs : Nat → Int32} {H : Heap} {locs : List Loc} {PX PM : PH} {ls : Array Slot} {i k : Nat} (C : LF p l s m meth c b L xs dC dI K aX aM) (hiL : i + 6 ≤ L) (hk : k ≤ 512) (ptX : ptG WSX (l, dC, dI, K, aX) PX H) (ptM : ptG WSM (l, dC, dI, K, aM) PM H) (hBX : BdX PX) (hIM : IM k PM) (hOX : OWN PX) (hTL : (∃ (T1 : TT) (K1 M1 A1 : PH), WFT (k : Int) K1 M1 A1 ∧ SXT T1 K1 M1 A1 PX ∧ SMT T1 K1 M1 A1 PM)) (hS : va_S (fun q => s.heap.size ≤ q) s.heap H locs) (hl : lv_has ls 4 [(3, .int (nI i)), (2, .ref (aM 0)), (1, .ref (aX 0)), (0, .ref b)]) (kk : ∀ (H : Heap) (locs : List Loc) (PX PM : PH), ptG WSX (l, dC, dI, K, aX) PX H → ptG WSM (l, dC, dI, K, aM) PM H → BdX PX → IM (k + 1) PM → OWN PX → (∃ (T1 : TT) (K1 M1 A1 : PH), WFT ((k + 1 : Nat) : Int) K1 M1 A1 ∧ SXT T1 K1 M1 A1 PX ∧ SMT T1 K1 M1 A1 PM) → va_S (fun q => s.heap.size ≤ q) s.heap H locs → W p l e room_1 s m #[Value.ref b] below meth c H locs 600000 7302250 (lw_Z below #[Value.ref b] s) (F0 m 1093 ls [])) : W p l e room_1 s m #[Value.ref b] below meth c H locs 600000 7302250 (lw_Z below #[Value.ref b] s) (F0 m 768 ls []) := by
  obtain ⟨T1, K1, M1, A1, hW, hTX, hTM⟩ := hTL
  obtain ⟨hx, hb, hml, hown, hts, hXs, hbl, hL, hr, hlk, hKX, hKM, hiX, hiM, hAX, hAM, hdis⟩ := C
  have hbA : ¬ (fun q => s.heap.size ≤ q) b := Nat.not_le.mpr hbl
  refine lv_aload_n hx hb dL_law_768 rfl (lv_at hl 2 rfl) ?_
  refine cw_call (S := WSX) (G := (l, dC, dI, K, aX)) (P := PX) (av := []) (o := 0) (rest := []) (j := iX11_see) (n := 0) hx hb hml hown hts hl.1 hKX hiX ptX hS hAX (wX_see (l, dC, dI, K, aX) PX k hk T1 K1 M1 A1 hW hTM.2.1.an hBX hOX hTX) cf_X11_see t_1210 rfl (by decide) rfl rfl rfl (Nat.le_of_ble_eq_true rfl) (Nat.le_of_ble_eq_true rfl) (Nat.le_of_ble_eq_true rfl) (by simp only [List.map_cons, List.map_nil, gv_xz]; rfl) dL_law_769 (fun v1 P1 H1 locs1 hq1 pt1 hS1 hz1 hk1 => ?_) (Nat.le_refl _) (Nat.le_refl _)
  obtain ⟨⟨r1, rfl, hr1, hp1⟩, hc1, hO1, hI1⟩ := hq1
  have ptN := pt_kept ptM (fun q hq1 hq2 => hk1 q hq1 (fun h => hdis q h hq2))
  refine W.eq (g2 := F0 m 772 ls [.int (Int32.ofInt r1)]) rfl ?_
  refine lv_aload_n hx hb dL_law_772 rfl (lv_at hl 1 rfl) ?_
  refine cw_call (S := WSM) (G := (l, dC, dI, K, aM)) (P := PM) (av := []) (o := 0) (rest := [.int (Int32.ofInt r1)]) (j := iX12_see) (n := 0) hx hb hml hown hts hl.1 hKM hiM ptN hS1 hAM (wM_see (l, dC, dI, K, aM) PM k hk T1 K1 M1 A1 hW hIM hTM) cf_X12_see t_2107 rfl (by decide) rfl rfl rfl (Nat.le_of_ble_eq_true rfl) (Nat.le_of_ble_eq_true rfl) (Nat.le_of_ble_eq_true rfl) (by simp only [List.map_cons, List.map_nil, gv_xz]; rfl) dL_law_773 (fun v2 P2 H2 locs2 hq2 pt2 hS2 hz2 hk2 => ?_) (Nat.le_refl _) (Nat.le_refl _)
  obtain ⟨⟨r2, rfl, hr2, hp2⟩, hc2, hI2⟩ := hq2
  have ptO := pt_kept pt1 (fun q hq1 hq2 => hk2 q hq1 (fun h => hdis q hq2 h))
  refine W.eq (g2 := F0 m 776 ls [.int (Int32.ofInt r2), .int (Int32.ofInt r1)]) rfl ?_
  have e12 : r1 = r2 := by rcases hp1 with ⟨a1, b1⟩ | ⟨a1, b1⟩ <;> rcases hp2 with ⟨a2, b2⟩ | ⟨a2, b2⟩ <;> first | omega | exact absurd b1 b2 | exact absurd b2 b1
  refine lv_icmp_eq (tgt := 1093) hx hb dL_law_776 (by decide) (fun _ => ?_) (fun c9 => absurd (by rw [e12]) c9)
  exact kk H2 locs2 P1 P2 ptO pt2 hI1 hI2 hO1 ⟨_, _, _, _, (by rw [show ((k + 1 : Nat) : Int) = (k : Int) + 1 by omega]; exact hW.n_see), hc1, hc2⟩ hS2
set_option maxHeartbeats 4000000 in
set_option maxRecDepth 100000 in
/-- sets -/
theorem law_21 {p : Program} {l : Launch} {e : Env} {s : State} {m : MethodId} {below : List Frame} {meth : Method} {c : Code} {dC : Nat → ClassId} {dI : Nat → Nat → Nat} {K : Nat → ClassId} {aX aM : Nat → Nat} {b L : Nat} {xs : Nat → Int32} {H : Heap} {locs : List Loc} {PX PM : PH} {ls : Array Slot} {i k : Nat} (C : LF p l s m meth c b L xs dC dI K aX aM) (hiL : i + 6 ≤ L) (hk : k ≤ 512) (ptX : ptG WSX (l, dC, dI, K, aX) PX H) (ptM : ptG WSM (l, dC, dI, K, aM) PM H) (hBX : BdX PX) (hIM : IM k PM) (hOX : OWN PX) (hTL : (∃ (T1 : TT) (K1 M1 A1 : PH), WFT (k : Int) K1 M1 A1 ∧ SXT T1 K1 M1 A1 PX ∧ SMT T1 K1 M1 A1 PM)) (hS : va_S (fun q => s.heap.size ≤ q) s.heap H locs) (hl : lv_has ls 4 [(3, .int (nI i)), (2, .ref (aM 0)), (1, .ref (aX 0)), (0, .ref b)]) (kk : ∀ (H : Heap) (locs : List Loc) (PX PM : PH), ptG WSX (l, dC, dI, K, aX) PX H → ptG WSM (l, dC, dI, K, aM) PM H → BdX PX → IM (k + 1) PM → OWN PX → (∃ (T1 : TT) (K1 M1 A1 : PH), WFT ((k + 1 : Nat) : Int) K1 M1 A1 ∧ SXT T1 K1 M1 A1 PX ∧ SMT T1 K1 M1 A1 PM) → va_S (fun q => s.heap.size ≤ q) s.heap H locs → W p l e room_1 s m #[Value.ref b] below meth c H locs 600000 7302250 (lw_Z below #[Value.ref b] s) (F0 m 1093 ls [])) : W p l e room_1 s m #[Value.ref b] below meth c H locs 600000 7302250 (lw_Z below #[Value.ref b] s) (F0 m 781 ls []) := by
  obtain ⟨T1, K1, M1, A1, hW, hTX, hTM⟩ := hTL
  obtain ⟨hx, hb, hml, hown, hts, hXs, hbl, hL, hr, hlk, hKX, hKM, hiX, hiM, hAX, hAM, hdis⟩ := C
  have hbA : ¬ (fun q => s.heap.size ≤ q) b := Nat.not_le.mpr hbl
  refine lv_aload_n hx hb dL_law_781 rfl (lv_at hl 2 rfl) ?_
  refine lv_aload_n hx hb dL_law_782 rfl (lv_at hl 3 rfl) ?_
  refine lv_iload_n hx hb dL_law_783 rfl (lv_at hl 0 rfl) ?_
  refine lv_iconst (v := 1) hx hb dL_law_784 (by decide) ?_
  refine k_iadd (v := nI (i + 1)) hx hb (nI_ad2 i 1) dL_law_785 ?_
  refine va_sld hx hb hXs hbl hbA hS (vp_in_nI (by omega) (by omega)) dL_law_786 ?_
  refine cw_call (S := WSX) (G := (l, dC, dI, K, aX)) (P := PX) (av := [xz (xs (nI (i + 1)).toNatClampNeg)]) (o := 0) (rest := []) (j := iX11_sets) (n := 1) hx hb hml hown hts hl.1 hKX hiX ptX hS hAX (wX_sets (l, dC, dI, K, aX) PX k hk _ T1 K1 M1 A1 hW hTM.2.1.an hBX hOX hTX) cf_X11_sets t_1225 rfl (by decide) rfl rfl rfl (Nat.le_of_ble_eq_true rfl) (Nat.le_of_ble_eq_true rfl) (Nat.le_of_ble_eq_true rfl) (by simp only [List.map_cons, List.map_nil, gv_xz]; rfl) dL_law_787 (fun v1 P1 H1 locs1 hq1 pt1 hS1 hz1 hk1 => ?_) (Nat.le_refl _) (Nat.le_refl _)
  obtain ⟨⟨r1, rfl, hr1, hp1⟩, hc1, hO1, hI1⟩ := hq1
  have ptN := pt_kept ptM (fun q hq1 hq2 => hk1 q hq1 (fun h => hdis q h hq2))
  refine W.eq (g2 := F0 m 790 ls [.int (Int32.ofInt r1)]) rfl ?_
  refine lv_pop hx hb dL_law_790 rfl ?_
  refine lv_aload_n hx hb dL_law_791 rfl (lv_at hl 1 rfl) ?_
  refine lv_aload_n hx hb dL_law_792 rfl (lv_at hl 3 rfl) ?_
  refine lv_iload_n hx hb dL_law_793 rfl (lv_at hl 0 rfl) ?_
  refine lv_iconst (v := 1) hx hb dL_law_794 (by decide) ?_
  refine k_iadd (v := nI (i + 1)) hx hb (nI_ad2 i 1) dL_law_795 ?_
  refine va_sld hx hb hXs hbl hbA hS1 (vp_in_nI (by omega) (by omega)) dL_law_796 ?_
  refine cw_call (S := WSM) (G := (l, dC, dI, K, aM)) (P := PM) (av := [xz (xs (nI (i + 1)).toNatClampNeg)]) (o := 0) (rest := []) (j := iX12_sets) (n := 1) hx hb hml hown hts hl.1 hKM hiM ptN hS1 hAM (wM_sets (l, dC, dI, K, aM) PM k hk _ T1 K1 M1 A1 hW hIM hTM) cf_X12_sets t_2111 rfl (by decide) rfl rfl rfl (Nat.le_of_ble_eq_true rfl) (Nat.le_of_ble_eq_true rfl) (Nat.le_of_ble_eq_true rfl) (by simp only [List.map_cons, List.map_nil, gv_xz]; rfl) dL_law_797 (fun v2 P2 H2 locs2 hq2 pt2 hS2 hz2 hk2 => ?_) (Nat.le_refl _) (Nat.le_refl _)
  obtain ⟨⟨r2, rfl, hr2, hp2⟩, hc2, hI2⟩ := hq2
  have ptO := pt_kept pt1 (fun q hq1 hq2 => hk2 q hq1 (fun h => hdis q hq2 h))
  refine W.eq (g2 := F0 m 800 ls [.int (Int32.ofInt r2)]) rfl ?_
  refine lv_pop hx hb dL_law_800 rfl ?_
  refine lv_goto (tgt := 1093) hx hb dL_law_801 (by decide) ?_
  exact kk H2 locs2 P1 P2 ptO pt2 hI1 hI2 hO1 ⟨_, _, _, _, (by rw [show ((k + 1 : Nat) : Int) = (k : Int) + 1 by omega]; exact hW.nx), hc1, hc2⟩ hS2
set_option maxHeartbeats 4000000 in
set_option maxRecDepth 100000 in
/-- tells -/
theorem law_22 {p : Program} {l : Launch} {e : Env} {s : State} {m : MethodId} {below : List Frame} {meth : Method} {c : Code} {dC : Nat → ClassId} {dI : Nat → Nat → Nat} {K : Nat → ClassId} {aX aM : Nat → Nat} {b L : Nat} {xs : Nat → Int32} {H : Heap} {locs : List Loc} {PX PM : PH} {ls : Array Slot} {i k : Nat} (C : LF p l s m meth c b L xs dC dI K aX aM) (hiL : i + 6 ≤ L) (hk : k ≤ 512) (ptX : ptG WSX (l, dC, dI, K, aX) PX H) (ptM : ptG WSM (l, dC, dI, K, aM) PM H) (hBX : BdX PX) (hIM : IM k PM) (hOX : OWN PX) (hTL : (∃ (T1 : TT) (K1 M1 A1 : PH), WFT (k : Int) K1 M1 A1 ∧ SXT T1 K1 M1 A1 PX ∧ SMT T1 K1 M1 A1 PM)) (hS : va_S (fun q => s.heap.size ≤ q) s.heap H locs) (hl : lv_has ls 4 [(3, .int (nI i)), (2, .ref (aM 0)), (1, .ref (aX 0)), (0, .ref b)]) (kk : ∀ (H : Heap) (locs : List Loc) (PX PM : PH), ptG WSX (l, dC, dI, K, aX) PX H → ptG WSM (l, dC, dI, K, aM) PM H → BdX PX → IM (k + 1) PM → OWN PX → (∃ (T1 : TT) (K1 M1 A1 : PH), WFT ((k + 1 : Nat) : Int) K1 M1 A1 ∧ SXT T1 K1 M1 A1 PX ∧ SMT T1 K1 M1 A1 PM) → va_S (fun q => s.heap.size ≤ q) s.heap H locs → W p l e room_1 s m #[Value.ref b] below meth c H locs 600000 7302250 (lw_Z below #[Value.ref b] s) (F0 m 1093 ls [])) : W p l e room_1 s m #[Value.ref b] below meth c H locs 600000 7302250 (lw_Z below #[Value.ref b] s) (F0 m 804 ls []) := by
  obtain ⟨T1, K1, M1, A1, hW, hTX, hTM⟩ := hTL
  obtain ⟨hx, hb, hml, hown, hts, hXs, hbl, hL, hr, hlk, hKX, hKM, hiX, hiM, hAX, hAM, hdis⟩ := C
  have hbA : ¬ (fun q => s.heap.size ≤ q) b := Nat.not_le.mpr hbl
  refine lv_aload_n hx hb dL_law_804 rfl (lv_at hl 2 rfl) ?_
  refine lv_aload_n hx hb dL_law_805 rfl (lv_at hl 3 rfl) ?_
  refine lv_iload_n hx hb dL_law_806 rfl (lv_at hl 0 rfl) ?_
  refine lv_iconst (v := 1) hx hb dL_law_807 (by decide) ?_
  refine k_iadd (v := nI (i + 1)) hx hb (nI_ad2 i 1) dL_law_808 ?_
  refine va_sld hx hb hXs hbl hbA hS (vp_in_nI (by omega) (by omega)) dL_law_809 ?_
  refine cw_call (S := WSX) (G := (l, dC, dI, K, aX)) (P := PX) (av := [xz (xs (nI (i + 1)).toNatClampNeg)]) (o := 0) (rest := []) (j := iX11_tells) (n := 1) hx hb hml hown hts hl.1 hKX hiX ptX hS hAX (wX_tells (l, dC, dI, K, aX) PX k hk _ T1 K1 M1 A1 hW hTM.2.1.an hBX hOX hTX) cf_X11_tells t_1239 rfl (by decide) rfl rfl rfl (Nat.le_of_ble_eq_true rfl) (Nat.le_of_ble_eq_true rfl) (Nat.le_of_ble_eq_true rfl) (by simp only [List.map_cons, List.map_nil, gv_xz]; rfl) dL_law_810 (fun v1 P1 H1 locs1 hq1 pt1 hS1 hz1 hk1 => ?_) (Nat.le_refl _) (Nat.le_refl _)
  obtain ⟨⟨r1, rfl, hr1, hp1⟩, hc1, hO1, hI1⟩ := hq1
  have ptN := pt_kept ptM (fun q hq1 hq2 => hk1 q hq1 (fun h => hdis q h hq2))
  refine W.eq (g2 := F0 m 813 ls [.int (Int32.ofInt r1)]) rfl ?_
  refine lv_pop hx hb dL_law_813 rfl ?_
  refine lv_aload_n hx hb dL_law_814 rfl (lv_at hl 1 rfl) ?_
  refine lv_aload_n hx hb dL_law_815 rfl (lv_at hl 3 rfl) ?_
  refine lv_iload_n hx hb dL_law_816 rfl (lv_at hl 0 rfl) ?_
  refine lv_iconst (v := 1) hx hb dL_law_817 (by decide) ?_
  refine k_iadd (v := nI (i + 1)) hx hb (nI_ad2 i 1) dL_law_818 ?_
  refine va_sld hx hb hXs hbl hbA hS1 (vp_in_nI (by omega) (by omega)) dL_law_819 ?_
  refine cw_call (S := WSM) (G := (l, dC, dI, K, aM)) (P := PM) (av := [xz (xs (nI (i + 1)).toNatClampNeg)]) (o := 0) (rest := []) (j := iX12_tells) (n := 1) hx hb hml hown hts hl.1 hKM hiM ptN hS1 hAM (wM_tells (l, dC, dI, K, aM) PM k hk _ T1 K1 M1 A1 hW hIM hTM) cf_X12_tells t_2119 rfl (by decide) rfl rfl rfl (Nat.le_of_ble_eq_true rfl) (Nat.le_of_ble_eq_true rfl) (Nat.le_of_ble_eq_true rfl) (by simp only [List.map_cons, List.map_nil, gv_xz]; rfl) dL_law_820 (fun v2 P2 H2 locs2 hq2 pt2 hS2 hz2 hk2 => ?_) (Nat.le_refl _) (Nat.le_refl _)
  obtain ⟨⟨r2, rfl, hr2, hp2⟩, hc2, hI2⟩ := hq2
  have ptO := pt_kept pt1 (fun q hq1 hq2 => hk2 q hq1 (fun h => hdis q hq2 h))
  refine W.eq (g2 := F0 m 823 ls [.int (Int32.ofInt r2)]) rfl ?_
  refine lv_pop hx hb dL_law_823 rfl ?_
  refine lv_goto (tgt := 1093) hx hb dL_law_824 (by decide) ?_
  exact kk H2 locs2 P1 P2 ptO pt2 hI1 hI2 hO1 ⟨_, _, _, _, (by rw [show ((k + 1 : Nat) : Int) = (k : Int) + 1 by omega]; exact hW.nx), hc1, hc2⟩ hS2
set_option maxHeartbeats 4000000 in
set_option maxRecDepth 100000 in
/-- run -/
theorem law_23 {p : Program} {l : Launch} {e : Env} {s : State} {m : MethodId} {below : List Frame} {meth : Method} {c : Code} {dC : Nat → ClassId} {dI : Nat → Nat → Nat} {K : Nat → ClassId} {aX aM : Nat → Nat} {b L : Nat} {xs : Nat → Int32} {H : Heap} {locs : List Loc} {PX PM : PH} {ls : Array Slot} {i k : Nat} (C : LF p l s m meth c b L xs dC dI K aX aM) (hiL : i + 6 ≤ L) (hk : k ≤ 512) (ptX : ptG WSX (l, dC, dI, K, aX) PX H) (ptM : ptG WSM (l, dC, dI, K, aM) PM H) (hBX : BdX PX) (hIM : IM k PM) (hOX : OWN PX) (hTL : (∃ (T1 : TT) (K1 M1 A1 : PH), WFT (k : Int) K1 M1 A1 ∧ SXT T1 K1 M1 A1 PX ∧ SMT T1 K1 M1 A1 PM)) (hS : va_S (fun q => s.heap.size ≤ q) s.heap H locs) (hl : lv_has ls 4 [(3, .int (nI i)), (2, .ref (aM 0)), (1, .ref (aX 0)), (0, .ref b)]) (kk : ∀ (H : Heap) (locs : List Loc) (PX PM : PH), ptG WSX (l, dC, dI, K, aX) PX H → ptG WSM (l, dC, dI, K, aM) PM H → BdX PX → IM (k + 1) PM → OWN PX → (∃ (T1 : TT) (K1 M1 A1 : PH), WFT ((k + 1 : Nat) : Int) K1 M1 A1 ∧ SXT T1 K1 M1 A1 PX ∧ SMT T1 K1 M1 A1 PM) → va_S (fun q => s.heap.size ≤ q) s.heap H locs → W p l e room_1 s m #[Value.ref b] below meth c H locs 600000 7302250 (lw_Z below #[Value.ref b] s) (F0 m 1093 ls [])) : W p l e room_1 s m #[Value.ref b] below meth c H locs 600000 7302250 (lw_Z below #[Value.ref b] s) (F0 m 827 ls []) := by
  obtain ⟨T1, K1, M1, A1, hW, hTX, hTM⟩ := hTL
  obtain ⟨hx, hb, hml, hown, hts, hXs, hbl, hL, hr, hlk, hKX, hKM, hiX, hiM, hAX, hAM, hdis⟩ := C
  have hbA : ¬ (fun q => s.heap.size ≤ q) b := Nat.not_le.mpr hbl
  refine lv_aload_n hx hb dL_law_827 rfl (lv_at hl 2 rfl) ?_
  refine lv_aload_n hx hb dL_law_828 rfl (lv_at hl 3 rfl) ?_
  refine lv_iload_n hx hb dL_law_829 rfl (lv_at hl 0 rfl) ?_
  refine lv_iconst (v := 1) hx hb dL_law_830 (by decide) ?_
  refine k_iadd (v := nI (i + 1)) hx hb (nI_ad2 i 1) dL_law_831 ?_
  refine va_sld hx hb hXs hbl hbA hS (vp_in_nI (by omega) (by omega)) dL_law_832 ?_
  refine cw_call (S := WSX) (G := (l, dC, dI, K, aX)) (P := PX) (av := [xz (xs (nI (i + 1)).toNatClampNeg)]) (o := 0) (rest := []) (j := iX11_run) (n := 1) hx hb hml hown hts hl.1 hKX hiX ptX hS hAX (wX_run (l, dC, dI, K, aX) PX k hk _ T1 K1 M1 A1 hW hTM.2.1.an hBX hOX hTX) cf_X11_run t_1250 rfl (by decide) rfl rfl rfl (Nat.le_of_ble_eq_true rfl) (Nat.le_of_ble_eq_true rfl) (Nat.le_of_ble_eq_true rfl) (by simp only [List.map_cons, List.map_nil, gv_xz]; rfl) dL_law_833 (fun v1 P1 H1 locs1 hq1 pt1 hS1 hz1 hk1 => ?_) (Nat.le_refl _) (Nat.le_refl _)
  obtain ⟨⟨r1, rfl, hr1, hp1⟩, hc1, hO1, hI1⟩ := hq1
  have ptN := pt_kept ptM (fun q hq1 hq2 => hk1 q hq1 (fun h => hdis q h hq2))
  refine W.eq (g2 := F0 m 836 ls [.int (Int32.ofInt r1)]) rfl ?_
  refine lv_pop hx hb dL_law_836 rfl ?_
  refine lv_aload_n hx hb dL_law_837 rfl (lv_at hl 1 rfl) ?_
  refine lv_aload_n hx hb dL_law_838 rfl (lv_at hl 3 rfl) ?_
  refine lv_iload_n hx hb dL_law_839 rfl (lv_at hl 0 rfl) ?_
  refine lv_iconst (v := 1) hx hb dL_law_840 (by decide) ?_
  refine k_iadd (v := nI (i + 1)) hx hb (nI_ad2 i 1) dL_law_841 ?_
  refine va_sld hx hb hXs hbl hbA hS1 (vp_in_nI (by omega) (by omega)) dL_law_842 ?_
  refine cw_call (S := WSM) (G := (l, dC, dI, K, aM)) (P := PM) (av := [xz (xs (nI (i + 1)).toNatClampNeg)]) (o := 0) (rest := []) (j := iX12_run) (n := 1) hx hb hml hown hts hl.1 hKM hiM ptN hS1 hAM (wM_run (l, dC, dI, K, aM) PM k hk _ T1 K1 M1 A1 hW hIM hTM) cf_X12_run t_2128 rfl (by decide) rfl rfl rfl (Nat.le_of_ble_eq_true rfl) (Nat.le_of_ble_eq_true rfl) (Nat.le_of_ble_eq_true rfl) (by simp only [List.map_cons, List.map_nil, gv_xz]; rfl) dL_law_843 (fun v2 P2 H2 locs2 hq2 pt2 hS2 hz2 hk2 => ?_) (Nat.le_refl _) (Nat.le_refl _)
  obtain ⟨⟨r2, rfl, hr2, hp2⟩, hc2, hI2⟩ := hq2
  have ptO := pt_kept pt1 (fun q hq1 hq2 => hk2 q hq1 (fun h => hdis q hq2 h))
  refine W.eq (g2 := F0 m 846 ls [.int (Int32.ofInt r2)]) rfl ?_
  refine lv_pop hx hb dL_law_846 rfl ?_
  refine lv_goto (tgt := 1093) hx hb dL_law_847 (by decide) ?_
  exact kk H2 locs2 P1 P2 ptO pt2 hI1 hI2 hO1 ⟨_, _, _, _, (by rw [show ((k + 1 : Nat) : Int) = (k : Int) + 1 by omega]; exact hW.n_run), hc1, hc2⟩ hS2
set_option maxHeartbeats 4000000 in
set_option maxRecDepth 100000 in
/-- chance -/
theorem law_24 {p : Program} {l : Launch} {e : Env} {s : State} {m : MethodId} {below : List Frame} {meth : Method} {c : Code} {dC : Nat → ClassId} {dI : Nat → Nat → Nat} {K : Nat → ClassId} {aX aM : Nat → Nat} {b L : Nat} {xs : Nat → Int32} {H : Heap} {locs : List Loc} {PX PM : PH} {ls : Array Slot} {i k : Nat} (C : LF p l s m meth c b L xs dC dI K aX aM) (hiL : i + 6 ≤ L) (hk : k ≤ 512) (ptX : ptG WSX (l, dC, dI, K, aX) PX H) (ptM : ptG WSM (l, dC, dI, K, aM) PM H) (hBX : BdX PX) (hIM : IM k PM) (hOX : OWN PX) (hTL : (∃ (T1 : TT) (K1 M1 A1 : PH), WFT (k : Int) K1 M1 A1 ∧ SXT T1 K1 M1 A1 PX ∧ SMT T1 K1 M1 A1 PM)) (hS : va_S (fun q => s.heap.size ≤ q) s.heap H locs) (hl : lv_has ls 4 [(3, .int (nI i)), (2, .ref (aM 0)), (1, .ref (aX 0)), (0, .ref b)]) (kk : ∀ (H : Heap) (locs : List Loc) (PX PM : PH), ptG WSX (l, dC, dI, K, aX) PX H → ptG WSM (l, dC, dI, K, aM) PM H → BdX PX → IM (k + 1) PM → OWN PX → (∃ (T1 : TT) (K1 M1 A1 : PH), WFT ((k + 1 : Nat) : Int) K1 M1 A1 ∧ SXT T1 K1 M1 A1 PX ∧ SMT T1 K1 M1 A1 PM) → va_S (fun q => s.heap.size ≤ q) s.heap H locs → W p l e room_1 s m #[Value.ref b] below meth c H locs 600000 7302250 (lw_Z below #[Value.ref b] s) (F0 m 1093 ls [])) : W p l e room_1 s m #[Value.ref b] below meth c H locs 600000 7302250 (lw_Z below #[Value.ref b] s) (F0 m 850 ls []) := by
  obtain ⟨T1, K1, M1, A1, hW, hTX, hTM⟩ := hTL
  obtain ⟨hx, hb, hml, hown, hts, hXs, hbl, hL, hr, hlk, hKX, hKM, hiX, hiM, hAX, hAM, hdis⟩ := C
  have hbA : ¬ (fun q => s.heap.size ≤ q) b := Nat.not_le.mpr hbl
  refine lv_aload_n hx hb dL_law_850 rfl (lv_at hl 2 rfl) ?_
  refine lv_aload_n hx hb dL_law_851 rfl (lv_at hl 3 rfl) ?_
  refine lv_iload_n hx hb dL_law_852 rfl (lv_at hl 0 rfl) ?_
  refine lv_iconst (v := 1) hx hb dL_law_853 (by decide) ?_
  refine k_iadd (v := nI (i + 1)) hx hb (nI_ad2 i 1) dL_law_854 ?_
  refine va_sld hx hb hXs hbl hbA hS (vp_in_nI (by omega) (by omega)) dL_law_855 ?_
  refine cw_call (S := WSX) (G := (l, dC, dI, K, aX)) (P := PX) (av := [xz (xs (nI (i + 1)).toNatClampNeg)]) (o := 0) (rest := []) (j := iX11_chance) (n := 1) hx hb hml hown hts hl.1 hKX hiX ptX hS hAX (wX_chance (l, dC, dI, K, aX) PX k hk _ T1 K1 M1 A1 hW hTM.2.1.an hBX hOX hTX) cf_X11_chance t_1279 rfl (by decide) rfl rfl rfl (Nat.le_of_ble_eq_true rfl) (Nat.le_of_ble_eq_true rfl) (Nat.le_of_ble_eq_true rfl) (by simp only [List.map_cons, List.map_nil, gv_xz]; rfl) dL_law_856 (fun v1 P1 H1 locs1 hq1 pt1 hS1 hz1 hk1 => ?_) (Nat.le_refl _) (Nat.le_refl _)
  obtain ⟨⟨r1, rfl, hr1, hp1⟩, hc1, hO1, hI1⟩ := hq1
  have ptN := pt_kept ptM (fun q hq1 hq2 => hk1 q hq1 (fun h => hdis q h hq2))
  refine W.eq (g2 := F0 m 859 ls [.int (Int32.ofInt r1)]) rfl ?_
  refine lv_pop hx hb dL_law_859 rfl ?_
  refine lv_aload_n hx hb dL_law_860 rfl (lv_at hl 1 rfl) ?_
  refine lv_aload_n hx hb dL_law_861 rfl (lv_at hl 3 rfl) ?_
  refine lv_iload_n hx hb dL_law_862 rfl (lv_at hl 0 rfl) ?_
  refine lv_iconst (v := 1) hx hb dL_law_863 (by decide) ?_
  refine k_iadd (v := nI (i + 1)) hx hb (nI_ad2 i 1) dL_law_864 ?_
  refine va_sld hx hb hXs hbl hbA hS1 (vp_in_nI (by omega) (by omega)) dL_law_865 ?_
  refine cw_call (S := WSM) (G := (l, dC, dI, K, aM)) (P := PM) (av := [xz (xs (nI (i + 1)).toNatClampNeg)]) (o := 0) (rest := []) (j := iX12_chance) (n := 1) hx hb hml hown hts hl.1 hKM hiM ptN hS1 hAM (wM_chance (l, dC, dI, K, aM) PM k hk _ T1 K1 M1 A1 hW hIM hTM) cf_X12_chance t_2140 rfl (by decide) rfl rfl rfl (Nat.le_of_ble_eq_true rfl) (Nat.le_of_ble_eq_true rfl) (Nat.le_of_ble_eq_true rfl) (by simp only [List.map_cons, List.map_nil, gv_xz]; rfl) dL_law_866 (fun v2 P2 H2 locs2 hq2 pt2 hS2 hz2 hk2 => ?_) (Nat.le_refl _) (Nat.le_refl _)
  obtain ⟨⟨r2, rfl, hr2, hp2⟩, hc2, hI2⟩ := hq2
  have ptO := pt_kept pt1 (fun q hq1 hq2 => hk2 q hq1 (fun h => hdis q hq2 h))
  refine W.eq (g2 := F0 m 869 ls [.int (Int32.ofInt r2)]) rfl ?_
  refine lv_pop hx hb dL_law_869 rfl ?_
  refine lv_goto (tgt := 1093) hx hb dL_law_870 (by decide) ?_
  exact kk H2 locs2 P1 P2 ptO pt2 hI1 hI2 hO1 ⟨_, _, _, _, (by rw [show ((k + 1 : Nat) : Int) = (k : Int) + 1 by omega]; exact hW.n_chance), hc1, hc2⟩ hS2
set_option maxHeartbeats 4000000 in
set_option maxRecDepth 100000 in
/-- swap -/
theorem law_25 {p : Program} {l : Launch} {e : Env} {s : State} {m : MethodId} {below : List Frame} {meth : Method} {c : Code} {dC : Nat → ClassId} {dI : Nat → Nat → Nat} {K : Nat → ClassId} {aX aM : Nat → Nat} {b L : Nat} {xs : Nat → Int32} {H : Heap} {locs : List Loc} {PX PM : PH} {ls : Array Slot} {i k : Nat} (C : LF p l s m meth c b L xs dC dI K aX aM) (hiL : i + 6 ≤ L) (hk : k ≤ 512) (ptX : ptG WSX (l, dC, dI, K, aX) PX H) (ptM : ptG WSM (l, dC, dI, K, aM) PM H) (hBX : BdX PX) (hIM : IM k PM) (hOX : OWN PX) (hTL : (∃ (T1 : TT) (K1 M1 A1 : PH), WFT (k : Int) K1 M1 A1 ∧ SXT T1 K1 M1 A1 PX ∧ SMT T1 K1 M1 A1 PM)) (hS : va_S (fun q => s.heap.size ≤ q) s.heap H locs) (hl : lv_has ls 4 [(3, .int (nI i)), (2, .ref (aM 0)), (1, .ref (aX 0)), (0, .ref b)]) (kk : ∀ (H : Heap) (locs : List Loc) (PX PM : PH), ptG WSX (l, dC, dI, K, aX) PX H → ptG WSM (l, dC, dI, K, aM) PM H → BdX PX → IM (k + 1) PM → OWN PX → (∃ (T1 : TT) (K1 M1 A1 : PH), WFT ((k + 1 : Nat) : Int) K1 M1 A1 ∧ SXT T1 K1 M1 A1 PX ∧ SMT T1 K1 M1 A1 PM) → va_S (fun q => s.heap.size ≤ q) s.heap H locs → W p l e room_1 s m #[Value.ref b] below meth c H locs 600000 7302250 (lw_Z below #[Value.ref b] s) (F0 m 1093 ls [])) : W p l e room_1 s m #[Value.ref b] below meth c H locs 600000 7302250 (lw_Z below #[Value.ref b] s) (F0 m 873 ls []) := by
  obtain ⟨T1, K1, M1, A1, hW, hTX, hTM⟩ := hTL
  obtain ⟨hx, hb, hml, hown, hts, hXs, hbl, hL, hr, hlk, hKX, hKM, hiX, hiM, hAX, hAM, hdis⟩ := C
  have hbA : ¬ (fun q => s.heap.size ≤ q) b := Nat.not_le.mpr hbl
  refine lv_aload_n hx hb dL_law_873 rfl (lv_at hl 2 rfl) ?_
  refine lv_aload_n hx hb dL_law_874 rfl (lv_at hl 3 rfl) ?_
  refine lv_iload_n hx hb dL_law_875 rfl (lv_at hl 0 rfl) ?_
  refine lv_iconst (v := 1) hx hb dL_law_876 (by decide) ?_
  refine k_iadd (v := nI (i + 1)) hx hb (nI_ad2 i 1) dL_law_877 ?_
  refine va_sld hx hb hXs hbl hbA hS (vp_in_nI (by omega) (by omega)) dL_law_878 ?_
  refine lv_aload_n hx hb dL_law_879 rfl (lv_at hl 3 rfl) ?_
  refine lv_iload_n hx hb dL_law_880 rfl (lv_at hl 0 rfl) ?_
  refine lv_iconst (v := 2) hx hb dL_law_881 (by decide) ?_
  refine k_iadd (v := nI (i + 2)) hx hb (nI_ad2 i 2) dL_law_882 ?_
  refine va_sld hx hb hXs hbl hbA hS (vp_in_nI (by omega) (by omega)) dL_law_883 ?_
  refine cw_call (S := WSX) (G := (l, dC, dI, K, aX)) (P := PX) (av := [xz (xs (nI (i + 1)).toNatClampNeg), xz (xs (nI (i + 2)).toNatClampNeg)]) (o := 0) (rest := []) (j := iX11_swap) (n := 2) hx hb hml hown hts hl.1 hKX hiX ptX hS hAX (wX_swap (l, dC, dI, K, aX) PX k hk _ _ T1 K1 M1 A1 hW hTM.2.1.an hBX hOX hTX) cf_X11_swap t_1289 rfl (by decide) rfl rfl rfl (Nat.le_of_ble_eq_true rfl) (Nat.le_of_ble_eq_true rfl) (Nat.le_of_ble_eq_true rfl) (by simp only [List.map_cons, List.map_nil, gv_xz]; rfl) dL_law_884 (fun v1 P1 H1 locs1 hq1 pt1 hS1 hz1 hk1 => ?_) (Nat.le_refl _) (Nat.le_refl _)
  obtain ⟨⟨r1, rfl, hr1, hp1⟩, hc1, hO1, hI1⟩ := hq1
  have ptN := pt_kept ptM (fun q hq1 hq2 => hk1 q hq1 (fun h => hdis q h hq2))
  refine W.eq (g2 := F0 m 887 ls [.int (Int32.ofInt r1)]) rfl ?_
  refine lv_pop hx hb dL_law_887 rfl ?_
  refine lv_aload_n hx hb dL_law_888 rfl (lv_at hl 1 rfl) ?_
  refine lv_aload_n hx hb dL_law_889 rfl (lv_at hl 3 rfl) ?_
  refine lv_iload_n hx hb dL_law_890 rfl (lv_at hl 0 rfl) ?_
  refine lv_iconst (v := 1) hx hb dL_law_891 (by decide) ?_
  refine k_iadd (v := nI (i + 1)) hx hb (nI_ad2 i 1) dL_law_892 ?_
  refine va_sld hx hb hXs hbl hbA hS1 (vp_in_nI (by omega) (by omega)) dL_law_893 ?_
  refine lv_aload_n hx hb dL_law_894 rfl (lv_at hl 3 rfl) ?_
  refine lv_iload_n hx hb dL_law_895 rfl (lv_at hl 0 rfl) ?_
  refine lv_iconst (v := 2) hx hb dL_law_896 (by decide) ?_
  refine k_iadd (v := nI (i + 2)) hx hb (nI_ad2 i 2) dL_law_897 ?_
  refine va_sld hx hb hXs hbl hbA hS1 (vp_in_nI (by omega) (by omega)) dL_law_898 ?_
  refine cw_call (S := WSM) (G := (l, dC, dI, K, aM)) (P := PM) (av := [xz (xs (nI (i + 1)).toNatClampNeg), xz (xs (nI (i + 2)).toNatClampNeg)]) (o := 0) (rest := []) (j := iX12_swap) (n := 2) hx hb hml hown hts hl.1 hKM hiM ptN hS1 hAM (wM_swap (l, dC, dI, K, aM) PM k hk _ _ T1 K1 M1 A1 hW hIM hTM) cf_X12_swap t_2152 rfl (by decide) rfl rfl rfl (Nat.le_of_ble_eq_true rfl) (Nat.le_of_ble_eq_true rfl) (Nat.le_of_ble_eq_true rfl) (by simp only [List.map_cons, List.map_nil, gv_xz]; rfl) dL_law_899 (fun v2 P2 H2 locs2 hq2 pt2 hS2 hz2 hk2 => ?_) (Nat.le_refl _) (Nat.le_refl _)
  obtain ⟨⟨r2, rfl, hr2, hp2⟩, hc2, hI2⟩ := hq2
  have ptO := pt_kept pt1 (fun q hq1 hq2 => hk2 q hq1 (fun h => hdis q hq2 h))
  refine W.eq (g2 := F0 m 902 ls [.int (Int32.ofInt r2)]) rfl ?_
  refine lv_pop hx hb dL_law_902 rfl ?_
  refine lv_goto (tgt := 1093) hx hb dL_law_903 (by decide) ?_
  exact kk H2 locs2 P1 P2 ptO pt2 hI1 hI2 hO1 ⟨_, _, _, _, (by rw [show ((k + 1 : Nat) : Int) = (k : Int) + 1 by omega]; exact hW.n_swap), hc1, hc2⟩ hS2
set_option maxHeartbeats 4000000 in
set_option maxRecDepth 100000 in
/-- drop -/
theorem law_26 {p : Program} {l : Launch} {e : Env} {s : State} {m : MethodId} {below : List Frame} {meth : Method} {c : Code} {dC : Nat → ClassId} {dI : Nat → Nat → Nat} {K : Nat → ClassId} {aX aM : Nat → Nat} {b L : Nat} {xs : Nat → Int32} {H : Heap} {locs : List Loc} {PX PM : PH} {ls : Array Slot} {i k : Nat} (C : LF p l s m meth c b L xs dC dI K aX aM) (hiL : i + 6 ≤ L) (hk : k ≤ 512) (ptX : ptG WSX (l, dC, dI, K, aX) PX H) (ptM : ptG WSM (l, dC, dI, K, aM) PM H) (hBX : BdX PX) (hIM : IM k PM) (hOX : OWN PX) (hTL : (∃ (T1 : TT) (K1 M1 A1 : PH), WFT (k : Int) K1 M1 A1 ∧ SXT T1 K1 M1 A1 PX ∧ SMT T1 K1 M1 A1 PM)) (hS : va_S (fun q => s.heap.size ≤ q) s.heap H locs) (hl : lv_has ls 4 [(3, .int (nI i)), (2, .ref (aM 0)), (1, .ref (aX 0)), (0, .ref b)]) (kk : ∀ (H : Heap) (locs : List Loc) (PX PM : PH), ptG WSX (l, dC, dI, K, aX) PX H → ptG WSM (l, dC, dI, K, aM) PM H → BdX PX → IM (k + 1) PM → OWN PX → (∃ (T1 : TT) (K1 M1 A1 : PH), WFT ((k + 1 : Nat) : Int) K1 M1 A1 ∧ SXT T1 K1 M1 A1 PX ∧ SMT T1 K1 M1 A1 PM) → va_S (fun q => s.heap.size ≤ q) s.heap H locs → W p l e room_1 s m #[Value.ref b] below meth c H locs 600000 7302250 (lw_Z below #[Value.ref b] s) (F0 m 1093 ls [])) : W p l e room_1 s m #[Value.ref b] below meth c H locs 600000 7302250 (lw_Z below #[Value.ref b] s) (F0 m 906 ls []) := by
  obtain ⟨T1, K1, M1, A1, hW, hTX, hTM⟩ := hTL
  obtain ⟨hx, hb, hml, hown, hts, hXs, hbl, hL, hr, hlk, hKX, hKM, hiX, hiM, hAX, hAM, hdis⟩ := C
  have hbA : ¬ (fun q => s.heap.size ≤ q) b := Nat.not_le.mpr hbl
  refine lv_aload_n hx hb dL_law_906 rfl (lv_at hl 2 rfl) ?_
  refine lv_aload_n hx hb dL_law_907 rfl (lv_at hl 3 rfl) ?_
  refine lv_iload_n hx hb dL_law_908 rfl (lv_at hl 0 rfl) ?_
  refine lv_iconst (v := 1) hx hb dL_law_909 (by decide) ?_
  refine k_iadd (v := nI (i + 1)) hx hb (nI_ad2 i 1) dL_law_910 ?_
  refine va_sld hx hb hXs hbl hbA hS (vp_in_nI (by omega) (by omega)) dL_law_911 ?_
  refine cw_call (S := WSX) (G := (l, dC, dI, K, aX)) (P := PX) (av := [xz (xs (nI (i + 1)).toNatClampNeg)]) (o := 0) (rest := []) (j := iX11_drop) (n := 1) hx hb hml hown hts hl.1 hKX hiX ptX hS hAX (wX_drop (l, dC, dI, K, aX) PX k hk _ T1 K1 M1 A1 hW hTM.2.1.an hBX hOX hTX) cf_X11_drop t_1293 rfl (by decide) rfl rfl rfl (Nat.le_of_ble_eq_true rfl) (Nat.le_of_ble_eq_true rfl) (Nat.le_of_ble_eq_true rfl) (by simp only [List.map_cons, List.map_nil, gv_xz]; rfl) dL_law_912 (fun v1 P1 H1 locs1 hq1 pt1 hS1 hz1 hk1 => ?_) (Nat.le_refl _) (Nat.le_refl _)
  obtain ⟨⟨r1, rfl, hr1, hp1⟩, hc1, hO1, hI1⟩ := hq1
  have ptN := pt_kept ptM (fun q hq1 hq2 => hk1 q hq1 (fun h => hdis q h hq2))
  refine W.eq (g2 := F0 m 915 ls [.int (Int32.ofInt r1)]) rfl ?_
  refine lv_pop hx hb dL_law_915 rfl ?_
  refine lv_aload_n hx hb dL_law_916 rfl (lv_at hl 1 rfl) ?_
  refine lv_aload_n hx hb dL_law_917 rfl (lv_at hl 3 rfl) ?_
  refine lv_iload_n hx hb dL_law_918 rfl (lv_at hl 0 rfl) ?_
  refine lv_iconst (v := 1) hx hb dL_law_919 (by decide) ?_
  refine k_iadd (v := nI (i + 1)) hx hb (nI_ad2 i 1) dL_law_920 ?_
  refine va_sld hx hb hXs hbl hbA hS1 (vp_in_nI (by omega) (by omega)) dL_law_921 ?_
  refine cw_call (S := WSM) (G := (l, dC, dI, K, aM)) (P := PM) (av := [xz (xs (nI (i + 1)).toNatClampNeg)]) (o := 0) (rest := []) (j := iX12_drop) (n := 1) hx hb hml hown hts hl.1 hKM hiM ptN hS1 hAM (wM_drop (l, dC, dI, K, aM) PM k hk _ T1 K1 M1 A1 hW hIM hTM) cf_X12_drop t_2156 rfl (by decide) rfl rfl rfl (Nat.le_of_ble_eq_true rfl) (Nat.le_of_ble_eq_true rfl) (Nat.le_of_ble_eq_true rfl) (by simp only [List.map_cons, List.map_nil, gv_xz]; rfl) dL_law_922 (fun v2 P2 H2 locs2 hq2 pt2 hS2 hz2 hk2 => ?_) (Nat.le_refl _) (Nat.le_refl _)
  obtain ⟨⟨r2, rfl, hr2, hp2⟩, hc2, hI2⟩ := hq2
  have ptO := pt_kept pt1 (fun q hq1 hq2 => hk2 q hq1 (fun h => hdis q hq2 h))
  refine W.eq (g2 := F0 m 925 ls [.int (Int32.ofInt r2)]) rfl ?_
  refine lv_pop hx hb dL_law_925 rfl ?_
  refine lv_goto (tgt := 1093) hx hb dL_law_926 (by decide) ?_
  exact kk H2 locs2 P1 P2 ptO pt2 hI1 hI2 hO1 ⟨_, _, _, _, (by rw [show ((k + 1 : Nat) : Int) = (k : Int) + 1 by omega]; exact hW.n_drop), hc1, hc2⟩ hS2
set_option maxHeartbeats 4000000 in
set_option maxRecDepth 100000 in
/-- turn -/
theorem law_27 {p : Program} {l : Launch} {e : Env} {s : State} {m : MethodId} {below : List Frame} {meth : Method} {c : Code} {dC : Nat → ClassId} {dI : Nat → Nat → Nat} {K : Nat → ClassId} {aX aM : Nat → Nat} {b L : Nat} {xs : Nat → Int32} {H : Heap} {locs : List Loc} {PX PM : PH} {ls : Array Slot} {i k : Nat} (C : LF p l s m meth c b L xs dC dI K aX aM) (hiL : i + 6 ≤ L) (hk : k ≤ 512) (ptX : ptG WSX (l, dC, dI, K, aX) PX H) (ptM : ptG WSM (l, dC, dI, K, aM) PM H) (hBX : BdX PX) (hIM : IM k PM) (hOX : OWN PX) (hTL : (∃ (T1 : TT) (K1 M1 A1 : PH), WFT (k : Int) K1 M1 A1 ∧ SXT T1 K1 M1 A1 PX ∧ SMT T1 K1 M1 A1 PM)) (hS : va_S (fun q => s.heap.size ≤ q) s.heap H locs) (hl : lv_has ls 4 [(3, .int (nI i)), (2, .ref (aM 0)), (1, .ref (aX 0)), (0, .ref b)]) (kk : ∀ (H : Heap) (locs : List Loc) (PX PM : PH), ptG WSX (l, dC, dI, K, aX) PX H → ptG WSM (l, dC, dI, K, aM) PM H → BdX PX → IM (k + 1) PM → OWN PX → (∃ (T1 : TT) (K1 M1 A1 : PH), WFT ((k + 1 : Nat) : Int) K1 M1 A1 ∧ SXT T1 K1 M1 A1 PX ∧ SMT T1 K1 M1 A1 PM) → va_S (fun q => s.heap.size ≤ q) s.heap H locs → W p l e room_1 s m #[Value.ref b] below meth c H locs 600000 7302250 (lw_Z below #[Value.ref b] s) (F0 m 1093 ls [])) : W p l e room_1 s m #[Value.ref b] below meth c H locs 600000 7302250 (lw_Z below #[Value.ref b] s) (F0 m 929 ls []) := by
  obtain ⟨T1, K1, M1, A1, hW, hTX, hTM⟩ := hTL
  obtain ⟨hx, hb, hml, hown, hts, hXs, hbl, hL, hr, hlk, hKX, hKM, hiX, hiM, hAX, hAM, hdis⟩ := C
  have hbA : ¬ (fun q => s.heap.size ≤ q) b := Nat.not_le.mpr hbl
  refine lv_aload_n hx hb dL_law_929 rfl (lv_at hl 2 rfl) ?_
  refine lv_aload_n hx hb dL_law_930 rfl (lv_at hl 3 rfl) ?_
  refine lv_iload_n hx hb dL_law_931 rfl (lv_at hl 0 rfl) ?_
  refine lv_iconst (v := 1) hx hb dL_law_932 (by decide) ?_
  refine k_iadd (v := nI (i + 1)) hx hb (nI_ad2 i 1) dL_law_933 ?_
  refine va_sld hx hb hXs hbl hbA hS (vp_in_nI (by omega) (by omega)) dL_law_934 ?_
  refine cw_call (S := WSX) (G := (l, dC, dI, K, aX)) (P := PX) (av := [xz (xs (nI (i + 1)).toNatClampNeg)]) (o := 0) (rest := []) (j := iX11_turn) (n := 1) hx hb hml hown hts hl.1 hKX hiX ptX hS hAX (wX_turn (l, dC, dI, K, aX) PX k hk _ T1 K1 M1 A1 hW hTM.2.1.an hBX hOX hTX) cf_X11_turn t_1301 rfl (by decide) rfl rfl rfl (Nat.le_of_ble_eq_true rfl) (Nat.le_of_ble_eq_true rfl) (Nat.le_of_ble_eq_true rfl) (by simp only [List.map_cons, List.map_nil, gv_xz]; rfl) dL_law_935 (fun v1 P1 H1 locs1 hq1 pt1 hS1 hz1 hk1 => ?_) (Nat.le_refl _) (Nat.le_refl _)
  obtain ⟨⟨r1, rfl, hr1, hp1⟩, hc1, hO1, hI1⟩ := hq1
  have ptN := pt_kept ptM (fun q hq1 hq2 => hk1 q hq1 (fun h => hdis q h hq2))
  refine W.eq (g2 := F0 m 938 ls [.int (Int32.ofInt r1)]) rfl ?_
  refine lv_pop hx hb dL_law_938 rfl ?_
  refine lv_aload_n hx hb dL_law_939 rfl (lv_at hl 1 rfl) ?_
  refine lv_aload_n hx hb dL_law_940 rfl (lv_at hl 3 rfl) ?_
  refine lv_iload_n hx hb dL_law_941 rfl (lv_at hl 0 rfl) ?_
  refine lv_iconst (v := 1) hx hb dL_law_942 (by decide) ?_
  refine k_iadd (v := nI (i + 1)) hx hb (nI_ad2 i 1) dL_law_943 ?_
  refine va_sld hx hb hXs hbl hbA hS1 (vp_in_nI (by omega) (by omega)) dL_law_944 ?_
  refine cw_call (S := WSM) (G := (l, dC, dI, K, aM)) (P := PM) (av := [xz (xs (nI (i + 1)).toNatClampNeg)]) (o := 0) (rest := []) (j := iX12_turn) (n := 1) hx hb hml hown hts hl.1 hKM hiM ptN hS1 hAM (wM_turn (l, dC, dI, K, aM) PM k hk _ T1 K1 M1 A1 hW hIM hTM) cf_X12_turn t_2160 rfl (by decide) rfl rfl rfl (Nat.le_of_ble_eq_true rfl) (Nat.le_of_ble_eq_true rfl) (Nat.le_of_ble_eq_true rfl) (by simp only [List.map_cons, List.map_nil, gv_xz]; rfl) dL_law_945 (fun v2 P2 H2 locs2 hq2 pt2 hS2 hz2 hk2 => ?_) (Nat.le_refl _) (Nat.le_refl _)
  obtain ⟨⟨r2, rfl, hr2, hp2⟩, hc2, hI2⟩ := hq2
  have ptO := pt_kept pt1 (fun q hq1 hq2 => hk2 q hq1 (fun h => hdis q hq2 h))
  refine W.eq (g2 := F0 m 948 ls [.int (Int32.ofInt r2)]) rfl ?_
  refine lv_pop hx hb dL_law_948 rfl ?_
  refine lv_goto (tgt := 1093) hx hb dL_law_949 (by decide) ?_
  exact kk H2 locs2 P1 P2 ptO pt2 hI1 hI2 hO1 ⟨_, _, _, _, (by rw [show ((k + 1 : Nat) : Int) = (k : Int) + 1 by omega]; exact hW.n_turn), hc1, hc2⟩ hS2
set_option maxHeartbeats 4000000 in
set_option maxRecDepth 100000 in
/-- choose -/
theorem law_28 {p : Program} {l : Launch} {e : Env} {s : State} {m : MethodId} {below : List Frame} {meth : Method} {c : Code} {dC : Nat → ClassId} {dI : Nat → Nat → Nat} {K : Nat → ClassId} {aX aM : Nat → Nat} {b L : Nat} {xs : Nat → Int32} {H : Heap} {locs : List Loc} {PX PM : PH} {ls : Array Slot} {i k : Nat} (C : LF p l s m meth c b L xs dC dI K aX aM) (hiL : i + 6 ≤ L) (hk : k ≤ 512) (ptX : ptG WSX (l, dC, dI, K, aX) PX H) (ptM : ptG WSM (l, dC, dI, K, aM) PM H) (hBX : BdX PX) (hIM : IM k PM) (hOX : OWN PX) (hTL : (∃ (T1 : TT) (K1 M1 A1 : PH), WFT (k : Int) K1 M1 A1 ∧ SXT T1 K1 M1 A1 PX ∧ SMT T1 K1 M1 A1 PM)) (hS : va_S (fun q => s.heap.size ≤ q) s.heap H locs) (hl : lv_has ls 4 [(3, .int (nI i)), (2, .ref (aM 0)), (1, .ref (aX 0)), (0, .ref b)]) (kk : ∀ (H : Heap) (locs : List Loc) (PX PM : PH), ptG WSX (l, dC, dI, K, aX) PX H → ptG WSM (l, dC, dI, K, aM) PM H → BdX PX → IM (k + 1) PM → OWN PX → (∃ (T1 : TT) (K1 M1 A1 : PH), WFT ((k + 1 : Nat) : Int) K1 M1 A1 ∧ SXT T1 K1 M1 A1 PX ∧ SMT T1 K1 M1 A1 PM) → va_S (fun q => s.heap.size ≤ q) s.heap H locs → W p l e room_1 s m #[Value.ref b] below meth c H locs 600000 7302250 (lw_Z below #[Value.ref b] s) (F0 m 1093 ls [])) : W p l e room_1 s m #[Value.ref b] below meth c H locs 600000 7302250 (lw_Z below #[Value.ref b] s) (F0 m 952 ls []) := by
  obtain ⟨T1, K1, M1, A1, hW, hTX, hTM⟩ := hTL
  obtain ⟨hx, hb, hml, hown, hts, hXs, hbl, hL, hr, hlk, hKX, hKM, hiX, hiM, hAX, hAM, hdis⟩ := C
  have hbA : ¬ (fun q => s.heap.size ≤ q) b := Nat.not_le.mpr hbl
  refine lv_aload_n hx hb dL_law_952 rfl (lv_at hl 2 rfl) ?_
  refine lv_aload_n hx hb dL_law_953 rfl (lv_at hl 3 rfl) ?_
  refine lv_iload_n hx hb dL_law_954 rfl (lv_at hl 0 rfl) ?_
  refine lv_iconst (v := 1) hx hb dL_law_955 (by decide) ?_
  refine k_iadd (v := nI (i + 1)) hx hb (nI_ad2 i 1) dL_law_956 ?_
  refine va_sld hx hb hXs hbl hbA hS (vp_in_nI (by omega) (by omega)) dL_law_957 ?_
  refine cw_call (S := WSX) (G := (l, dC, dI, K, aX)) (P := PX) (av := [xz (xs (nI (i + 1)).toNatClampNeg)]) (o := 0) (rest := []) (j := iX11_choose) (n := 1) hx hb hml hown hts hl.1 hKX hiX ptX hS hAX (wX_choose (l, dC, dI, K, aX) PX k hk _ T1 K1 M1 A1 hW hTM.2.1.an hBX hOX hTX) cf_X11_choose t_1305 rfl (by decide) rfl rfl rfl (Nat.le_of_ble_eq_true rfl) (Nat.le_of_ble_eq_true rfl) (Nat.le_of_ble_eq_true rfl) (by simp only [List.map_cons, List.map_nil, gv_xz]; rfl) dL_law_958 (fun v1 P1 H1 locs1 hq1 pt1 hS1 hz1 hk1 => ?_) (Nat.le_refl _) (Nat.le_refl _)
  obtain ⟨⟨r1, rfl, hr1, hp1⟩, hc1, hO1, hI1⟩ := hq1
  have ptN := pt_kept ptM (fun q hq1 hq2 => hk1 q hq1 (fun h => hdis q h hq2))
  refine W.eq (g2 := F0 m 961 ls [.int (Int32.ofInt r1)]) rfl ?_
  refine lv_pop hx hb dL_law_961 rfl ?_
  refine lv_aload_n hx hb dL_law_962 rfl (lv_at hl 1 rfl) ?_
  refine lv_aload_n hx hb dL_law_963 rfl (lv_at hl 3 rfl) ?_
  refine lv_iload_n hx hb dL_law_964 rfl (lv_at hl 0 rfl) ?_
  refine lv_iconst (v := 1) hx hb dL_law_965 (by decide) ?_
  refine k_iadd (v := nI (i + 1)) hx hb (nI_ad2 i 1) dL_law_966 ?_
  refine va_sld hx hb hXs hbl hbA hS1 (vp_in_nI (by omega) (by omega)) dL_law_967 ?_
  refine cw_call (S := WSM) (G := (l, dC, dI, K, aM)) (P := PM) (av := [xz (xs (nI (i + 1)).toNatClampNeg)]) (o := 0) (rest := []) (j := iX12_choose) (n := 1) hx hb hml hown hts hl.1 hKM hiM ptN hS1 hAM (wM_choose (l, dC, dI, K, aM) PM k hk _ T1 K1 M1 A1 hW hIM hTM) cf_X12_choose t_2164 rfl (by decide) rfl rfl rfl (Nat.le_of_ble_eq_true rfl) (Nat.le_of_ble_eq_true rfl) (Nat.le_of_ble_eq_true rfl) (by simp only [List.map_cons, List.map_nil, gv_xz]; rfl) dL_law_968 (fun v2 P2 H2 locs2 hq2 pt2 hS2 hz2 hk2 => ?_) (Nat.le_refl _) (Nat.le_refl _)
  obtain ⟨⟨r2, rfl, hr2, hp2⟩, hc2, hI2⟩ := hq2
  have ptO := pt_kept pt1 (fun q hq1 hq2 => hk2 q hq1 (fun h => hdis q hq2 h))
  refine W.eq (g2 := F0 m 971 ls [.int (Int32.ofInt r2)]) rfl ?_
  refine lv_pop hx hb dL_law_971 rfl ?_
  refine lv_goto (tgt := 1093) hx hb dL_law_972 (by decide) ?_
  exact kk H2 locs2 P1 P2 ptO pt2 hI1 hI2 hO1 ⟨_, _, _, _, (by rw [show ((k + 1 : Nat) : Int) = (k : Int) + 1 by omega]; exact hW.n_choose), hc1, hc2⟩ hS2
set_option maxHeartbeats 4000000 in
set_option maxRecDepth 100000 in
/-- undo -/
theorem law_29 {p : Program} {l : Launch} {e : Env} {s : State} {m : MethodId} {below : List Frame} {meth : Method} {c : Code} {dC : Nat → ClassId} {dI : Nat → Nat → Nat} {K : Nat → ClassId} {aX aM : Nat → Nat} {b L : Nat} {xs : Nat → Int32} {H : Heap} {locs : List Loc} {PX PM : PH} {ls : Array Slot} {i k : Nat} (C : LF p l s m meth c b L xs dC dI K aX aM) (hiL : i + 6 ≤ L) (hk : k ≤ 512) (ptX : ptG WSX (l, dC, dI, K, aX) PX H) (ptM : ptG WSM (l, dC, dI, K, aM) PM H) (hBX : BdX PX) (hIM : IM k PM) (hOX : OWN PX) (hTL : (∃ (T1 : TT) (K1 M1 A1 : PH), WFT (k : Int) K1 M1 A1 ∧ SXT T1 K1 M1 A1 PX ∧ SMT T1 K1 M1 A1 PM)) (hS : va_S (fun q => s.heap.size ≤ q) s.heap H locs) (hl : lv_has ls 4 [(3, .int (nI i)), (2, .ref (aM 0)), (1, .ref (aX 0)), (0, .ref b)]) (kk : ∀ (H : Heap) (locs : List Loc) (PX PM : PH), ptG WSX (l, dC, dI, K, aX) PX H → ptG WSM (l, dC, dI, K, aM) PM H → BdX PX → IM (k + 1) PM → OWN PX → (∃ (T1 : TT) (K1 M1 A1 : PH), WFT ((k + 1 : Nat) : Int) K1 M1 A1 ∧ SXT T1 K1 M1 A1 PX ∧ SMT T1 K1 M1 A1 PM) → va_S (fun q => s.heap.size ≤ q) s.heap H locs → W p l e room_1 s m #[Value.ref b] below meth c H locs 600000 7302250 (lw_Z below #[Value.ref b] s) (F0 m 1093 ls [])) : W p l e room_1 s m #[Value.ref b] below meth c H locs 600000 7302250 (lw_Z below #[Value.ref b] s) (F0 m 975 ls []) := by
  obtain ⟨T1, K1, M1, A1, hW, hTX, hTM⟩ := hTL
  obtain ⟨hx, hb, hml, hown, hts, hXs, hbl, hL, hr, hlk, hKX, hKM, hiX, hiM, hAX, hAM, hdis⟩ := C
  have hbA : ¬ (fun q => s.heap.size ≤ q) b := Nat.not_le.mpr hbl
  refine lv_aload_n hx hb dL_law_975 rfl (lv_at hl 2 rfl) ?_
  refine cw_call (S := WSX) (G := (l, dC, dI, K, aX)) (P := PX) (av := []) (o := 0) (rest := []) (j := iX11_undo) (n := 0) hx hb hml hown hts hl.1 hKX hiX ptX hS hAX (wX_undo (l, dC, dI, K, aX) PX k hk T1 K1 M1 A1 hW hTM.2.1.an hBX hOX hTX) cf_X11_undo t_1309 rfl (by decide) rfl rfl rfl (Nat.le_of_ble_eq_true rfl) (Nat.le_of_ble_eq_true rfl) (Nat.le_of_ble_eq_true rfl) (by simp only [List.map_cons, List.map_nil, gv_xz]; rfl) dL_law_976 (fun v1 P1 H1 locs1 hq1 pt1 hS1 hz1 hk1 => ?_) (Nat.le_refl _) (Nat.le_refl _)
  obtain ⟨⟨r1, rfl, hr1, hp1⟩, hc1, hO1, hI1⟩ := hq1
  have ptN := pt_kept ptM (fun q hq1 hq2 => hk1 q hq1 (fun h => hdis q h hq2))
  refine W.eq (g2 := F0 m 979 ls [.int (Int32.ofInt r1)]) rfl ?_
  refine lv_pop hx hb dL_law_979 rfl ?_
  refine lv_aload_n hx hb dL_law_980 rfl (lv_at hl 1 rfl) ?_
  refine cw_call (S := WSM) (G := (l, dC, dI, K, aM)) (P := PM) (av := []) (o := 0) (rest := []) (j := iX12_undo) (n := 0) hx hb hml hown hts hl.1 hKM hiM ptN hS1 hAM (wM_undo (l, dC, dI, K, aM) PM k hk T1 K1 M1 A1 hW hIM hTM) cf_X12_undo t_1851 rfl (by decide) rfl rfl rfl (Nat.le_of_ble_eq_true rfl) (Nat.le_of_ble_eq_true rfl) (Nat.le_of_ble_eq_true rfl) (by simp only [List.map_cons, List.map_nil, gv_xz]; rfl) dL_law_981 (fun v2 P2 H2 locs2 hq2 pt2 hS2 hz2 hk2 => ?_) (Nat.le_refl _) (Nat.le_refl _)
  obtain ⟨⟨r2, rfl, hr2, hp2⟩, hc2, hI2⟩ := hq2
  have ptO := pt_kept pt1 (fun q hq1 hq2 => hk2 q hq1 (fun h => hdis q hq2 h))
  refine W.eq (g2 := F0 m 984 ls [.int (Int32.ofInt r2)]) rfl ?_
  refine lv_pop hx hb dL_law_984 rfl ?_
  refine lv_goto (tgt := 1093) hx hb dL_law_985 (by decide) ?_
  exact kk H2 locs2 P1 P2 ptO pt2 hI1 hI2 hO1 ⟨_, _, _, _, (by rw [show ((k + 1 : Nat) : Int) = (k : Int) + 1 by omega]; exact hW.n_undo), hc1, hc2⟩ hS2
set_option maxHeartbeats 4000000 in
set_option maxRecDepth 100000 in
/-- seed -/
theorem law_30 {p : Program} {l : Launch} {e : Env} {s : State} {m : MethodId} {below : List Frame} {meth : Method} {c : Code} {dC : Nat → ClassId} {dI : Nat → Nat → Nat} {K : Nat → ClassId} {aX aM : Nat → Nat} {b L : Nat} {xs : Nat → Int32} {H : Heap} {locs : List Loc} {PX PM : PH} {ls : Array Slot} {i k : Nat} (C : LF p l s m meth c b L xs dC dI K aX aM) (hiL : i + 6 ≤ L) (hk : k ≤ 512) (ptX : ptG WSX (l, dC, dI, K, aX) PX H) (ptM : ptG WSM (l, dC, dI, K, aM) PM H) (hBX : BdX PX) (hIM : IM k PM) (hOX : OWN PX) (hTL : (∃ (T1 : TT) (K1 M1 A1 : PH), WFT (k : Int) K1 M1 A1 ∧ SXT T1 K1 M1 A1 PX ∧ SMT T1 K1 M1 A1 PM)) (hS : va_S (fun q => s.heap.size ≤ q) s.heap H locs) (hl : lv_has ls 4 [(3, .int (nI i)), (2, .ref (aM 0)), (1, .ref (aX 0)), (0, .ref b)]) (kk : ∀ (H : Heap) (locs : List Loc) (PX PM : PH), ptG WSX (l, dC, dI, K, aX) PX H → ptG WSM (l, dC, dI, K, aM) PM H → BdX PX → IM (k + 1) PM → OWN PX → (∃ (T1 : TT) (K1 M1 A1 : PH), WFT ((k + 1 : Nat) : Int) K1 M1 A1 ∧ SXT T1 K1 M1 A1 PX ∧ SMT T1 K1 M1 A1 PM) → va_S (fun q => s.heap.size ≤ q) s.heap H locs → W p l e room_1 s m #[Value.ref b] below meth c H locs 600000 7302250 (lw_Z below #[Value.ref b] s) (F0 m 1093 ls [])) : W p l e room_1 s m #[Value.ref b] below meth c H locs 600000 7302250 (lw_Z below #[Value.ref b] s) (F0 m 988 ls []) := by
  obtain ⟨T1, K1, M1, A1, hW, hTX, hTM⟩ := hTL
  obtain ⟨hx, hb, hml, hown, hts, hXs, hbl, hL, hr, hlk, hKX, hKM, hiX, hiM, hAX, hAM, hdis⟩ := C
  have hbA : ¬ (fun q => s.heap.size ≤ q) b := Nat.not_le.mpr hbl
  refine lv_aload_n hx hb dL_law_988 rfl (lv_at hl 2 rfl) ?_
  refine lv_aload_n hx hb dL_law_989 rfl (lv_at hl 3 rfl) ?_
  refine lv_iload_n hx hb dL_law_990 rfl (lv_at hl 0 rfl) ?_
  refine lv_iconst (v := 1) hx hb dL_law_991 (by decide) ?_
  refine k_iadd (v := nI (i + 1)) hx hb (nI_ad2 i 1) dL_law_992 ?_
  refine va_sld hx hb hXs hbl hbA hS (vp_in_nI (by omega) (by omega)) dL_law_993 ?_
  refine cw_call (S := WSX) (G := (l, dC, dI, K, aX)) (P := PX) (av := [xz (xs (nI (i + 1)).toNatClampNeg)]) (o := 0) (rest := []) (j := iX11_seed) (n := 1) hx hb hml hown hts hl.1 hKX hiX ptX hS hAX (wX_seed (l, dC, dI, K, aX) PX k hk _ T1 K1 M1 A1 hW hTM.2.1.an hBX hOX hTX) cf_X11_seed t_1318 rfl (by decide) rfl rfl rfl (Nat.le_of_ble_eq_true rfl) (Nat.le_of_ble_eq_true rfl) (Nat.le_of_ble_eq_true rfl) (by simp only [List.map_cons, List.map_nil, gv_xz]; rfl) dL_law_994 (fun v1 P1 H1 locs1 hq1 pt1 hS1 hz1 hk1 => ?_) (Nat.le_refl _) (Nat.le_refl _)
  obtain ⟨⟨r1, rfl, hr1, hp1⟩, hc1, hO1, hI1⟩ := hq1
  have ptN := pt_kept ptM (fun q hq1 hq2 => hk1 q hq1 (fun h => hdis q h hq2))
  refine W.eq (g2 := F0 m 997 ls [.int (Int32.ofInt r1)]) rfl ?_
  refine lv_pop hx hb dL_law_997 rfl ?_
  refine lv_aload_n hx hb dL_law_998 rfl (lv_at hl 1 rfl) ?_
  refine lv_aload_n hx hb dL_law_999 rfl (lv_at hl 3 rfl) ?_
  refine lv_iload_n hx hb dL_law_1000 rfl (lv_at hl 0 rfl) ?_
  refine lv_iconst (v := 1) hx hb dL_law_1001 (by decide) ?_
  refine k_iadd (v := nI (i + 1)) hx hb (nI_ad2 i 1) dL_law_1002 ?_
  refine va_sld hx hb hXs hbl hbA hS1 (vp_in_nI (by omega) (by omega)) dL_law_1003 ?_
  refine cw_call (S := WSM) (G := (l, dC, dI, K, aM)) (P := PM) (av := [xz (xs (nI (i + 1)).toNatClampNeg)]) (o := 0) (rest := []) (j := iX12_seed) (n := 1) hx hb hml hown hts hl.1 hKM hiM ptN hS1 hAM (wM_seed (l, dC, dI, K, aM) PM k hk _ T1 K1 M1 A1 hW hIM hTM) cf_X12_seed t_2168 rfl (by decide) rfl rfl rfl (Nat.le_of_ble_eq_true rfl) (Nat.le_of_ble_eq_true rfl) (Nat.le_of_ble_eq_true rfl) (by simp only [List.map_cons, List.map_nil, gv_xz]; rfl) dL_law_1004 (fun v2 P2 H2 locs2 hq2 pt2 hS2 hz2 hk2 => ?_) (Nat.le_refl _) (Nat.le_refl _)
  obtain ⟨⟨r2, rfl, hr2, hp2⟩, hc2, hI2⟩ := hq2
  have ptO := pt_kept pt1 (fun q hq1 hq2 => hk2 q hq1 (fun h => hdis q hq2 h))
  refine W.eq (g2 := F0 m 1007 ls [.int (Int32.ofInt r2)]) rfl ?_
  refine lv_pop hx hb dL_law_1007 rfl ?_
  refine lv_goto (tgt := 1093) hx hb dL_law_1008 (by decide) ?_
  exact kk H2 locs2 P1 P2 ptO pt2 hI1 hI2 hO1 ⟨_, _, _, _, (by rw [show ((k + 1 : Nat) : Int) = (k : Int) + 1 by omega]; exact hW.n_seed), hc1, hc2⟩ hS2
set_option maxHeartbeats 4000000 in
set_option maxRecDepth 100000 in
/-- kept -/
theorem law_31 {p : Program} {l : Launch} {e : Env} {s : State} {m : MethodId} {below : List Frame} {meth : Method} {c : Code} {dC : Nat → ClassId} {dI : Nat → Nat → Nat} {K : Nat → ClassId} {aX aM : Nat → Nat} {b L : Nat} {xs : Nat → Int32} {H : Heap} {locs : List Loc} {PX PM : PH} {ls : Array Slot} {i k : Nat} (C : LF p l s m meth c b L xs dC dI K aX aM) (hiL : i + 6 ≤ L) (hk : k ≤ 512) (ptX : ptG WSX (l, dC, dI, K, aX) PX H) (ptM : ptG WSM (l, dC, dI, K, aM) PM H) (hBX : BdX PX) (hIM : IM k PM) (hOX : OWN PX) (hTL : (∃ (T1 : TT) (K1 M1 A1 : PH), WFT (k : Int) K1 M1 A1 ∧ SXT T1 K1 M1 A1 PX ∧ SMT T1 K1 M1 A1 PM)) (hS : va_S (fun q => s.heap.size ≤ q) s.heap H locs) (hl : lv_has ls 4 [(3, .int (nI i)), (2, .ref (aM 0)), (1, .ref (aX 0)), (0, .ref b)]) (kk : ∀ (H : Heap) (locs : List Loc) (PX PM : PH), ptG WSX (l, dC, dI, K, aX) PX H → ptG WSM (l, dC, dI, K, aM) PM H → BdX PX → IM (k + 1) PM → OWN PX → (∃ (T1 : TT) (K1 M1 A1 : PH), WFT ((k + 1 : Nat) : Int) K1 M1 A1 ∧ SXT T1 K1 M1 A1 PX ∧ SMT T1 K1 M1 A1 PM) → va_S (fun q => s.heap.size ≤ q) s.heap H locs → W p l e room_1 s m #[Value.ref b] below meth c H locs 600000 7302250 (lw_Z below #[Value.ref b] s) (F0 m 1093 ls [])) : W p l e room_1 s m #[Value.ref b] below meth c H locs 600000 7302250 (lw_Z below #[Value.ref b] s) (F0 m 1011 ls []) := by
  obtain ⟨T1, K1, M1, A1, hW, hTX, hTM⟩ := hTL
  obtain ⟨hx, hb, hml, hown, hts, hXs, hbl, hL, hr, hlk, hKX, hKM, hiX, hiM, hAX, hAM, hdis⟩ := C
  have hbA : ¬ (fun q => s.heap.size ≤ q) b := Nat.not_le.mpr hbl
  refine lv_aload_n hx hb dL_law_1011 rfl (lv_at hl 2 rfl) ?_
  refine lv_aload_n hx hb dL_law_1012 rfl (lv_at hl 3 rfl) ?_
  refine lv_iload_n hx hb dL_law_1013 rfl (lv_at hl 0 rfl) ?_
  refine lv_iconst (v := 1) hx hb dL_law_1014 (by decide) ?_
  refine k_iadd (v := nI (i + 1)) hx hb (nI_ad2 i 1) dL_law_1015 ?_
  refine va_sld hx hb hXs hbl hbA hS (vp_in_nI (by omega) (by omega)) dL_law_1016 ?_
  refine lv_aload_n hx hb dL_law_1017 rfl (lv_at hl 3 rfl) ?_
  refine lv_iload_n hx hb dL_law_1018 rfl (lv_at hl 0 rfl) ?_
  refine lv_iconst (v := 2) hx hb dL_law_1019 (by decide) ?_
  refine k_iadd (v := nI (i + 2)) hx hb (nI_ad2 i 2) dL_law_1020 ?_
  refine va_sld hx hb hXs hbl hbA hS (vp_in_nI (by omega) (by omega)) dL_law_1021 ?_
  refine cw_call (S := WSX) (G := (l, dC, dI, K, aX)) (P := PX) (av := [xz (xs (nI (i + 1)).toNatClampNeg), xz (xs (nI (i + 2)).toNatClampNeg)]) (o := 0) (rest := []) (j := iX11_kept) (n := 2) hx hb hml hown hts hl.1 hKX hiX ptX hS hAX (wX_kept (l, dC, dI, K, aX) PX k hk _ _ T1 K1 M1 A1 hW hTM.2.1.an hBX hOX hTX) cf_X11_kept t_1322 rfl (by decide) rfl rfl rfl (Nat.le_of_ble_eq_true rfl) (Nat.le_of_ble_eq_true rfl) (Nat.le_of_ble_eq_true rfl) (by simp only [List.map_cons, List.map_nil, gv_xz]; rfl) dL_law_1022 (fun v1 P1 H1 locs1 hq1 pt1 hS1 hz1 hk1 => ?_) (Nat.le_refl _) (Nat.le_refl _)
  obtain ⟨⟨r1, rfl, hr1, hp1⟩, hc1, hO1, hI1⟩ := hq1
  have ptN := pt_kept ptM (fun q hq1 hq2 => hk1 q hq1 (fun h => hdis q h hq2))
  refine W.eq (g2 := F0 m 1025 ls [.int (Int32.ofInt r1)]) rfl ?_
  refine lv_pop hx hb dL_law_1025 rfl ?_
  refine lv_aload_n hx hb dL_law_1026 rfl (lv_at hl 1 rfl) ?_
  refine lv_aload_n hx hb dL_law_1027 rfl (lv_at hl 3 rfl) ?_
  refine lv_iload_n hx hb dL_law_1028 rfl (lv_at hl 0 rfl) ?_
  refine lv_iconst (v := 1) hx hb dL_law_1029 (by decide) ?_
  refine k_iadd (v := nI (i + 1)) hx hb (nI_ad2 i 1) dL_law_1030 ?_
  refine va_sld hx hb hXs hbl hbA hS1 (vp_in_nI (by omega) (by omega)) dL_law_1031 ?_
  refine lv_aload_n hx hb dL_law_1032 rfl (lv_at hl 3 rfl) ?_
  refine lv_iload_n hx hb dL_law_1033 rfl (lv_at hl 0 rfl) ?_
  refine lv_iconst (v := 2) hx hb dL_law_1034 (by decide) ?_
  refine k_iadd (v := nI (i + 2)) hx hb (nI_ad2 i 2) dL_law_1035 ?_
  refine va_sld hx hb hXs hbl hbA hS1 (vp_in_nI (by omega) (by omega)) dL_law_1036 ?_
  refine cw_call (S := WSM) (G := (l, dC, dI, K, aM)) (P := PM) (av := [xz (xs (nI (i + 1)).toNatClampNeg), xz (xs (nI (i + 2)).toNatClampNeg)]) (o := 0) (rest := []) (j := iX12_kept) (n := 2) hx hb hml hown hts hl.1 hKM hiM ptN hS1 hAM (wM_kept (l, dC, dI, K, aM) PM k hk _ _ T1 K1 M1 A1 hW hIM hTM) cf_X12_kept t_2172 rfl (by decide) rfl rfl rfl (Nat.le_of_ble_eq_true rfl) (Nat.le_of_ble_eq_true rfl) (Nat.le_of_ble_eq_true rfl) (by simp only [List.map_cons, List.map_nil, gv_xz]; rfl) dL_law_1037 (fun v2 P2 H2 locs2 hq2 pt2 hS2 hz2 hk2 => ?_) (Nat.le_refl _) (Nat.le_refl _)
  obtain ⟨⟨r2, rfl, hr2, hp2⟩, hc2, hI2⟩ := hq2
  have ptO := pt_kept pt1 (fun q hq1 hq2 => hk2 q hq1 (fun h => hdis q hq2 h))
  refine W.eq (g2 := F0 m 1040 ls [.int (Int32.ofInt r2)]) rfl ?_
  refine lv_pop hx hb dL_law_1040 rfl ?_
  refine lv_goto (tgt := 1093) hx hb dL_law_1041 (by decide) ?_
  exact kk H2 locs2 P1 P2 ptO pt2 hI1 hI2 hO1 ⟨_, _, _, _, (by rw [show ((k + 1 : Nat) : Int) = (k : Int) + 1 by omega]; exact hW.nx), hc1, hc2⟩ hS2
set_option maxHeartbeats 4000000 in
set_option maxRecDepth 100000 in
/-- image -/
theorem law_32 {p : Program} {l : Launch} {e : Env} {s : State} {m : MethodId} {below : List Frame} {meth : Method} {c : Code} {dC : Nat → ClassId} {dI : Nat → Nat → Nat} {K : Nat → ClassId} {aX aM : Nat → Nat} {b L : Nat} {xs : Nat → Int32} {H : Heap} {locs : List Loc} {PX PM : PH} {ls : Array Slot} {i k : Nat} (C : LF p l s m meth c b L xs dC dI K aX aM) (hiL : i + 6 ≤ L) (hk : k ≤ 512) (ptX : ptG WSX (l, dC, dI, K, aX) PX H) (ptM : ptG WSM (l, dC, dI, K, aM) PM H) (hBX : BdX PX) (hIM : IM k PM) (hOX : OWN PX) (hTL : (∃ (T1 : TT) (K1 M1 A1 : PH), WFT (k : Int) K1 M1 A1 ∧ SXT T1 K1 M1 A1 PX ∧ SMT T1 K1 M1 A1 PM)) (hS : va_S (fun q => s.heap.size ≤ q) s.heap H locs) (hl : lv_has ls 4 [(3, .int (nI i)), (2, .ref (aM 0)), (1, .ref (aX 0)), (0, .ref b)]) (kk : ∀ (H : Heap) (locs : List Loc) (PX PM : PH), ptG WSX (l, dC, dI, K, aX) PX H → ptG WSM (l, dC, dI, K, aM) PM H → BdX PX → IM (k + 1) PM → OWN PX → (∃ (T1 : TT) (K1 M1 A1 : PH), WFT ((k + 1 : Nat) : Int) K1 M1 A1 ∧ SXT T1 K1 M1 A1 PX ∧ SMT T1 K1 M1 A1 PM) → va_S (fun q => s.heap.size ≤ q) s.heap H locs → W p l e room_1 s m #[Value.ref b] below meth c H locs 600000 7302250 (lw_Z below #[Value.ref b] s) (F0 m 1093 ls [])) : W p l e room_1 s m #[Value.ref b] below meth c H locs 600000 7302250 (lw_Z below #[Value.ref b] s) (F0 m 1044 ls []) := by
  obtain ⟨T1, K1, M1, A1, hW, hTX, hTM⟩ := hTL
  obtain ⟨hx, hb, hml, hown, hts, hXs, hbl, hL, hr, hlk, hKX, hKM, hiX, hiM, hAX, hAM, hdis⟩ := C
  have hbA : ¬ (fun q => s.heap.size ≤ q) b := Nat.not_le.mpr hbl
  refine lv_aload_n hx hb dL_law_1044 rfl (lv_at hl 2 rfl) ?_
  refine cw_call (S := WSX) (G := (l, dC, dI, K, aX)) (P := PX) (av := []) (o := 0) (rest := []) (j := iX11_image) (n := 0) hx hb hml hown hts hl.1 hKX hiX ptX hS hAX (wX_image (l, dC, dI, K, aX) PX k hk T1 K1 M1 A1 hW hTM.2.1.an hBX hOX hTX) cf_X11_image t_1331 rfl (by decide) rfl rfl rfl (Nat.le_of_ble_eq_true rfl) (Nat.le_of_ble_eq_true rfl) (Nat.le_of_ble_eq_true rfl) (by simp only [List.map_cons, List.map_nil, gv_xz]; rfl) dL_law_1045 (fun v1 P1 H1 locs1 hq1 pt1 hS1 hz1 hk1 => ?_) (Nat.le_refl _) (Nat.le_refl _)
  obtain ⟨⟨r1, rfl, hr1, hp1⟩, hc1, hO1, hI1⟩ := hq1
  have ptN := pt_kept ptM (fun q hq1 hq2 => hk1 q hq1 (fun h => hdis q h hq2))
  refine W.eq (g2 := F0 m 1048 ls [.int (Int32.ofInt r1)]) rfl ?_
  refine lv_pop hx hb dL_law_1048 rfl ?_
  refine lv_aload_n hx hb dL_law_1049 rfl (lv_at hl 1 rfl) ?_
  refine cw_call (S := WSM) (G := (l, dC, dI, K, aM)) (P := PM) (av := []) (o := 0) (rest := []) (j := iX12_image) (n := 0) hx hb hml hown hts hl.1 hKM hiM ptN hS1 hAM (wM_image (l, dC, dI, K, aM) PM k hk T1 K1 M1 A1 hW hIM hTM) cf_X12_image t_2176 rfl (by decide) rfl rfl rfl (Nat.le_of_ble_eq_true rfl) (Nat.le_of_ble_eq_true rfl) (Nat.le_of_ble_eq_true rfl) (by simp only [List.map_cons, List.map_nil, gv_xz]; rfl) dL_law_1050 (fun v2 P2 H2 locs2 hq2 pt2 hS2 hz2 hk2 => ?_) (Nat.le_refl _) (Nat.le_refl _)
  obtain ⟨⟨r2, rfl, hr2, hp2⟩, hc2, hI2⟩ := hq2
  have ptO := pt_kept pt1 (fun q hq1 hq2 => hk2 q hq1 (fun h => hdis q hq2 h))
  refine W.eq (g2 := F0 m 1053 ls [.int (Int32.ofInt r2)]) rfl ?_
  refine lv_pop hx hb dL_law_1053 rfl ?_
  refine lv_goto (tgt := 1093) hx hb dL_law_1054 (by decide) ?_
  exact kk H2 locs2 P1 P2 ptO pt2 hI1 hI2 hO1 ⟨_, _, _, _, (by rw [show ((k + 1 : Nat) : Int) = (k : Int) + 1 by omega]; exact hW.nx), hc1, hc2⟩ hS2
set_option maxHeartbeats 4000000 in
set_option maxRecDepth 100000 in
/-- on -/
theorem law_33 {p : Program} {l : Launch} {e : Env} {s : State} {m : MethodId} {below : List Frame} {meth : Method} {c : Code} {dC : Nat → ClassId} {dI : Nat → Nat → Nat} {K : Nat → ClassId} {aX aM : Nat → Nat} {b L : Nat} {xs : Nat → Int32} {H : Heap} {locs : List Loc} {PX PM : PH} {ls : Array Slot} {i k : Nat} (C : LF p l s m meth c b L xs dC dI K aX aM) (hiL : i + 6 ≤ L) (hk : k ≤ 512) (ptX : ptG WSX (l, dC, dI, K, aX) PX H) (ptM : ptG WSM (l, dC, dI, K, aM) PM H) (hBX : BdX PX) (hIM : IM k PM) (hOX : OWN PX) (hTL : (∃ (T1 : TT) (K1 M1 A1 : PH), WFT (k : Int) K1 M1 A1 ∧ SXT T1 K1 M1 A1 PX ∧ SMT T1 K1 M1 A1 PM)) (hS : va_S (fun q => s.heap.size ≤ q) s.heap H locs) (hl : lv_has ls 4 [(3, .int (nI i)), (2, .ref (aM 0)), (1, .ref (aX 0)), (0, .ref b)]) (kk : ∀ (H : Heap) (locs : List Loc) (PX PM : PH), ptG WSX (l, dC, dI, K, aX) PX H → ptG WSM (l, dC, dI, K, aM) PM H → BdX PX → IM (k + 1) PM → OWN PX → (∃ (T1 : TT) (K1 M1 A1 : PH), WFT ((k + 1 : Nat) : Int) K1 M1 A1 ∧ SXT T1 K1 M1 A1 PX ∧ SMT T1 K1 M1 A1 PM) → va_S (fun q => s.heap.size ≤ q) s.heap H locs → W p l e room_1 s m #[Value.ref b] below meth c H locs 600000 7302250 (lw_Z below #[Value.ref b] s) (F0 m 1093 ls [])) : W p l e room_1 s m #[Value.ref b] below meth c H locs 600000 7302250 (lw_Z below #[Value.ref b] s) (F0 m 1057 ls []) := by
  obtain ⟨T1, K1, M1, A1, hW, hTX, hTM⟩ := hTL
  obtain ⟨hx, hb, hml, hown, hts, hXs, hbl, hL, hr, hlk, hKX, hKM, hiX, hiM, hAX, hAM, hdis⟩ := C
  have hbA : ¬ (fun q => s.heap.size ≤ q) b := Nat.not_le.mpr hbl
  refine lv_aload_n hx hb dL_law_1057 rfl (lv_at hl 2 rfl) ?_
  refine cw_call (S := WSX) (G := (l, dC, dI, K, aX)) (P := PX) (av := []) (o := 0) (rest := []) (j := iX11_on) (n := 0) hx hb hml hown hts hl.1 hKX hiX ptX hS hAX (wX_on (l, dC, dI, K, aX) PX k hk T1 K1 M1 A1 hW hTM.2.1.an hBX hOX hTX) cf_X11_on t_1339 rfl (by decide) rfl rfl rfl (Nat.le_of_ble_eq_true rfl) (Nat.le_of_ble_eq_true rfl) (Nat.le_of_ble_eq_true rfl) (by simp only [List.map_cons, List.map_nil, gv_xz]; rfl) dL_law_1058 (fun v1 P1 H1 locs1 hq1 pt1 hS1 hz1 hk1 => ?_) (Nat.le_refl _) (Nat.le_refl _)
  obtain ⟨⟨r1, rfl, hr1, hp1⟩, hc1, hO1, hI1⟩ := hq1
  have ptN := pt_kept ptM (fun q hq1 hq2 => hk1 q hq1 (fun h => hdis q h hq2))
  refine W.eq (g2 := F0 m 1061 ls [.int (Int32.ofInt r1)]) rfl ?_
  refine lv_pop hx hb dL_law_1061 rfl ?_
  refine lv_aload_n hx hb dL_law_1062 rfl (lv_at hl 1 rfl) ?_
  refine cw_call (S := WSM) (G := (l, dC, dI, K, aM)) (P := PM) (av := []) (o := 0) (rest := []) (j := iX12_on) (n := 0) hx hb hml hown hts hl.1 hKM hiM ptN hS1 hAM (wM_on (l, dC, dI, K, aM) PM k hk T1 K1 M1 A1 hW hIM hTM) cf_X12_on t_2180 rfl (by decide) rfl rfl rfl (Nat.le_of_ble_eq_true rfl) (Nat.le_of_ble_eq_true rfl) (Nat.le_of_ble_eq_true rfl) (by simp only [List.map_cons, List.map_nil, gv_xz]; rfl) dL_law_1063 (fun v2 P2 H2 locs2 hq2 pt2 hS2 hz2 hk2 => ?_) (Nat.le_refl _) (Nat.le_refl _)
  obtain ⟨⟨r2, rfl, hr2, hp2⟩, hc2, hI2⟩ := hq2
  have ptO := pt_kept pt1 (fun q hq1 hq2 => hk2 q hq1 (fun h => hdis q hq2 h))
  refine W.eq (g2 := F0 m 1066 ls [.int (Int32.ofInt r2)]) rfl ?_
  refine lv_pop hx hb dL_law_1066 rfl ?_
  refine lv_goto (tgt := 1093) hx hb dL_law_1067 (by decide) ?_
  exact kk H2 locs2 P1 P2 ptO pt2 hI1 hI2 hO1 ⟨_, _, _, _, (by rw [show ((k + 1 : Nat) : Int) = (k : Int) + 1 by omega]; exact hW.n_on (fun i i0 i1 => by have q := bl_1 (k := i) hIM.1; have q2 := hTM.1.2 i i0 i1; omega)), hc1, hc2⟩ hS2
set_option maxHeartbeats 4000000 in
set_option maxRecDepth 100000 in
/-- status -/
theorem law_34 {p : Program} {l : Launch} {e : Env} {s : State} {m : MethodId} {below : List Frame} {meth : Method} {c : Code} {dC : Nat → ClassId} {dI : Nat → Nat → Nat} {K : Nat → ClassId} {aX aM : Nat → Nat} {b L : Nat} {xs : Nat → Int32} {H : Heap} {locs : List Loc} {PX PM : PH} {ls : Array Slot} {i k : Nat} (C : LF p l s m meth c b L xs dC dI K aX aM) (hiL : i + 6 ≤ L) (hk : k ≤ 512) (ptX : ptG WSX (l, dC, dI, K, aX) PX H) (ptM : ptG WSM (l, dC, dI, K, aM) PM H) (hBX : BdX PX) (hIM : IM k PM) (hOX : OWN PX) (hTL : (∃ (T1 : TT) (K1 M1 A1 : PH), WFT (k : Int) K1 M1 A1 ∧ SXT T1 K1 M1 A1 PX ∧ SMT T1 K1 M1 A1 PM)) (hS : va_S (fun q => s.heap.size ≤ q) s.heap H locs) (hl : lv_has ls 4 [(3, .int (nI i)), (2, .ref (aM 0)), (1, .ref (aX 0)), (0, .ref b)]) (kk : ∀ (H : Heap) (locs : List Loc) (PX PM : PH), ptG WSX (l, dC, dI, K, aX) PX H → ptG WSM (l, dC, dI, K, aM) PM H → BdX PX → IM (k + 1) PM → OWN PX → (∃ (T1 : TT) (K1 M1 A1 : PH), WFT ((k + 1 : Nat) : Int) K1 M1 A1 ∧ SXT T1 K1 M1 A1 PX ∧ SMT T1 K1 M1 A1 PM) → va_S (fun q => s.heap.size ≤ q) s.heap H locs → W p l e room_1 s m #[Value.ref b] below meth c H locs 600000 7302250 (lw_Z below #[Value.ref b] s) (F0 m 1093 ls [])) : W p l e room_1 s m #[Value.ref b] below meth c H locs 600000 7302250 (lw_Z below #[Value.ref b] s) (F0 m 1070 ls []) := by
  obtain ⟨T1, K1, M1, A1, hW, hTX, hTM⟩ := hTL
  obtain ⟨hx, hb, hml, hown, hts, hXs, hbl, hL, hr, hlk, hKX, hKM, hiX, hiM, hAX, hAM, hdis⟩ := C
  have hbA : ¬ (fun q => s.heap.size ≤ q) b := Nat.not_le.mpr hbl
  refine lv_aload_n hx hb dL_law_1070 rfl (lv_at hl 2 rfl) ?_
  refine lv_aload_n hx hb dL_law_1071 rfl (lv_at hl 3 rfl) ?_
  refine lv_iload_n hx hb dL_law_1072 rfl (lv_at hl 0 rfl) ?_
  refine lv_iconst (v := 1) hx hb dL_law_1073 (by decide) ?_
  refine k_iadd (v := nI (i + 1)) hx hb (nI_ad2 i 1) dL_law_1074 ?_
  refine va_sld hx hb hXs hbl hbA hS (vp_in_nI (by omega) (by omega)) dL_law_1075 ?_
  refine cw_call (S := WSX) (G := (l, dC, dI, K, aX)) (P := PX) (av := [xz (xs (nI (i + 1)).toNatClampNeg)]) (o := 0) (rest := []) (j := iX11_status) (n := 1) hx hb hml hown hts hl.1 hKX hiX ptX hS hAX (wX_status (l, dC, dI, K, aX) PX k hk _ T1 K1 M1 A1 hW hTM.2.1.an hBX hOX hTX) cf_X11_status t_1353 rfl (by decide) rfl rfl rfl (Nat.le_of_ble_eq_true rfl) (Nat.le_of_ble_eq_true rfl) (Nat.le_of_ble_eq_true rfl) (by simp only [List.map_cons, List.map_nil, gv_xz]; rfl) dL_law_1076 (fun v1 P1 H1 locs1 hq1 pt1 hS1 hz1 hk1 => ?_) (Nat.le_refl _) (Nat.le_refl _)
  obtain ⟨⟨r1, rfl, hr1, hp1⟩, hc1, hO1, hI1⟩ := hq1
  have ptN := pt_kept ptM (fun q hq1 hq2 => hk1 q hq1 (fun h => hdis q h hq2))
  refine W.eq (g2 := F0 m 1079 ls [.int (Int32.ofInt r1)]) rfl ?_
  refine lv_pop hx hb dL_law_1079 rfl ?_
  refine lv_aload_n hx hb dL_law_1080 rfl (lv_at hl 1 rfl) ?_
  refine lv_aload_n hx hb dL_law_1081 rfl (lv_at hl 3 rfl) ?_
  refine lv_iload_n hx hb dL_law_1082 rfl (lv_at hl 0 rfl) ?_
  refine lv_iconst (v := 1) hx hb dL_law_1083 (by decide) ?_
  refine k_iadd (v := nI (i + 1)) hx hb (nI_ad2 i 1) dL_law_1084 ?_
  refine va_sld hx hb hXs hbl hbA hS1 (vp_in_nI (by omega) (by omega)) dL_law_1085 ?_
  refine cw_call (S := WSM) (G := (l, dC, dI, K, aM)) (P := PM) (av := [xz (xs (nI (i + 1)).toNatClampNeg)]) (o := 0) (rest := []) (j := iX12_status) (n := 1) hx hb hml hown hts hl.1 hKM hiM ptN hS1 hAM (wM_status (l, dC, dI, K, aM) PM k hk _ T1 K1 M1 A1 hW hIM hTM) cf_X12_status t_1847 rfl (by decide) rfl rfl rfl (Nat.le_of_ble_eq_true rfl) (Nat.le_of_ble_eq_true rfl) (Nat.le_of_ble_eq_true rfl) (by simp only [List.map_cons, List.map_nil, gv_xz]; rfl) dL_law_1086 (fun v2 P2 H2 locs2 hq2 pt2 hS2 hz2 hk2 => ?_) (Nat.le_refl _) (Nat.le_refl _)
  obtain ⟨⟨r2, rfl, hr2, hp2⟩, hc2, hI2⟩ := hq2
  have ptO := pt_kept pt1 (fun q hq1 hq2 => hk2 q hq1 (fun h => hdis q hq2 h))
  refine W.eq (g2 := F0 m 1089 ls [.int (Int32.ofInt r2)]) rfl ?_
  refine lv_pop hx hb dL_law_1089 rfl ?_
  refine lv_goto (tgt := 1093) hx hb dL_law_1090 (by decide) ?_
  exact kk H2 locs2 P1 P2 ptO pt2 hI1 hI2 hO1 ⟨_, _, _, _, (by rw [show ((k + 1 : Nat) : Int) = (k : Int) + 1 by omega]; exact hW.nx), hc1, hc2⟩ hS2
set_option maxHeartbeats 4000000 in
set_option maxRecDepth 100000 in
theorem law_exit {i L : Nat} (hL : L ≤ 3072) (hi : i ≤ L) (h : ¬ nI i > Int32.ofNat L - 6) : i + 6 ≤ L := by
  have e1 : (nI i).toInt = (i : Int) := by rw [show nI i = Int32.ofInt (i : Int) from rfl]; exact oI ⟨by omega, by omega⟩
  have e2 : (Int32.ofNat L - 6).toInt = (L : Int) - 6 := by
    have h1 : Int32.ofNat L - 6 = Int32.ofInt ((L : Int) - 6) := by rw [Int32.ofInt_sub]; rfl
    rw [h1]; exact oI ⟨by omega, by omega⟩
  have h2 : ¬ (Int32.ofNat L - 6).toInt < (nI i).toInt := fun q => h (Int32.lt_iff_toInt_lt.mpr q)
  rw [e1, e2] at h2
  omega
set_option maxHeartbeats 8000000 in
set_option maxRecDepth 100000 in
theorem law_loop {p : Program} {l : Launch} {e : Env} {s : State} {m : MethodId} {below : List Frame} {meth : Method} {c : Code} {dC : Nat → ClassId} {dI : Nat → Nat → Nat} {K : Nat → ClassId} {aX aM : Nat → Nat} {b L : Nat} {xs : Nat → Int32} (C : LF p l s m meth c b L xs dC dI K aX aM) : ∀ (nn i k : Nat), i ≤ L → L + 1 ≤ i + nn → 6 * k ≤ i → ∀ (H : Heap) (locs : List Loc) (PX PM : PH) (ls : Array Slot), ptG WSX (l, dC, dI, K, aX) PX H → ptG WSM (l, dC, dI, K, aM) PM H → BdX PX → IM k PM → OWN PX → (∃ (T1 : TT) (K1 M1 A1 : PH), WFT (k : Int) K1 M1 A1 ∧ SXT T1 K1 M1 A1 PX ∧ SMT T1 K1 M1 A1 PM) → va_S (fun q => s.heap.size ≤ q) s.heap H locs → lv_has ls 4 [(3, .int (nI i)), (2, .ref (aM 0)), (1, .ref (aX 0)), (0, .ref b)] → W p l e room_1 s m #[Value.ref b] below meth c H locs 600000 7302250 (lw_Z below #[Value.ref b] s) (F0 m 18 ls []) := by
  have C0 := C
  obtain ⟨hx, hb, hml, hown, hts, hXs, hbl, hL, hr, hlk, hKX, hKM, hiX, hiM, hAX, hAM, hdis⟩ := C
  have hbA : ¬ (fun q => s.heap.size ≤ q) b := Nat.not_le.mpr hbl
  intro nn
  induction nn with
  | zero => intro i k h1 h2; exact absurd h2 (by omega)
  | succ nn ih =>
  intro i k hi hin hk6 H locs PX PM ls ptX ptM hBX hIM hOX hTL hS hl
  refine lv_iload_n hx hb dL_law_18 rfl (lv_at hl 0 rfl) ?_
  refine lv_aload_n hx hb dL_law_19 rfl (lv_at hl 3 rfl) ?_
  refine va_slen hx hb hXs hbl hbA hS dL_law_20 ?_
  refine lv_bipush (v := 6) hx hb dL_law_21 (by decide) ?_
  refine lv_isub hx hb dL_law_23 ?_
  refine lv_icmp_gt (tgt := 1099) hx hb dL_law_24 (by decide) (fun c10 => ?_) (fun c10 => ?_)
  · refine lv_iconst (v := 1) hx hb dL_law_1099 (by decide) ?_
    refine va_forget (fun q hq => hS.2.2 q hq) ?_
    exact lw_ret hx hb hr hlk dL_law_1100
  · have hiL := law_exit hL hi c10
    have kk : ∀ (k1 : Nat), k1 ≤ k + 1 → ∀ (H : Heap) (locs : List Loc) (PX PM : PH), ptG WSX (l, dC, dI, K, aX) PX H → ptG WSM (l, dC, dI, K, aM) PM H → BdX PX → IM k1 PM → OWN PX → (∃ (T1 : TT) (K1 M1 A1 : PH), WFT (k1 : Int) K1 M1 A1 ∧ SXT T1 K1 M1 A1 PX ∧ SMT T1 K1 M1 A1 PM) → va_S (fun q => s.heap.size ≤ q) s.heap H locs → W p l e room_1 s m #[Value.ref b] below meth c H locs 600000 7302250 (lw_Z below #[Value.ref b] s) (F0 m 1093 ls []) := by
      intro k1 hk1 H locs PX PM q1 q2 q3 q4 q7 q6 q5
      refine lv_iinc (v := nI (i + 6)) (lv' := [(3, .int (nI (i + 6))), (2, .ref (aM 0)), (1, .ref (aX 0)), (0, .ref b)]) hx hb dL_law_1093 hl (k := 0) rfl (nI_ad2 i 6) (by decide) rfl (fun ls hl => ?_)
      refine lv_goto (tgt := 18) hx hb dL_law_1096 (by decide) ?_
      exact ih (i + 6) k1 hiL (by omega) (by omega) H locs PX PM ls q1 q2 q3 q4 q7 q6 q5 hl
    have hk5 : k ≤ 512 := by omega
    refine lv_aload_n hx hb dL_law_27 rfl (lv_at hl 3 rfl) ?_
    refine lv_iload_n hx hb dL_law_28 rfl (lv_at hl 0 rfl) ?_
    refine va_sld hx hb hXs hbl hbA hS (vp_in_nI (by omega) (by omega)) dL_law_29 ?_
    refine lv_bipush (v := 63) hx hb dL_law_30 (by decide) ?_
    refine lv_iand hx hb dL_law_32 ?_
    refine lv_topi (fun t1 e1 => ?_)
    rcases sw_cases t1 35 (by decide) with h_sw | ⟨j_sw, hj_sw, rfl⟩
    · refine lv_tableOut (tgt := 1093) hx hb dL_law_33 (h_sw.imp id (fun q => q)) (by decide) ?_
      exact kk k (by omega) H locs PX PM ptX ptM hBX hIM hOX hTL hS
    · rcases (show j_sw = 0 ∨ j_sw = 1 ∨ j_sw = 2 ∨ j_sw = 3 ∨ j_sw = 4 ∨ j_sw = 5 ∨ j_sw = 6 ∨ j_sw = 7 ∨ j_sw = 8 ∨ j_sw = 9 ∨ j_sw = 10 ∨ j_sw = 11 ∨ j_sw = 12 ∨ j_sw = 13 ∨ j_sw = 14 ∨ j_sw = 15 ∨ j_sw = 16 ∨ j_sw = 17 ∨ j_sw = 18 ∨ j_sw = 19 ∨ j_sw = 20 ∨ j_sw = 21 ∨ j_sw = 22 ∨ j_sw = 23 ∨ j_sw = 24 ∨ j_sw = 25 ∨ j_sw = 26 ∨ j_sw = 27 ∨ j_sw = 28 ∨ j_sw = 29 ∨ j_sw = 30 ∨ j_sw = 31 ∨ j_sw = 32 ∨ j_sw = 33 ∨ j_sw = 34 by omega) with rfl | rfl | rfl | rfl | rfl | rfl | rfl | rfl | rfl | rfl | rfl | rfl | rfl | rfl | rfl | rfl | rfl | rfl | rfl | rfl | rfl | rfl | rfl | rfl | rfl | rfl | rfl | rfl | rfl | rfl | rfl | rfl | rfl | rfl | rfl
      · refine lv_tableIn (tgt := 188) (off := 155) hx hb dL_law_33 (by decide) (by decide) (by decide) (by decide) ?_
        exact law_0 C0 hiL hk5 ptX ptM hBX hIM hOX hTL hS hl (kk (k + 1) (Nat.le_refl _))
      · refine lv_tableIn (tgt := 251) (off := 218) hx hb dL_law_33 (by decide) (by decide) (by decide) (by decide) ?_
        exact law_1 C0 hiL hk5 ptX ptM hBX hIM hOX hTL hS hl (kk (k + 1) (Nat.le_refl _))
      · refine lv_tableIn (tgt := 274) (off := 241) hx hb dL_law_33 (by decide) (by decide) (by decide) (by decide) ?_
        exact law_2 C0 hiL hk5 ptX ptM hBX hIM hOX hTL hS hl (kk (k + 1) (Nat.le_refl _))
      · refine lv_tableIn (tgt := 287) (off := 254) hx hb dL_law_33 (by decide) (by decide) (by decide) (by decide) ?_
        exact law_3 C0 hiL hk5 ptX ptM hBX hIM hOX hTL hS hl (kk (k + 1) (Nat.le_refl _))
      · refine lv_tableIn (tgt := 310) (off := 277) hx hb dL_law_33 (by decide) (by decide) (by decide) (by decide) ?_
        exact law_4 C0 hiL hk5 ptX ptM hBX hIM hOX hTL hS hl (kk (k + 1) (Nat.le_refl _))
      · refine lv_tableIn (tgt := 333) (off := 300) hx hb dL_law_33 (by decide) (by decide) (by decide) (by decide) ?_
        exact law_5 C0 hiL hk5 ptX ptM hBX hIM hOX hTL hS hl (kk (k + 1) (Nat.le_refl _))
      · refine lv_tableIn (tgt := 376) (off := 343) hx hb dL_law_33 (by decide) (by decide) (by decide) (by decide) ?_
        exact law_6 C0 hiL hk5 ptX ptM hBX hIM hOX hTL hS hl (kk (k + 1) (Nat.le_refl _))
      · refine lv_tableIn (tgt := 399) (off := 366) hx hb dL_law_33 (by decide) (by decide) (by decide) (by decide) ?_
        exact law_7 C0 hiL hk5 ptX ptM hBX hIM hOX hTL hS hl (kk (k + 1) (Nat.le_refl _))
      · refine lv_tableIn (tgt := 432) (off := 399) hx hb dL_law_33 (by decide) (by decide) (by decide) (by decide) ?_
        exact law_8 C0 hiL hk5 ptX ptM hBX hIM hOX hTL hS hl (kk (k + 1) (Nat.le_refl _))
      · refine lv_tableIn (tgt := 475) (off := 442) hx hb dL_law_33 (by decide) (by decide) (by decide) (by decide) ?_
        exact law_9 C0 hiL hk5 ptX ptM hBX hIM hOX hTL hS hl (kk (k + 1) (Nat.le_refl _))
      · refine lv_tableIn (tgt := 508) (off := 475) hx hb dL_law_33 (by decide) (by decide) (by decide) (by decide) ?_
        exact law_10 C0 hiL hk5 ptX ptM hBX hIM hOX hTL hS hl (kk (k + 1) (Nat.le_refl _))
      · refine lv_tableIn (tgt := 531) (off := 498) hx hb dL_law_33 (by decide) (by decide) (by decide) (by decide) ?_
        exact law_11 C0 hiL hk5 ptX ptM hBX hIM hOX hTL hS hl (kk (k + 1) (Nat.le_refl _))
      · refine lv_tableIn (tgt := 554) (off := 521) hx hb dL_law_33 (by decide) (by decide) (by decide) (by decide) ?_
        exact law_12 C0 hiL hk5 ptX ptM hBX hIM hOX hTL hS hl (kk (k + 1) (Nat.le_refl _))
      · refine lv_tableIn (tgt := 567) (off := 534) hx hb dL_law_33 (by decide) (by decide) (by decide) (by decide) ?_
        exact law_13 C0 hiL hk5 ptX ptM hBX hIM hOX hTL hS hl (kk (k + 1) (Nat.le_refl _))
      · refine lv_tableIn (tgt := 590) (off := 557) hx hb dL_law_33 (by decide) (by decide) (by decide) (by decide) ?_
        exact law_14 C0 hiL hk5 ptX ptM hBX hIM hOX hTL hS hl (kk (k + 1) (Nat.le_refl _))
      · refine lv_tableIn (tgt := 613) (off := 580) hx hb dL_law_33 (by decide) (by decide) (by decide) (by decide) ?_
        exact law_15 C0 hiL hk5 ptX ptM hBX hIM hOX hTL hS hl (kk (k + 1) (Nat.le_refl _))
      · refine lv_tableIn (tgt := 646) (off := 613) hx hb dL_law_33 (by decide) (by decide) (by decide) (by decide) ?_
        exact law_16 C0 hiL hk5 ptX ptM hBX hIM hOX hTL hS hl (kk (k + 1) (Nat.le_refl _))
      · refine lv_tableIn (tgt := 669) (off := 636) hx hb dL_law_33 (by decide) (by decide) (by decide) (by decide) ?_
        exact law_17 C0 hiL hk5 ptX ptM hBX hIM hOX hTL hS hl (kk (k + 1) (Nat.le_refl _))
      · refine lv_tableIn (tgt := 712) (off := 679) hx hb dL_law_33 (by decide) (by decide) (by decide) (by decide) ?_
        exact law_18 C0 hiL hk5 ptX ptM hBX hIM hOX hTL hS hl (kk (k + 1) (Nat.le_refl _))
      · refine lv_tableIn (tgt := 745) (off := 712) hx hb dL_law_33 (by decide) (by decide) (by decide) (by decide) ?_
        exact law_19 C0 hiL hk5 ptX ptM hBX hIM hOX hTL hS hl (kk (k + 1) (Nat.le_refl _))
      · refine lv_tableIn (tgt := 768) (off := 735) hx hb dL_law_33 (by decide) (by decide) (by decide) (by decide) ?_
        exact law_20 C0 hiL hk5 ptX ptM hBX hIM hOX hTL hS hl (kk (k + 1) (Nat.le_refl _))
      · refine lv_tableIn (tgt := 781) (off := 748) hx hb dL_law_33 (by decide) (by decide) (by decide) (by decide) ?_
        exact law_21 C0 hiL hk5 ptX ptM hBX hIM hOX hTL hS hl (kk (k + 1) (Nat.le_refl _))
      · refine lv_tableIn (tgt := 804) (off := 771) hx hb dL_law_33 (by decide) (by decide) (by decide) (by decide) ?_
        exact law_22 C0 hiL hk5 ptX ptM hBX hIM hOX hTL hS hl (kk (k + 1) (Nat.le_refl _))
      · refine lv_tableIn (tgt := 827) (off := 794) hx hb dL_law_33 (by decide) (by decide) (by decide) (by decide) ?_
        exact law_23 C0 hiL hk5 ptX ptM hBX hIM hOX hTL hS hl (kk (k + 1) (Nat.le_refl _))
      · refine lv_tableIn (tgt := 850) (off := 817) hx hb dL_law_33 (by decide) (by decide) (by decide) (by decide) ?_
        exact law_24 C0 hiL hk5 ptX ptM hBX hIM hOX hTL hS hl (kk (k + 1) (Nat.le_refl _))
      · refine lv_tableIn (tgt := 873) (off := 840) hx hb dL_law_33 (by decide) (by decide) (by decide) (by decide) ?_
        exact law_25 C0 hiL hk5 ptX ptM hBX hIM hOX hTL hS hl (kk (k + 1) (Nat.le_refl _))
      · refine lv_tableIn (tgt := 906) (off := 873) hx hb dL_law_33 (by decide) (by decide) (by decide) (by decide) ?_
        exact law_26 C0 hiL hk5 ptX ptM hBX hIM hOX hTL hS hl (kk (k + 1) (Nat.le_refl _))
      · refine lv_tableIn (tgt := 929) (off := 896) hx hb dL_law_33 (by decide) (by decide) (by decide) (by decide) ?_
        exact law_27 C0 hiL hk5 ptX ptM hBX hIM hOX hTL hS hl (kk (k + 1) (Nat.le_refl _))
      · refine lv_tableIn (tgt := 952) (off := 919) hx hb dL_law_33 (by decide) (by decide) (by decide) (by decide) ?_
        exact law_28 C0 hiL hk5 ptX ptM hBX hIM hOX hTL hS hl (kk (k + 1) (Nat.le_refl _))
      · refine lv_tableIn (tgt := 975) (off := 942) hx hb dL_law_33 (by decide) (by decide) (by decide) (by decide) ?_
        exact law_29 C0 hiL hk5 ptX ptM hBX hIM hOX hTL hS hl (kk (k + 1) (Nat.le_refl _))
      · refine lv_tableIn (tgt := 988) (off := 955) hx hb dL_law_33 (by decide) (by decide) (by decide) (by decide) ?_
        exact law_30 C0 hiL hk5 ptX ptM hBX hIM hOX hTL hS hl (kk (k + 1) (Nat.le_refl _))
      · refine lv_tableIn (tgt := 1011) (off := 978) hx hb dL_law_33 (by decide) (by decide) (by decide) (by decide) ?_
        exact law_31 C0 hiL hk5 ptX ptM hBX hIM hOX hTL hS hl (kk (k + 1) (Nat.le_refl _))
      · refine lv_tableIn (tgt := 1044) (off := 1011) hx hb dL_law_33 (by decide) (by decide) (by decide) (by decide) ?_
        exact law_32 C0 hiL hk5 ptX ptM hBX hIM hOX hTL hS hl (kk (k + 1) (Nat.le_refl _))
      · refine lv_tableIn (tgt := 1057) (off := 1024) hx hb dL_law_33 (by decide) (by decide) (by decide) (by decide) ?_
        exact law_33 C0 hiL hk5 ptX ptM hBX hIM hOX hTL hS hl (kk (k + 1) (Nat.le_refl _))
      · refine lv_tableIn (tgt := 1070) (off := 1037) hx hb dL_law_33 (by decide) (by decide) (by decide) (by decide) ?_
        exact law_34 C0 hiL hk5 ptX ptM hBX hIM hOX hTL hS hl (kk (k + 1) (Nat.le_refl _))
