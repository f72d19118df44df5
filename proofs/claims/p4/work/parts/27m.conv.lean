/-! From the constructors' cells to the layer Go, and calls of its contracts from outside. -/
theorem ptOf {S : WS} {G : GT} {P : PH} {ws : va_W} {H : Heap} (pos : Nat → Nat) (hP : va_P (G.2.1, G.2.2.1) vwCl ws H) (h : ∀ o, o < S.1 → ws[pos o]? = some (G.2.2.2.2 o, en S G.2.2.2.2 G.2.2.2.1 P o)) : ptG S G P H := by
  intro k q hk
  have hlt : k < S.1 := by have := (List.getElem?_eq_some_iff.mp hk).1; rw [WL_len] at this; exact this
  rw [WL_get hlt] at hk
  rw [← Option.some.inj hk]
  exact hP (pos k) _ (h k hlt)
theorem injOf {S : WS} {G : GT} {P : PH} {ws : va_W} {A : Nat → Prop} (pos obj : Nat → Nat) (hD : va_D A ws) (h : ∀ o, o < S.1 → ws[pos o]? = some (G.2.2.2.2 o, en S G.2.2.2.2 G.2.2.2.1 P o)) (hob : ∀ o, o < S.1 → obj (pos o) = o) : injG S G := by
  intro i j hi hj e
  have h1 := hD.1 (pos i) (pos j) _ _ (h i hi) (h j hj) e
  rw [← hob i hi, ← hob j hj, h1]
theorem aOf {S : WS} {G : GT} {P : PH} {ws : va_W} {A : Nat → Prop} (pos : Nat → Nat) (hD : va_D A ws) (h : ∀ o, o < S.1 → ws[pos o]? = some (G.2.2.2.2 o, en S G.2.2.2.2 G.2.2.2.1 P o)) : ∀ o, o < S.1 → A (G.2.2.2.2 o) := fun o ho => hD.2 (pos o) _ (h o ho)
theorem W_callc {S : WS} {G : GT} {pc : Nat} {p : Program} {e : Env} {R : Room} {s : State} {m : MethodId} {args : Array Value} {below : List Frame} {meth : Method} {c : Code} {H : Heap} {locs : List Loc} {Q0 : State → Prop} {la : Array Slot} {st0 rest : List Value} {a : Array Value} {Q1 : Option PV → PH → Prop} {cells slots : Nat} {A0 : Nat → Prop} {H0 : Heap} (hr : va_Run p G.1 e R s m args below meth c H locs cells slots 0 0 (F0 m pc la st0) rest (Qg S G Q1 a) (AA S G)) (hS : va_S A0 H0 H locs) (hsub : ∀ q, AA S G q → A0 q)
    (kk : ∀ (v : Option PV) (P1 : PH) (H1 : Heap) (locs1 : List Loc), Q1 v P1 → ptG S G P1 H1 → va_S A0 H0 H1 locs1 → H.size ≤ H1.size → (∀ q, q < H.size → ¬ AA S G q → H1[q]? = H[q]?) → W p G.1 e R s m args below meth c H1 locs1 cells slots Q0 (F0 m (pc + 3) la ((v.map (gv G.2.2.2.2)).toList ++ rest))) : W p G.1 e R s m args below meth c H locs cells slots Q0 (F0 m pc la st0) := by
  intro T hT X
  obtain ⟨v, st₀, t, T', L, h0, X', hL, e1, e2, ⟨⟨v1, P1, hv, hq, hp⟩, hz, hk⟩, st⟩ := hr T hT X
  have hv : v = v1.map (gv G.2.2.2.2) := Outcome.returned.inj hv
  subst hv
  rw [h0] at hz hk
  have hk1 : ∀ q, q < H.size → ¬ AA S G q → T'.heap[q]? = H[q]? := fun q h1 h2 => by rw [e1]; exact hk q h1 h2
  obtain ⟨t2, a1, b1⟩ := kk v1 P1 T'.heap (locs ++ L) hq (by rw [e1]; exact hp) ⟨Nat.le_trans hS.1 (by rw [e1]; exact hz), fun q h1 h2 => by rw [hk1 q (Nat.lt_of_lt_of_le h1 hS.1) (fun h => h2 (hsub q h))]; exact hS.2.1 q h1 h2, fun q hq => by
      rcases List.mem_append.mp hq with h | h
      · exact hS.2.2 q h
      · exact hsub _ (hL q h)⟩ (by rw [e1]; exact hz) hk1 T' rfl X'
  exact ⟨t2, st t2 a1, b1⟩
/-- a call of a contract of the layer Go from any method -/
theorem cw_call {S : WS} {G : GT} {P : PH} {p : Program} {e : Env} {R : Room} {s : State} {m : MethodId} {args : Array Value} {below : List Frame} {meth : Method} {c : Code} {H : Heap} {locs : List Loc} {Q0 : State → Prop} {la : Array Slot} {st0 rest : List Value} {cells slots nL pc : Nat} {cc : ByteArray} {own : String} {A0 : Nat → Prop} {j : MI} {av : List PV} {o n d1 idx ci N : Nat} {C1 : String} {T1 : u_T} {Q1 : Option PV → PH → Prop}
    (hx : p.tables.exec = Jvm.exec) (hb : c.code = cc) (hml : c.maxLocals = nL) (hown : s.vm.findClass own = some m.cls) (hts : ∀ w ∈ WT, w.before args s = true) (hla : la.size = nL) (hK : kG S G s) (hi : injG S G) (hP : ptG S G P H) (hS : va_S A0 s.heap H locs) (hsub : ∀ q, AA S G q → A0 q) (hC : Ct S G d1 j (vR o :: av) P Q1) (hF : CFV j n) (hw : Cond.methodLink own idx j.1 ∈ WT) (hn : av.length = n) (ho : o < S.1) (hsh : S.2.2.1 (S.2.1 o) = (0, ci, N)) (hcl : vwCl[ci]? = some (C1, T1, N)) (hC1 : j.1.cls = C1) (hcat : (rest.map fun v => v.category).sum ≤ 8) (hdp : d1 + 1 ≤ R.frames) (hlo : 60 * d1 + 60 ≤ R.locals) (hst : st0 = (av.map (gv G.2.2.2.2)).reverse ++ .ref (G.2.2.2.2 o) :: rest) (hd : decode cc pc = .ok (.invokevirtual idx, 3))
    (kk : ∀ (v : Option PV) (P1 : PH) (H1 : Heap) (locs1 : List Loc), Q1 v P1 → ptG S G P1 H1 → va_S A0 s.heap H1 locs1 → H.size ≤ H1.size → (∀ q, q < H.size → ¬ AA S G q → H1[q]? = H[q]?) → W p G.1 e R s m args below meth c H1 locs1 cells slots Q0 (F0 m (pc + 3) la ((v.map (gv G.2.2.2.2)).toList ++ rest))) (hcr : cells ≤ R.cells) (hsr : slots ≤ R.slots) : W p G.1 e R s m args below meth c H locs cells slots Q0 (F0 m pc la st0) := by
  obtain ⟨f1, f2, f3, f4, f5, f6⟩ := hF
  obtain ⟨hK1, hNk⟩ := hK
  have hlen : (av.map (gv G.2.2.2.2)).length = n := by rw [List.length_map]; exact hn
  refine W_callc (va_runV (As := av.map (gv G.2.2.2.2)) (rest := rest) ⟨hx, hb, hml, hown, hts⟩ hC (cwV n hts (gV hw f1 f2 f3 f4) rfl rfl rfl ⟨rfl, f5⟩ ⟨by show d1 + 1 ≤ R.frames; exact hdp, by show 8 + (j.2.2.1 + 11) + 60 * d1 ≤ R.locals; omega⟩) ⟨pre_blind, ?_, fun U hU hW => ⟨rfl, by rw [hU]; exact hP, ⟨va_K.moved hW.alike hK1, nX.warm hW hNk⟩, hi⟩⟩ rfl hlen hla hst (lv_room hcat) hd ⟨hcr, hsr⟩) hS hsub kk
  have h1 := va_recv hK1 hP hcl (WLO ho hsh)
  rw [hC1]
  exact h1
theorem kM {l : Launch} {dC : Nat → ClassId} {dI : Nat → Nat → Nat} {K : Nat → ClassId} {ad : Nat → Nat} {s : State} (hK : va_K (dC, dI) vwCl (ty5 K) s) (hX : nX s) : kG WSM (l, dC, dI, K, ad) s := by
  refine ⟨⟨hK.1, fun k q h => ?_⟩, hX⟩
  match k with
  | 0 => exact hK.2 0 q h
  | 1 => exact hK.2 1 q h
  | k + 2 => exact absurd h (by simp [tysG, WSM])
theorem kX {l : Launch} {dC : Nat → ClassId} {dI : Nat → Nat → Nat} {K : Nat → ClassId} {ad : Nat → Nat} {s : State} (hK : va_K (dC, dI) vwCl (ty5 K) s) (hX : nX s) : kG WSX (l, dC, dI, K, ad) s := ⟨hK, hX⟩
/-- the reference's first heap, but for begin -/
def PM0 : PH := fun o k => if o = 0 then (if k = 9 then -1 else if k = 11 then -1 else if k = 12 then -1 else if k = 37 then 1 else if k = 61 then 1 else 0) else 0
theorem BdM0 : BdM PM0 := by
  refine ⟨by decide +kernel, fun o h0 ho k => ?_⟩
  have e : PM0 o k = 0 := by unfold PM0; rw [if_neg (by omega)]
  rw [e]
  have : ∀ o : Nat, o < 64 → 0 < o → loA o ≤ 0 ∧ 0 ≤ hiA o := by decide +kernel
  exact this o ho h0
