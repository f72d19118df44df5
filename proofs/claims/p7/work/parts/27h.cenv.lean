/-! What the constructors stand in, with all their cells kept. -/
abbrev ty5 (K : Nat → ClassId) : List (ClassId × FieldType) := [(K 0, .int), (K 1, .long), (K 2, .object RX2), (K 3, .object RX5), (K 4, .array .int)]
abbrev nPre (dC : Nat → ClassId) (dI : Nat → Nat → Nat) (K : Nat → ClassId) (sz : Nat) (W : va_W) : State → Prop := fun U => U.heap.size = sz ∧ va_P (dC, dI) vwCl W U.heap ∧ va_K (dC, dI) vwCl (ty5 K) U ∧ va_D (fun _ => True) W ∧ gN U ∧ nX U
theorem nBlind {dC : Nat → ClassId} {dI : Nat → Nat → Nat} {K : Nat → ClassId} {sz : Nat} {W : va_W} {av : List Value} : FrameBlind (va_Pc av (nPre dC dI K sz W)) := fun a U g mk q => by
  obtain ⟨q0, q1, qP, qK, qD, qN, qX⟩ := q
  exact ⟨q0, q1, qP, va_K.moved (u := U) (U := U.calling g mk a) (Vm.Alike.refl U.vm) qK, qD, qN.same rfl, qX.same (u := U) (U := U.calling g mk a) rfl⟩
theorem nGo {dC : Nat → ClassId} {dI : Nat → Nat → Nat} {K : Nat → ClassId} {W : va_W} {av : List Value} {s : State} {H : Heap} {A : Nat → Prop} (hP : va_P (dC, dI) vwCl W H) (hK : va_K (dC, dI) vwCl (ty5 K) s) (hD : va_D A W) (hN : gN s) (hX : nX s) : ∀ U : State, U.heap = H → s.WarmedH U.vm → va_Pc av (nPre dC dI K H.size W) av.toArray U := fun U hU hW => ⟨rfl, by rw [hU], by rw [hU]; exact hP, va_K.moved hW.alike hK, hD.weaken (fun _ _ _ _ => trivial), hN.warm hW, hX.warm hW⟩
section NR
variable {p : Program} {l : Launch} {e : Env} {R : Room} {s : State} {m : MethodId} {args : Array Value} {below : List Frame} {meth : Method} {c : Code} {H : Heap} {locs : List Loc} {cells slots : Nat} {Q : State → Prop}
variable {cc : ByteArray} {pc : Nat} {ls : Array Slot} {rest : List Value} {D : va_G} {cl : List vw_C} {A : Nat → Prop} {ws : va_W} {H0 : Heap} {K : Nat → ClassId}
/-- new int[n], kept -/
theorem n_newI (hexec : p.tables.exec = Jvm.exec) (hb : c.code = cc) (harr : (Cond.arrayClass .int).before args s = true) (hK : va_K D cl (ty5 K) s) (hP : va_P D cl ws H) (hD : va_D A ws) (hS : va_S A H0 H locs) (hA : ∀ q, H0.size ≤ q → A q) {n : Int32} {N' k2 n2 : Nat} (hn : ¬ n < 0) (hN : n.toNatClampNeg = N') (hbytes : N' * 4 ≤ 536870912) (hcells : cells + 1 ≤ R.cells) (hslots : slots + N' ≤ R.slots) (hk2 : cells + 1 = k2) (hn2 : slots + N' = n2) (hdg : decode cc pc = .ok (.newarray .int, 2))
    (kk : ∀ (q : Nat) (H1 : Heap), va_P D cl (ws ++ [(q, .inl (K 0, N', .inl (fun _ => 0)))]) H1 → va_D A (ws ++ [(q, .inl (K 0, N', .inl (fun _ => 0)))]) → va_S A H0 H1 locs → W p l e R s m args below meth c H1 locs k2 n2 Q (F0 m (pc + 2) ls (.ref q :: rest))) : W p l e R s m args below meth c H locs cells slots Q (F0 m pc ls (.int n :: rest)) := by
  subst hk2; subst hn2
  refine va_newa (atype := .int) (ty := .int) (a0 := (N', .inl (fun _ => 0))) hexec hb harr rfl hK hP hD hS hA (fun _ => rfl) hn hN hbytes hcells hslots hdg (fun q cA H1 hK1 hP1 hD1 hS1 => ?_)
  have e1 : cA = K 0 := ty_one hK1 (i := 5) (j := 0) rfl rfl
  subst e1
  exact kk q H1 hP1 hD1 hS1
theorem n_newJ (hexec : p.tables.exec = Jvm.exec) (hb : c.code = cc) (harr : (Cond.arrayClass .long).before args s = true) (hK : va_K D cl (ty5 K) s) (hP : va_P D cl ws H) (hD : va_D A ws) (hS : va_S A H0 H locs) (hA : ∀ q, H0.size ≤ q → A q) {n : Int32} {N' k2 n2 : Nat} (hn : ¬ n < 0) (hN : n.toNatClampNeg = N') (hbytes : N' * 8 ≤ 536870912) (hcells : cells + 1 ≤ R.cells) (hslots : slots + N' ≤ R.slots) (hk2 : cells + 1 = k2) (hn2 : slots + N' = n2) (hdg : decode cc pc = .ok (.newarray .long, 2))
    (kk : ∀ (q : Nat) (H1 : Heap), va_P D cl (ws ++ [(q, .inl (K 1, N', .inr (.inl (fun _ => 0))))]) H1 → va_D A (ws ++ [(q, .inl (K 1, N', .inr (.inl (fun _ => 0))))]) → va_S A H0 H1 locs → W p l e R s m args below meth c H1 locs k2 n2 Q (F0 m (pc + 2) ls (.ref q :: rest))) : W p l e R s m args below meth c H locs cells slots Q (F0 m pc ls (.int n :: rest)) := by
  subst hk2; subst hn2
  refine va_newa (atype := .long) (ty := .long) (a0 := (N', .inr (.inl (fun _ => 0)))) hexec hb harr rfl hK hP hD hS hA (fun _ => rfl) hn hN hbytes hcells hslots hdg (fun q cA H1 hK1 hP1 hD1 hS1 => ?_)
  have e1 : cA = K 1 := ty_oneJ hK1 (i := 5) (j := 1) rfl rfl
  subst e1
  exact kk q H1 hP1 hD1 hS1
theorem ty_oneQ {U : State} {tys : List (ClassId × FieldType)} {i j : Nat} {c1 c2 : ClassId} {C : String} (hK : va_K D cl tys U) (h1 : tys[i]? = some (c1, .object C)) (h2 : tys[j]? = some (c2, .object C)) : c1 = c2 := by
  obtain ⟨_, _, _, _, _, a⟩ := (hK.2 i _ h1).2
  obtain ⟨_, _, _, _, _, b⟩ := (hK.2 j _ h2).2
  exact Option.some.inj (a.symm.trans b)
/-- new C[n], kept -/
theorem n_newQ (hexec : p.tables.exec = Jvm.exec) (hb : c.code = cc) {own C : String} {index t : Nat} (hown : s.vm.findClass own = some m.cls) (hclink : (Cond.classLink own index C).before args s = true) (hover : va_AO C s) (hK : va_K D cl (ty5 K) s) (ht : (ty5 K)[t]? = some (K t, .object C)) (hP : va_P D cl ws H) (hD : va_D A ws) (hS : va_S A H0 H locs) (hA : ∀ q, H0.size ≤ q → A q) {n : Int32} {N' k2 n2 : Nat} (hn : ¬ n < 0) (hN : n.toNatClampNeg = N') (hbytes : N' * 4 ≤ 536870912) (hcells : cells + 1 ≤ R.cells) (hslots : slots + N' ≤ R.slots) (hk2 : cells + 1 = k2) (hn2 : slots + N' = n2) (hdg : decode cc pc = .ok (.anewarray index, 3))
    (kk : ∀ (q : Nat) (H1 : Heap), va_P D cl (ws ++ [(q, .inl (K t, N', .inr (.inr (.inr (.inr (fun _ => none))))))]) H1 → va_D A (ws ++ [(q, .inl (K t, N', .inr (.inr (.inr (.inr (fun _ => none))))))]) → va_S A H0 H1 locs → W p l e R s m args below meth c H1 locs k2 n2 Q (F0 m (pc + 3) ls (.ref q :: rest))) : W p l e R s m args below meth c H locs cells slots Q (F0 m pc ls (.int n :: rest)) := by
  subst hk2; subst hn2
  refine va_newq hexec hb hown hclink hover hK hP hD hS hA hn hN hbytes hcells hslots hdg (fun q cA H1 hK1 hP1 hD1 hS1 => ?_)
  have h5 : (ty5 K ++ [(cA, FieldType.object C)])[5]? = some (cA, .object C) := rfl
  have h6 : (ty5 K ++ [(cA, FieldType.object C)])[t]? = some (K t, .object C) := by
    rw [List.getElem?_append_left (List.getElem?_eq_some_iff.mp ht).1]; exact ht
  have e1 : cA = K t := ty_oneQ hK1 h5 h6
  subst e1
  exact kk q H1 hP1 hD1 hS1
/-- a world whose addresses are the same -/
theorem va_D.addr {w1 w2 : va_W} (h : va_D A w1) (he : w1.map Prod.fst = w2.map Prod.fst) : va_D A w2 := by
  have key : ∀ (k : Nat) (x : Nat × va_E), w2[k]? = some x → ∃ y : Nat × va_E, w1[k]? = some y ∧ y.1 = x.1 := by
    intro k x hx
    have h1 : (w2.map Prod.fst)[k]? = some x.1 := by rw [List.getElem?_map, hx]; rfl
    rw [← he, List.getElem?_map] at h1
    cases h2 : w1[k]? with
    | none => rw [h2] at h1; cases h1
    | some y => rw [h2] at h1; exact ⟨y, rfl, Option.some.inj h1⟩
  refine ⟨fun i j x y hx hy hxy => ?_, fun k x hx => ?_⟩
  · obtain ⟨x1, a1, b1⟩ := key i x hx
    obtain ⟨y1, a2, b2⟩ := key j y hy
    exact h.1 i j x1 y1 a1 a2 (by rw [b1, b2, hxy])
  · obtain ⟨x1, a1, b1⟩ := key k x hx
    rw [← b1]
    exact h.2 k x1 a1
theorem cellQ {cA : ClassId} {n : Nat} {f g : Nat → Option Nat} (h : ∀ i, i < n → f i = g i) : vp_cell cA (n, .inr (.inr (.inr (.inr f)))) = vp_cell cA (n, .inr (.inr (.inr (.inr g)))) := by
  show arrV cA n (fun j => va_rf (f j)) = arrV cA n (fun j => va_rf (g j))
  unfold arrV
  have : (Array.ofFn fun j : Fin n => va_rf (f ↑j)) = Array.ofFn fun j : Fin n => va_rf (g ↑j) := by
    congr 1
    funext j
    rw [h j.1 j.2]
  rw [this]
theorem va_P.q {k q n : Nat} {cA : ClassId} {f g : Nat → Option Nat} (hP : va_P D cl ws H) (hk : ws[k]? = some (q, .inl (cA, n, .inr (.inr (.inr (.inr f)))))) (h : ∀ i, i < n → f i = g i) : va_P D cl (ws.set k (q, .inl (cA, n, .inr (.inr (.inr (.inr g)))))) H := by
  intro j x hx
  by_cases e : k = j
  · subst e
    rw [List.getElem?_set_self (List.getElem?_eq_some_iff.mp hk).1] at hx
    have := hP k _ hk
    rw [← Option.some.inj hx]
    show H[q]? = some (vp_cell cA (n, .inr (.inr (.inr (.inr g)))))
    rw [← cellQ h]
    exact this
  · rw [List.getElem?_set_ne e] at hx
    exact hP j x hx
/-- new int[n][k], kept -/
theorem n_mna (hexec : p.tables.exec = Jvm.exec) (hb : c.code = cc) {own : String} {index : Nat} (hown : s.vm.findClass own = some m.cls) (hclink : (Cond.classLink own index "[[I").before args s = true) (hover : gA s) (harr : (Cond.arrayClass .int).before args s = true) (hK : va_K D cl (ty5 K) s) (hP : va_P D cl ws H) (hD : va_D A ws) (hS : va_S A H0 H locs) (hA : ∀ q, H0.size ≤ q → A q) {n k : Int32} {N' K' k2 n2 : Nat} (hn : ¬ n < 0) (hk : ¬ k < 0) (hN : n.toNatClampNeg = N') (hM : k.toNatClampNeg = K')
    (hb1 : N' * 4 ≤ 536870912) (hb2 : K' * 4 ≤ 536870912) (hb3 : K' ≤ 536870912) (hcells : cells + (1 + N') ≤ R.cells) (hslots : slots + (N' + N' * K') ≤ R.slots) (hk2 : cells + 1 + N' = k2) (hn2 : slots + N' + N' * K' = n2) (hdg : decode cc pc = .ok (.multianewarray index 2, 4))
    (kk : ∀ (q : Nat) (qi : Nat → Nat) (H1 : Heap), va_P D cl (ws ++ ((q, .inl (K 4, N', .inr (.inr (.inr (.inr (fun j => some (qi j))))))) :: (List.range N').map fun j => (qi j, .inl (K 0, K', .inl (fun _ => 0))))) H1 → va_D A (ws ++ ((q, .inl (K 4, N', .inr (.inr (.inr (.inr (fun j => some (qi j))))))) :: (List.range N').map fun j => (qi j, .inl (K 0, K', .inl (fun _ => 0))))) → va_S A H0 H1 locs → W p l e R s m args below meth c H1 locs k2 n2 Q (F0 m (pc + 4) ls (.ref q :: rest))) : W p l e R s m args below meth c H locs cells slots Q (F0 m pc ls (.int k :: .int n :: rest)) := by
  subst hk2; subst hn2; subst hN; subst hM
  intro T hT Xs
  obtain ⟨vm₁, cA, comp, -, fA, fC, -, -, X', step⟩ := Jvm.Stand.multianewarray2F (ty := .int) Xs hexec hown hclink hover harr (g := F0 m pc ls (.int k :: .int n :: rest)) rfl (by rw [hb]; exact hdg) rfl hn hk hb1 hb2 hb3 rfl rfl hcells hslots
  have ec : cA = K 4 := Option.some.inj (fA.symm.trans (hK.2 4 _ rfl).2)
  have ei : comp = K 0 := Option.some.inj (fC.symm.trans (hK.2 0 _ rfl).2)
  subst ec ei
  generalize hF : Jvm.Free.Multi.fill (T.setVm vm₁) (K 4) (K 0) n.toNatClampNeg k.toNatClampNeg (defaultValue .int) n.toNatClampNeg = F at X' step
  have hTh : (T.setVm vm₁).heap = H := hT
  obtain ⟨f1, f2, -, -⟩ := Jvm.Free.Multi.fill_facts (T.setVm vm₁) (K 4) (K 0) n.toNatClampNeg k.toNatClampNeg (defaultValue .int) n.toNatClampNeg
  rw [hF, hTh] at f1 f2
  have hold : ∀ x : Nat, x < H.size → F.heap[x]? = H[x]? := fun x hx => by
    have h9 := Jvm.Free.Multi.fill_old (T.setVm vm₁) (K 4) (K 0) n.toNatClampNeg k.toNatClampNeg (defaultValue .int) (a := x) (by rw [hTh]; exact hx) n.toNatClampNeg
    rw [hF, hTh] at h9
    exact h9
  have hinn : ∀ j : Nat, j < n.toNatClampNeg → F.heap[H.size + 1 + j]? = some (vp_cell (K 0) (k.toNatClampNeg, .inl (fun _ => 0))) := fun j hj => by
    have h9 := Jvm.Free.Multi.fill_inner (T.setVm vm₁) (K 4) (K 0) n.toNatClampNeg k.toNatClampNeg (defaultValue .int) n.toNatClampNeg j hj
    rw [hF, hTh] at h9
    rw [h9]
    congr 1
    unfold Jvm.Free.Multi.innerC vp_cell arrV
    dsimp only
    have e1 : Array.replicate k.toNatClampNeg (defaultValue FieldType.int) = Array.ofFn fun _ : Fin k.toNatClampNeg => Value.int 0 := by
      apply Array.ext
      · simp
      · intro i h1 h2
        simp only [Array.getElem_replicate, Array.getElem_ofFn]
        rfl
    rw [e1]
  have hout : F.heap[H.size]? = some (vp_cell (K 4) (n.toNatClampNeg, .inr (.inr (.inr (.inr (fun j => some (H.size + 1 + j))))))) := by
    rw [f2]
    congr 1
    obtain ⟨a1, a2, a3⟩ := Jvm.Free.Multi.outerC_facts (K 4) n.toNatClampNeg H.size n.toNatClampNeg
    obtain ⟨b1, b2⟩ := Jvm.Free.Multi.outerC_plain (K 4) n.toNatClampNeg H.size n.toNatClampNeg
    have hsl : (Jvm.Free.Multi.outerC (K 4) n.toNatClampNeg H.size n.toNatClampNeg).slots = Array.ofFn fun j : Fin n.toNatClampNeg => Value.ref (H.size + 1 + j.1) := by
      apply Array.ext
      · rw [a3]; simp
      · intro i h1 h2
        have hi : i < n.toNatClampNeg := by rw [a3] at h1; exact h1
        have h3 := Jvm.Free.Multi.outerC_slot (K 4) n.toNatClampNeg H.size n.toNatClampNeg i hi
        rw [if_pos hi, Array.getElem?_eq_getElem h1] at h3
        rw [Option.some.inj h3, Array.getElem_ofFn]
    unfold vp_cell arrV
    dsimp only
    generalize Jvm.Free.Multi.outerC (K 4) n.toNatClampNeg H.size n.toNatClampNeg = o at a1 a2 b1 b2 hsl
    obtain ⟨o1, o2, o3, o4, o5⟩ := o
    simp only at a1 a2 b1 b2 hsl
    subst a1 a2 b1 b2 hsl
    rfl
  have hget : ∀ (k9 : Nat) (x : Nat × va_E), (((H.size, .inl (K 4, n.toNatClampNeg, .inr (.inr (.inr (.inr (fun j => some (H.size + 1 + j))))))) :: (List.range n.toNatClampNeg).map fun j => (H.size + 1 + j, .inl (K 0, k.toNatClampNeg, .inl (fun _ => 0)))) : va_W)[k9]? = some x → va_at D cl x F.heap ∧ x.1 = H.size + k9 := by
    intro k9 x hx
    cases k9 with
    | zero => rw [← Option.some.inj hx]; exact ⟨hout, rfl⟩
    | succ j =>
      rw [List.getElem?_cons_succ, List.getElem?_map] at hx
      by_cases hj : j < n.toNatClampNeg
      · rw [List.getElem?_range hj] at hx
        rw [← Option.some.inj hx]
        exact ⟨hinn j hj, by show H.size + 1 + j = _; omega⟩
      · rw [List.getElem?_eq_none (by simpa using hj)] at hx
        cases hx
  have hP0 : va_P D cl ws F.heap := hP.kept (fun k9 x hx => hold x.1 ((hP k9 x hx).lt))
  have hlen : ∀ (k9 : Nat) (x : Nat × va_E), ws[k9]? = some x → x.1 < H.size := fun k9 x hx => (hP k9 x hx).lt
  obtain ⟨t, a1, b1⟩ := kk H.size (fun j => H.size + 1 + j) F.heap (fun k9 x hx => by
      by_cases h : k9 < ws.length
      · rw [List.getElem?_append_left h] at hx; exact hP0 k9 x hx
      · rw [List.getElem?_append_right (by omega)] at hx; exact (hget _ x hx).1) ⟨fun i j x y hx hy he => by
      by_cases hi : i < ws.length
      · rw [List.getElem?_append_left hi] at hx
        by_cases hj : j < ws.length
        · rw [List.getElem?_append_left hj] at hy; exact hD.1 i j x y hx hy he
        · rw [List.getElem?_append_right (by omega)] at hy
          have h1 := hlen i x hx
          have h2 := (hget _ y hy).2
          omega
      · rw [List.getElem?_append_right (by omega)] at hx
        have h1 := (hget _ x hx).2
        by_cases hj : j < ws.length
        · rw [List.getElem?_append_left hj] at hy
          have h2 := hlen j y hy
          omega
        · rw [List.getElem?_append_right (by omega)] at hy
          have h2 := (hget _ y hy).2
          omega, fun k9 x hx => by
      by_cases h : k9 < ws.length
      · rw [List.getElem?_append_left h] at hx; exact hD.2 k9 x hx
      · rw [List.getElem?_append_right (by omega)] at hx
        have h2 := (hget _ x hx).2
        exact hA _ (Nat.le_trans hS.1 (by omega))⟩ ⟨Nat.le_trans hS.1 (by rw [f1]; omega), fun x h1 h2 => (hold x (Nat.lt_of_lt_of_le h1 hS.1)).trans (hS.2.1 x h1 h2), hS.2.2⟩ F rfl X'
  refine ⟨t, step t ?_, b1⟩
  rw [hT]
  exact a1
end NR
