section
section
/-! The layer Go. A value is (0, z) an int, (1, z) a long, (2, o) a reference to object number o; the heap is ONE function P o k (object, field or element) of ints. Every row of it comes once from the machine's rows; nothing above it speaks of the machine again. -/
abbrev PV : Type := Nat × Int
abbrev PH : Type := Nat → Int → Int
abbrev vI (z : Int) : PV := (0, z)
abbrev vL (z : Int) : PV := (1, z)
abbrev vR (o : Nat) : PV := (2, (o : Int))
def gv (ad : Nat → Nat) (v : PV) : Value := match v.1 with
  | 0 => .int (Int32.ofInt v.2)
  | 1 => .long (Int64.ofInt v.2)
  | _ => .ref (ad v.2.toNat)
/-- how a world looks: how many objects, the kind of each, the kinds' shapes (0: class, fields; 1: int[], 2: long[], 3 and on: rows of references), the kinds of fields (0 int, 1 long, 2 a reference that may change, 3 one that doesn't), the references that don't change, the array classes -/
abbrev WS : Type := Nat × (Nat → Nat) × (Nat → Nat × Nat × Nat) × (Nat → Nat → Nat) × (Nat → Nat → Nat) × List FieldType
abbrev GT : Type := Launch × (Nat → ClassId) × (Nat → Nat → Nat) × (Nat → ClassId) × (Nat → Nat)
def sv (S : WS) (ad : Nat → Nat) (P : PH) (o k : Nat) : Value := match S.2.2.2.1 (S.2.1 o) k with
  | 0 => .int (Int32.ofInt (P o (k : Int)))
  | 1 => .long (Int64.ofInt (P o (k : Int)))
  | 2 => .ref (ad (P o (k : Int)).toNat)
  | _ => .ref (ad (S.2.2.2.2.1 o k))
def en (S : WS) (ad : Nat → Nat) (ct : Nat → ClassId) (P : PH) (o : Nat) : va_E := match S.2.2.1 (S.2.1 o) with
  | (0, ci, n) => .inr (ci, (List.range n).map (sv S ad P o))
  | (1, _, n) => .inl (ct 0, n, .inl fun i => Int32.ofInt (P o (i : Int)))
  | (2, _, n) => .inl (ct 1, n, .inr (.inl fun i => Int64.ofInt (P o (i : Int))))
  | (_, t, n) => .inl (ct t, n, .inr (.inr (.inr (.inr fun i => some (ad (S.2.2.2.2.1 o i))))))
def WL (S : WS) (G : GT) (P : PH) : va_W := (List.range S.1).map fun o => (G.2.2.2.2 o, en S G.2.2.2.2 G.2.2.2.1 P o)
def AA (S : WS) (G : GT) : Nat → Prop := fun q => ∃ o, o < S.1 ∧ q = G.2.2.2.2 o
def tysG (S : WS) (G : GT) : List (ClassId × FieldType) := S.2.2.2.2.2.mapIdx fun i t => (G.2.2.2.1 i, t)
def injG (S : WS) (G : GT) : Prop := ∀ i j, i < S.1 → j < S.1 → G.2.2.2.2 i = G.2.2.2.2 j → i = j
def ptG (S : WS) (G : GT) (P : PH) (H : Heap) : Prop := va_P (G.2.1, G.2.2.1) vwCl (WL S G P) H
/-- the links to private members of nest mates, which are no words of WT -/
def nX (U : State) : Prop := va_Nw (.methodLinkNest RX1 29 yX11_letterOf RX11) U ∧ va_Nw (.methodLinkNest RX5 38 yX11_isIn RX11) U ∧ va_Nw (.methodLinkNest RX10 70 yX11_isIn RX11) U
theorem nX.same {u U : State} (h : u.vm = U.vm) (hN : nX u) : nX U := ⟨hN.1.same rfl h, hN.2.1.same rfl h, hN.2.2.same rfl h⟩
theorem nX.warm {s U : State} (hW : s.WarmedH U.vm) (hN : nX s) : nX U := ⟨hN.1.warmM hW, hN.2.1.warmM hW, hN.2.2.warmM hW⟩
def kG (S : WS) (G : GT) (U : State) : Prop := va_K (G.2.1, G.2.2.1) vwCl (tysG S G) U ∧ nX U
/-- up P o k z: the heap with z at (o, k) -/
def up (P : PH) (o : Nat) (k z : Int) : PH := fun o1 k1 => if o1 = o ∧ k1 = k then z else P o1 k1
theorem up_same {P : PH} {o : Nat} {k z : Int} : up P o k z o k = z := by simp [up]
theorem up_o {P : PH} {o o1 : Nat} {k k1 z : Int} (h : o1 ≠ o) : up P o k z o1 k1 = P o1 k1 := by simp [up, h]
theorem up_k {P : PH} {o o1 : Nat} {k k1 z : Int} (h : k1 ≠ k) : up P o k z o1 k1 = P o1 k1 := by simp [up, h]
theorem up_row {P : PH} {o o1 : Nat} {k z : Int} (h : o1 ≠ o) : up P o k z o1 = P o1 := by funext j; exact up_o h
/-- a method: its name, code, locals, what it returns -/
abbrev MI : Type := MethodName × ByteArray × Nat × Option FieldType
def Qg (S : WS) (G : GT) (Q : Option PV → PH → Prop) : Array Value → State → Outcome → State → Prop := fun _ st oc t =>
  (∃ (v : Option PV) (P1 : PH), oc = .returned (v.map (gv G.2.2.2.2)) ∧ Q v P1 ∧ ptG S G P1 t.heap) ∧ va_F (AA S G) st t
/-- a contract: from heap P with these arguments the method returns v and heap P1 with Q v P1; d frames are room enough -/
def Ct (S : WS) (G : GT) (d : Nat) (i : MI) (av : List PV) (P : PH) (Q : Option PV → PH → Prop) : Prop :=
  Met G.1 i.1 (.code i.1 i.2.1 i.2.2.1 i.2.2.2 :: WT) { frames := d, cells := 0, slots := 0, locals := 60 * d } (va_Pc (av.map (gv G.2.2.2.2)) (fun U => ptG S G P U.heap ∧ kG S G U ∧ injG S G)) (Qg S G Q) 0 0 (AA S G)
/-- what stays while a method runs -/
def Cx (S : WS) (G : GT) (d : Nat) (i : MI) (p : Program) (R : Room) (s : State) (m : MethodId) (args : Array Value) (meth : Method) (c : Code) : Prop :=
  p.tables.exec = Jvm.exec ∧ c.code = i.2.1 ∧ c.maxLocals = i.2.2.1 ∧ meth.sig.returnType = i.2.2.2 ∧ meth.locks = false ∧ s.vm.findClass i.1.cls = some m.cls ∧ (∀ w ∈ WT, w.before args s = true) ∧ kG S G s ∧ injG S G ∧ d ≤ R.frames ∧ 60 * d ≤ R.locals
def gl (G : GT) (ls : List (Nat × PV)) : List (Nat × Value) := ls.map fun q => (q.1, gv G.2.2.2.2 q.2)
def gs (G : GT) (st : List PV) : List Value := st.map (gv G.2.2.2.2)
/-- from here, at pc with these locals, this stack and heap P, the method returns with Q -/
def Go (S : WS) (G : GT) (d : Nat) (i : MI) (pc : Nat) (ls : List (Nat × PV)) (st : List PV) (P : PH) (Q : Option PV → PH → Prop) : Prop :=
  ∀ (p : Program) (e : Env) (R : Room) (s : State) (m : MethodId) (args : Array Value) (below : List Frame) (meth : Method) (c : Code) (H : Heap) (locs : List Loc) (la : Array Slot),
    Cx S G d i p R s m args meth c → ptG S G P H → va_S (AA S G) s.heap H locs → lv_has la i.2.2.1 (gl G ls) →
    W p G.1 e R s m args below meth c H locs 0 0 (MQ below (Qg S G Q) args s 0 0 (AA S G)) (F0 m pc la (gs G st))
theorem WL_get {S : WS} {G : GT} {P : PH} {o : Nat} (h : o < S.1) : (WL S G P)[o]? = some (G.2.2.2.2 o, en S G.2.2.2.2 G.2.2.2.1 P o) := by
  unfold WL
  rw [List.getElem?_map, List.getElem?_range h]
  rfl
theorem WL_len {S : WS} {G : GT} {P : PH} : (WL S G P).length = S.1 := by simp [WL]
theorem WL_D {S : WS} {G : GT} {P : PH} (hi : injG S G) : va_D (AA S G) (WL S G P) := by
  have key : ∀ (k : Nat) (q : Nat × va_E), (WL S G P)[k]? = some q → k < S.1 ∧ q.1 = G.2.2.2.2 k := by
    intro k q h
    have hk : k < S.1 := by have := (List.getElem?_eq_some_iff.mp h).1; rw [WL_len] at this; exact this
    rw [WL_get hk] at h
    exact ⟨hk, by rw [← Option.some.inj h]⟩
  refine ⟨fun a b x y hx hy he => ?_, fun k q h => ?_⟩
  · obtain ⟨h1, h2⟩ := key a x hx
    obtain ⟨h3, h4⟩ := key b y hy
    exact hi a b h1 h3 (by rw [← h2, ← h4, he])
  · obtain ⟨h1, h2⟩ := key k q h
    exact ⟨k, h1, h2⟩
theorem tysG_get {S : WS} {G : GT} {t : Nat} {ty : FieldType} (h : S.2.2.2.2.2[t]? = some ty) : (tysG S G)[t]? = some (G.2.2.2.1 t, ty) := by
  simp [tysG, List.getElem?_mapIdx, h]
/-- a write to another object leaves an entry -/
theorem en_o {S : WS} {ad : Nat → Nat} {ct : Nat → ClassId} {P : PH} {o o1 : Nat} {k z : Int} (h : o1 ≠ o) : en S ad ct (up P o k z) o1 = en S ad ct P o1 := by
  have e1 : up P o k z o1 = P o1 := up_row h
  have e2 : sv S ad (up P o k z) o1 = sv S ad P o1 := by
    funext j
    unfold sv
    rw [e1]
  unfold en
  rw [e1, e2]
theorem WL_set {S : WS} {G : GT} {P : PH} {o : Nat} {k z : Int} {e : va_E} (h : o < S.1) (he : e = en S G.2.2.2.2 G.2.2.2.1 (up P o k z) o) : (WL S G P).set o (G.2.2.2.2 o, e) = WL S G (up P o k z) := by
  apply List.ext_getElem?
  intro j
  by_cases hj : j < S.1
  · rw [WL_get hj]
    by_cases hjo : j = o
    · subst hjo
      rw [List.getElem?_set_self (by rw [WL_len]; exact hj), he]
    · rw [List.getElem?_set_ne (fun q => hjo q.symm), WL_get hj, en_o hjo]
  · rw [List.getElem?_eq_none (by rw [List.length_set, WL_len]; omega), List.getElem?_eq_none (by rw [WL_len]; omega)]
theorem sv_set {S : WS} {ad : Nat → Nat} {P : PH} {o k n : Nat} {z : Int} {v : Value} (hk : k < n) (hv : v = sv S ad (up P o (k : Int) z) o k) : ((List.range n).map (sv S ad P o)).set k v = (List.range n).map (sv S ad (up P o (k : Int) z) o) := by
  apply List.ext_getElem?
  intro j
  by_cases hj : j < n
  · by_cases hjk : j = k
    · subst hjk
      rw [List.getElem?_set_self (by simpa using hj), List.getElem?_map, List.getElem?_range hj, hv]
      rfl
    · rw [List.getElem?_set_ne (fun q => hjk q.symm), List.getElem?_map, List.getElem?_map, List.getElem?_range hj]
      show some (sv S ad P o j) = some (sv S ad (up P o (k : Int) z) o j)
      unfold sv
      rw [up_k (fun q => hjk (by omega))]
  · rw [List.getElem?_eq_none (by simpa using hj), List.getElem?_eq_none (by simpa using hj)]
theorem enO {S : WS} {ad : Nat → Nat} {ct : Nat → ClassId} {P : PH} {o ci n : Nat} (h : S.2.2.1 (S.2.1 o) = (0, ci, n)) : en S ad ct P o = .inr (ci, (List.range n).map (sv S ad P o)) := by unfold en; rw [h]; rfl
theorem enI {S : WS} {ad : Nat → Nat} {ct : Nat → ClassId} {P : PH} {o ci n : Nat} (h : S.2.2.1 (S.2.1 o) = (1, ci, n)) : en S ad ct P o = .inl (ct 0, n, .inl fun i => Int32.ofInt (P o (i : Int))) := by unfold en; rw [h]; rfl
theorem enJ {S : WS} {ad : Nat → Nat} {ct : Nat → ClassId} {P : PH} {o ci n : Nat} (h : S.2.2.1 (S.2.1 o) = (2, ci, n)) : en S ad ct P o = .inl (ct 1, n, .inr (.inl fun i => Int64.ofInt (P o (i : Int)))) := by unfold en; rw [h]; rfl
theorem enR {S : WS} {ad : Nat → Nat} {ct : Nat → ClassId} {P : PH} {o t n : Nat} (h : S.2.2.1 (S.2.1 o) = (3, t, n)) : en S ad ct P o = .inl (ct t, n, .inr (.inr (.inr (.inr fun i => some (ad (S.2.2.2.2.1 o i)))))) := by unfold en; rw [h]; rfl
theorem WLO {S : WS} {G : GT} {P : PH} {o ci n : Nat} (ho : o < S.1) (h : S.2.2.1 (S.2.1 o) = (0, ci, n)) : (WL S G P)[o]? = some (G.2.2.2.2 o, .inr (ci, (List.range n).map (sv S G.2.2.2.2 P o))) := by rw [WL_get ho, enO h]
theorem WLI {S : WS} {G : GT} {P : PH} {o ci n : Nat} (ho : o < S.1) (h : S.2.2.1 (S.2.1 o) = (1, ci, n)) : (WL S G P)[o]? = some (G.2.2.2.2 o, .inl (G.2.2.2.1 0, n, .inl fun i => Int32.ofInt (P o (i : Int)))) := by rw [WL_get ho, enI h]
theorem WLJ {S : WS} {G : GT} {P : PH} {o ci n : Nat} (ho : o < S.1) (h : S.2.2.1 (S.2.1 o) = (2, ci, n)) : (WL S G P)[o]? = some (G.2.2.2.2 o, .inl (G.2.2.2.1 1, n, .inr (.inl fun i => Int64.ofInt (P o (i : Int))))) := by rw [WL_get ho, enJ h]
theorem WLR {S : WS} {G : GT} {P : PH} {o t n : Nat} (ho : o < S.1) (h : S.2.2.1 (S.2.1 o) = (3, t, n)) : (WL S G P)[o]? = some (G.2.2.2.2 o, .inl (G.2.2.2.1 t, n, .inr (.inr (.inr (.inr fun i => some (G.2.2.2.2 (S.2.2.2.2.1 o i))))))) := by rw [WL_get ho, enR h]
/-! ints in range -/
abbrev IR (z : Int) : Prop := -2147483648 ≤ z ∧ z ≤ 2147483647
abbrev LR (z : Int) : Prop := -9223372036854775808 ≤ z ∧ z ≤ 9223372036854775807
theorem oI {z : Int} (h : IR z) : (Int32.ofInt z).toInt = z := Int32.toInt_ofInt_of_le (by have := h.1; omega) (by have := h.2; omega)
theorem oL {z : Int} (h : LR z) : (Int64.ofInt z).toInt = z := Int64.toInt_ofInt_of_le (by have := h.1; omega) (by have := h.2; omega)
theorem oI_in {z : Int} {n : Nat} (h : 0 ≤ z ∧ z < (n : Int)) (hn : n ≤ 2147483647) : vp_in (Int32.ofInt z) n := by
  rw [vp_in_iff, oI ⟨by omega, by omega⟩]
  exact h
theorem oI_nat {z : Int} (h : 0 ≤ z ∧ z ≤ 2147483647) : (Int32.ofInt z).toNatClampNeg = z.toNat := by
  show (Int32.ofInt z).toInt.toNat = _
  rw [oI ⟨by omega, h.2⟩]
theorem oI_eq {x y : Int} (hx : IR x) (hy : IR y) : Int32.ofInt x = Int32.ofInt y ↔ x = y := by
  constructor
  · intro h
    have := congrArg Int32.toInt h
    rwa [oI hx, oI hy] at this
  · intro h; rw [h]
theorem oI_lt {x y : Int} (hx : IR x) (hy : IR y) : Int32.ofInt x < Int32.ofInt y ↔ x < y := by rw [Int32.lt_iff_toInt_lt, oI hx, oI hy]
theorem oI_le {x y : Int} (hx : IR x) (hy : IR y) : Int32.ofInt x ≤ Int32.ofInt y ↔ x ≤ y := by rw [Int32.le_iff_toInt_le, oI hx, oI hy]
theorem IR0 : IR 0 := by decide
theorem rgI (x : Int32) : IR x.toInt := by
  have h1 := Int32.le_toInt x
  have h2 := Int32.toInt_lt x
  have e : (2 : Int) ^ 31 = 2147483648 := by decide
  rw [e] at h1 h2
  exact ⟨by omega, by omega⟩
theorem rgL (x : Int64) : LR x.toInt := by
  have h1 := Int64.le_toInt x
  have h2 := Int64.toInt_lt x
  have e : (2 : Int) ^ 63 = 9223372036854775808 := by decide
  rw [e] at h1 h2
  exact ⟨by omega, by omega⟩
/-! bits, as on the machine -/
def iand (x y : Int) : Int := (Int32.ofInt x &&& Int32.ofInt y).toInt
def ior (x y : Int) : Int := (Int32.ofInt x ||| Int32.ofInt y).toInt
def ixor (x y : Int) : Int := (Int32.ofInt x ^^^ Int32.ofInt y).toInt
def ishl (x y : Int) : Int := (Int32.ofInt x <<< (Int32.ofInt y &&& 31)).toInt
def ishr (x y : Int) : Int := (Int32.ofInt x >>> (Int32.ofInt y &&& 31)).toInt
def iushr (x y : Int) : Int := ((Int32.ofInt x).toUInt32 >>> ((Int32.ofInt y).toUInt32 &&& Int32.toUInt32 31)).toInt32.toInt
def idiv (x y : Int) : Int := (Int32.ofInt x / Int32.ofInt y).toInt
def irem (x y : Int) : Int := (Int32.ofInt x - Int32.ofInt x / Int32.ofInt y * Int32.ofInt y).toInt
def lland (x y : Int) : Int := (Int64.ofInt x &&& Int64.ofInt y).toInt
def llor (x y : Int) : Int := (Int64.ofInt x ||| Int64.ofInt y).toInt
def llshl (x y : Int) : Int := (Int64.ofInt x <<< ((Int32.ofInt y).toInt64 &&& 63)).toInt
def llshr (x y : Int) : Int := (Int64.ofInt x >>> ((Int32.ofInt y).toInt64 &&& 63)).toInt
def llushr (x y : Int) : Int := ((Int64.ofInt x).toUInt64 >>> ((Int32.ofInt y).toInt64.toUInt64 &&& Int64.toUInt64 63)).toInt64.toInt
def lldiv (x y : Int) : Int := (Int64.ofInt x / Int64.ofInt y).toInt
def llrem (x y : Int) : Int := (Int64.ofInt x - Int64.ofInt x / Int64.ofInt y * Int64.ofInt y).toInt
def lcmpv (x y : Int) : Int := if y < x then 1 else if x = y then 0 else -1

section GO
variable {S : WS} {G : GT} {d : Nat} {i : MI} {pc : Nat} {ls : List (Nat × PV)} {st : List PV} {P : PH} {Q : Option PV → PH → Prop}
theorem g_iadd {x y : Int} (hd : decode i.2.1 pc = .ok (.iadd, 1)) (k : Go S G d i (pc + 1) ls (vI (x + y) :: st) P Q) : Go S G d i pc ls (vI y :: vI x :: st) P Q := by
  intro p e R s m args below meth c H locs la C hP hS hl
  obtain ⟨hx, hb, hml, hr, hlk, hown, hts, ⟨hK, hNk⟩, hi, hdf, hdl⟩ := C
  have e1 : Int32.ofInt x + Int32.ofInt y = Int32.ofInt (x + y) := (Int32.ofInt_add x y).symm
  refine lv_iadd (x := Int32.ofInt x) (y := Int32.ofInt y) (rest := gs G st) hx hb hd ?_
  rw [e1]
  exact k p e R s m args below meth c H locs la ⟨hx, hb, hml, hr, hlk, hown, hts, ⟨hK, hNk⟩, hi, hdf, hdl⟩ hP hS hl

theorem g_isub {x y : Int} (hd : decode i.2.1 pc = .ok (.isub, 1)) (k : Go S G d i (pc + 1) ls (vI (x - y) :: st) P Q) : Go S G d i pc ls (vI y :: vI x :: st) P Q := by
  intro p e R s m args below meth c H locs la C hP hS hl
  obtain ⟨hx, hb, hml, hr, hlk, hown, hts, ⟨hK, hNk⟩, hi, hdf, hdl⟩ := C
  have e1 : Int32.ofInt x - Int32.ofInt y = Int32.ofInt (x - y) := (Int32.ofInt_sub x y).symm
  refine lv_isub (x := Int32.ofInt x) (y := Int32.ofInt y) (rest := gs G st) hx hb hd ?_
  rw [e1]
  exact k p e R s m args below meth c H locs la ⟨hx, hb, hml, hr, hlk, hown, hts, ⟨hK, hNk⟩, hi, hdf, hdl⟩ hP hS hl

theorem g_imul {x y : Int} (hd : decode i.2.1 pc = .ok (.imul, 1)) (k : Go S G d i (pc + 1) ls (vI (x * y) :: st) P Q) : Go S G d i pc ls (vI y :: vI x :: st) P Q := by
  intro p e R s m args below meth c H locs la C hP hS hl
  obtain ⟨hx, hb, hml, hr, hlk, hown, hts, ⟨hK, hNk⟩, hi, hdf, hdl⟩ := C
  have e1 : Int32.ofInt x * Int32.ofInt y = Int32.ofInt (x * y) := (Int32.ofInt_mul x y).symm
  refine lv_imul (x := Int32.ofInt x) (y := Int32.ofInt y) (rest := gs G st) hx hb hd ?_
  rw [e1]
  exact k p e R s m args below meth c H locs la ⟨hx, hb, hml, hr, hlk, hown, hts, ⟨hK, hNk⟩, hi, hdf, hdl⟩ hP hS hl

theorem g_iand {x y : Int} (hd : decode i.2.1 pc = .ok (.iand, 1)) (k : Go S G d i (pc + 1) ls (vI (iand x y) :: st) P Q) : Go S G d i pc ls (vI y :: vI x :: st) P Q := by
  intro p e R s m args below meth c H locs la C hP hS hl
  obtain ⟨hx, hb, hml, hr, hlk, hown, hts, ⟨hK, hNk⟩, hi, hdf, hdl⟩ := C
  have e1 : Int32.ofInt x &&& Int32.ofInt y = Int32.ofInt (iand x y) := (Int32.ofInt_toInt _).symm
  refine lv_iand (x := Int32.ofInt x) (y := Int32.ofInt y) (rest := gs G st) hx hb hd ?_
  rw [e1]
  exact k p e R s m args below meth c H locs la ⟨hx, hb, hml, hr, hlk, hown, hts, ⟨hK, hNk⟩, hi, hdf, hdl⟩ hP hS hl

theorem g_ior {x y : Int} (hd : decode i.2.1 pc = .ok (.ior, 1)) (k : Go S G d i (pc + 1) ls (vI (ior x y) :: st) P Q) : Go S G d i pc ls (vI y :: vI x :: st) P Q := by
  intro p e R s m args below meth c H locs la C hP hS hl
  obtain ⟨hx, hb, hml, hr, hlk, hown, hts, ⟨hK, hNk⟩, hi, hdf, hdl⟩ := C
  have e1 : Int32.ofInt x ||| Int32.ofInt y = Int32.ofInt (ior x y) := (Int32.ofInt_toInt _).symm
  refine lv_ior (x := Int32.ofInt x) (y := Int32.ofInt y) (rest := gs G st) hx hb hd ?_
  rw [e1]
  exact k p e R s m args below meth c H locs la ⟨hx, hb, hml, hr, hlk, hown, hts, ⟨hK, hNk⟩, hi, hdf, hdl⟩ hP hS hl

theorem g_ixor {x y : Int} (hd : decode i.2.1 pc = .ok (.ixor, 1)) (k : Go S G d i (pc + 1) ls (vI (ixor x y) :: st) P Q) : Go S G d i pc ls (vI y :: vI x :: st) P Q := by
  intro p e R s m args below meth c H locs la C hP hS hl
  obtain ⟨hx, hb, hml, hr, hlk, hown, hts, ⟨hK, hNk⟩, hi, hdf, hdl⟩ := C
  have e1 : Int32.ofInt x ^^^ Int32.ofInt y = Int32.ofInt (ixor x y) := (Int32.ofInt_toInt _).symm
  refine lv_ixor (x := Int32.ofInt x) (y := Int32.ofInt y) (rest := gs G st) hx hb hd ?_
  rw [e1]
  exact k p e R s m args below meth c H locs la ⟨hx, hb, hml, hr, hlk, hown, hts, ⟨hK, hNk⟩, hi, hdf, hdl⟩ hP hS hl

theorem g_ishl {x y : Int} (hd : decode i.2.1 pc = .ok (.ishl, 1)) (k : Go S G d i (pc + 1) ls (vI (ishl x y) :: st) P Q) : Go S G d i pc ls (vI y :: vI x :: st) P Q := by
  intro p e R s m args below meth c H locs la C hP hS hl
  obtain ⟨hx, hb, hml, hr, hlk, hown, hts, ⟨hK, hNk⟩, hi, hdf, hdl⟩ := C
  have e1 : Int32.ofInt x <<< (Int32.ofInt y &&& 31) = Int32.ofInt (ishl x y) := (Int32.ofInt_toInt _).symm
  refine lv_ishl (x := Int32.ofInt x) (y := Int32.ofInt y) (rest := gs G st) hx hb hd ?_
  rw [e1]
  exact k p e R s m args below meth c H locs la ⟨hx, hb, hml, hr, hlk, hown, hts, ⟨hK, hNk⟩, hi, hdf, hdl⟩ hP hS hl

theorem g_ishr {x y : Int} (hd : decode i.2.1 pc = .ok (.ishr, 1)) (k : Go S G d i (pc + 1) ls (vI (ishr x y) :: st) P Q) : Go S G d i pc ls (vI y :: vI x :: st) P Q := by
  intro p e R s m args below meth c H locs la C hP hS hl
  obtain ⟨hx, hb, hml, hr, hlk, hown, hts, ⟨hK, hNk⟩, hi, hdf, hdl⟩ := C
  have e1 : Int32.ofInt x >>> (Int32.ofInt y &&& 31) = Int32.ofInt (ishr x y) := (Int32.ofInt_toInt _).symm
  refine lv_ishr (x := Int32.ofInt x) (y := Int32.ofInt y) (rest := gs G st) hx hb hd ?_
  rw [e1]
  exact k p e R s m args below meth c H locs la ⟨hx, hb, hml, hr, hlk, hown, hts, ⟨hK, hNk⟩, hi, hdf, hdl⟩ hP hS hl

theorem g_idiv {x y : Int} (hd : decode i.2.1 pc = .ok (.idiv, 1)) (hy : IR y ∧ y ≠ 0) (k : Go S G d i (pc + 1) ls (vI (idiv x y) :: st) P Q) : Go S G d i pc ls (vI y :: vI x :: st) P Q := by
  intro p e R s m args below meth c H locs la C hP hS hl
  obtain ⟨hx, hb, hml, hr, hlk, hown, hts, ⟨hK, hNk⟩, hi, hdf, hdl⟩ := C
  have hne : ¬ Int32.ofInt y = 0 := fun q => hy.2 ((oI_eq hy.1 IR0).mp q)
  have e1 : Int32.ofInt x / Int32.ofInt y = Int32.ofInt (idiv x y) := (Int32.ofInt_toInt _).symm
  refine lv_idiv (x := Int32.ofInt x) (y := Int32.ofInt y) (rest := gs G st) hx hb hd hne ?_
  rw [e1]
  exact k p e R s m args below meth c H locs la ⟨hx, hb, hml, hr, hlk, hown, hts, ⟨hK, hNk⟩, hi, hdf, hdl⟩ hP hS hl

theorem g_irem {x y : Int} (hd : decode i.2.1 pc = .ok (.irem, 1)) (hy : IR y ∧ y ≠ 0) (k : Go S G d i (pc + 1) ls (vI (irem x y) :: st) P Q) : Go S G d i pc ls (vI y :: vI x :: st) P Q := by
  intro p e R s m args below meth c H locs la C hP hS hl
  obtain ⟨hx, hb, hml, hr, hlk, hown, hts, ⟨hK, hNk⟩, hi, hdf, hdl⟩ := C
  have hne : ¬ Int32.ofInt y = 0 := fun q => hy.2 ((oI_eq hy.1 IR0).mp q)
  have e1 : Int32.ofInt x - Int32.ofInt x / Int32.ofInt y * Int32.ofInt y = Int32.ofInt (irem x y) := (Int32.ofInt_toInt _).symm
  refine lv_irem (x := Int32.ofInt x) (y := Int32.ofInt y) (rest := gs G st) hx hb hd hne ?_
  rw [e1]
  exact k p e R s m args below meth c H locs la ⟨hx, hb, hml, hr, hlk, hown, hts, ⟨hK, hNk⟩, hi, hdf, hdl⟩ hP hS hl

theorem g_ineg {x : Int} (hd : decode i.2.1 pc = .ok (.ineg, 1)) (k : Go S G d i (pc + 1) ls (vI (-x) :: st) P Q) : Go S G d i pc ls (vI x :: st) P Q := by
  intro p e R s m args below meth c H locs la C hP hS hl
  obtain ⟨hx, hb, hml, hr, hlk, hown, hts, ⟨hK, hNk⟩, hi, hdf, hdl⟩ := C
  have e1 : -Int32.ofInt x = Int32.ofInt (-x) := (Int32.ofInt_neg x).symm
  refine lv_ineg (x := Int32.ofInt x) (rest := gs G st) hx hb hd ?_
  rw [e1]
  exact k p e R s m args below meth c H locs la ⟨hx, hb, hml, hr, hlk, hown, hts, ⟨hK, hNk⟩, hi, hdf, hdl⟩ hP hS hl

theorem g_iushr {x y : Int} (hd : decode i.2.1 pc = .ok (.iushr, 1)) (k : Go S G d i (pc + 1) ls (vI (iushr x y) :: st) P Q) : Go S G d i pc ls (vI y :: vI x :: st) P Q := by
  intro p e R s m args below meth c H locs la C hP hS hl
  obtain ⟨hx, hb, hml, hr, hlk, hown, hts, ⟨hK, hNk⟩, hi, hdf, hdl⟩ := C
  exact lv_iushr (x := Int32.ofInt x) (y := Int32.ofInt y) (v := Int32.ofInt (iushr x y)) (rest := gs G st) hx hb hd (Int32.ofInt_toInt _).symm (k p e R s m args below meth c H locs la ⟨hx, hb, hml, hr, hlk, hown, hts, ⟨hK, hNk⟩, hi, hdf, hdl⟩ hP hS hl)

/-- a number that may have left the range: the one that the machine keeps -/
theorem g_norm {z : Int} (k : ∀ x : Int, IR x → Int32.ofInt z = Int32.ofInt x → Go S G d i pc ls (vI x :: st) P Q) : Go S G d i pc ls (vI z :: st) P Q := by
  have h := k (Int32.ofInt z).toInt (rgI _) (Int32.ofInt_toInt _).symm
  have e : gs G (vI (Int32.ofInt z).toInt :: st) = gs G (vI z :: st) := by show Value.int (Int32.ofInt (Int32.ofInt z).toInt) :: gs G st = Value.int (Int32.ofInt z) :: gs G st; rw [Int32.ofInt_toInt]
  intro p e1 R s m args below meth c H locs la C hP hS hl
  rw [← e]
  exact h p e1 R s m args below meth c H locs la C hP hS hl
theorem g_normL {z : Int} (k : ∀ x : Int, LR x → Int64.ofInt z = Int64.ofInt x → Go S G d i pc ls (vL x :: st) P Q) : Go S G d i pc ls (vL z :: st) P Q := by
  have h := k (Int64.ofInt z).toInt (rgL _) (Int64.ofInt_toInt _).symm
  have e : gs G (vL (Int64.ofInt z).toInt :: st) = gs G (vL z :: st) := by show Value.long (Int64.ofInt (Int64.ofInt z).toInt) :: gs G st = Value.long (Int64.ofInt z) :: gs G st; rw [Int64.ofInt_toInt]
  intro p e1 R s m args below meth c H locs la C hP hS hl
  rw [← e]
  exact h p e1 R s m args below meth c H locs la C hP hS hl
theorem g_ladd {x y : Int} (hd : decode i.2.1 pc = .ok (.ladd, 1)) (k : Go S G d i (pc + 1) ls (vL (x + y) :: st) P Q) : Go S G d i pc ls (vL y :: vL x :: st) P Q := by
  intro p e R s m args below meth c H locs la C hP hS hl
  obtain ⟨hx, hb, hml, hr, hlk, hown, hts, ⟨hK, hNk⟩, hi, hdf, hdl⟩ := C
  have e1 : Int64.ofInt x + Int64.ofInt y = Int64.ofInt (x + y) := (Int64.ofInt_add x y).symm
  refine lv_ladd (x := Int64.ofInt x) (y := Int64.ofInt y) (rest := gs G st) hx hb hd ?_
  rw [e1]
  exact k p e R s m args below meth c H locs la ⟨hx, hb, hml, hr, hlk, hown, hts, ⟨hK, hNk⟩, hi, hdf, hdl⟩ hP hS hl

theorem g_lmul {x y : Int} (hd : decode i.2.1 pc = .ok (.lmul, 1)) (k : Go S G d i (pc + 1) ls (vL (x * y) :: st) P Q) : Go S G d i pc ls (vL y :: vL x :: st) P Q := by
  intro p e R s m args below meth c H locs la C hP hS hl
  obtain ⟨hx, hb, hml, hr, hlk, hown, hts, ⟨hK, hNk⟩, hi, hdf, hdl⟩ := C
  have e1 : Int64.ofInt x * Int64.ofInt y = Int64.ofInt (x * y) := (Int64.ofInt_mul x y).symm
  refine lv_lmul (x := Int64.ofInt x) (y := Int64.ofInt y) (rest := gs G st) hx hb hd ?_
  rw [e1]
  exact k p e R s m args below meth c H locs la ⟨hx, hb, hml, hr, hlk, hown, hts, ⟨hK, hNk⟩, hi, hdf, hdl⟩ hP hS hl

theorem g_land {x y : Int} (hd : decode i.2.1 pc = .ok (.land, 1)) (k : Go S G d i (pc + 1) ls (vL (lland x y) :: st) P Q) : Go S G d i pc ls (vL y :: vL x :: st) P Q := by
  intro p e R s m args below meth c H locs la C hP hS hl
  obtain ⟨hx, hb, hml, hr, hlk, hown, hts, ⟨hK, hNk⟩, hi, hdf, hdl⟩ := C
  have e1 : Int64.ofInt x &&& Int64.ofInt y = Int64.ofInt (lland x y) := (Int64.ofInt_toInt _).symm
  refine lv_land (x := Int64.ofInt x) (y := Int64.ofInt y) (rest := gs G st) hx hb hd ?_
  rw [e1]
  exact k p e R s m args below meth c H locs la ⟨hx, hb, hml, hr, hlk, hown, hts, ⟨hK, hNk⟩, hi, hdf, hdl⟩ hP hS hl

theorem g_lor {x y : Int} (hd : decode i.2.1 pc = .ok (.lor, 1)) (k : Go S G d i (pc + 1) ls (vL (llor x y) :: st) P Q) : Go S G d i pc ls (vL y :: vL x :: st) P Q := by
  intro p e R s m args below meth c H locs la C hP hS hl
  obtain ⟨hx, hb, hml, hr, hlk, hown, hts, ⟨hK, hNk⟩, hi, hdf, hdl⟩ := C
  have e1 : Int64.ofInt x ||| Int64.ofInt y = Int64.ofInt (llor x y) := (Int64.ofInt_toInt _).symm
  refine lv_lor (x := Int64.ofInt x) (y := Int64.ofInt y) (rest := gs G st) hx hb hd ?_
  rw [e1]
  exact k p e R s m args below meth c H locs la ⟨hx, hb, hml, hr, hlk, hown, hts, ⟨hK, hNk⟩, hi, hdf, hdl⟩ hP hS hl

theorem g_ldiv {x y : Int} (hd : decode i.2.1 pc = .ok (.ldiv, 1)) (hy : LR y ∧ y ≠ 0) (k : Go S G d i (pc + 1) ls (vL (lldiv x y) :: st) P Q) : Go S G d i pc ls (vL y :: vL x :: st) P Q := by
  intro p e R s m args below meth c H locs la C hP hS hl
  obtain ⟨hx, hb, hml, hr, hlk, hown, hts, ⟨hK, hNk⟩, hi, hdf, hdl⟩ := C
  have hne : ¬ Int64.ofInt y = 0 := fun q => hy.2 (by have q1 := congrArg Int64.toInt q; rw [oL hy.1] at q1; exact q1)
  have e1 : Int64.ofInt x / Int64.ofInt y = Int64.ofInt (lldiv x y) := (Int64.ofInt_toInt _).symm
  refine lv_ldiv (x := Int64.ofInt x) (y := Int64.ofInt y) (rest := gs G st) hx hb hd hne ?_
  rw [e1]
  exact k p e R s m args below meth c H locs la ⟨hx, hb, hml, hr, hlk, hown, hts, ⟨hK, hNk⟩, hi, hdf, hdl⟩ hP hS hl

theorem g_lrem {x y : Int} (hd : decode i.2.1 pc = .ok (.lrem, 1)) (hy : LR y ∧ y ≠ 0) (k : Go S G d i (pc + 1) ls (vL (llrem x y) :: st) P Q) : Go S G d i pc ls (vL y :: vL x :: st) P Q := by
  intro p e R s m args below meth c H locs la C hP hS hl
  obtain ⟨hx, hb, hml, hr, hlk, hown, hts, ⟨hK, hNk⟩, hi, hdf, hdl⟩ := C
  have hne : ¬ Int64.ofInt y = 0 := fun q => hy.2 (by have q1 := congrArg Int64.toInt q; rw [oL hy.1] at q1; exact q1)
  have e1 : Int64.ofInt x - Int64.ofInt x / Int64.ofInt y * Int64.ofInt y = Int64.ofInt (llrem x y) := (Int64.ofInt_toInt _).symm
  refine lv_lrem (x := Int64.ofInt x) (y := Int64.ofInt y) (rest := gs G st) hx hb hd hne ?_
  rw [e1]
  exact k p e R s m args below meth c H locs la ⟨hx, hb, hml, hr, hlk, hown, hts, ⟨hK, hNk⟩, hi, hdf, hdl⟩ hP hS hl

theorem g_lshl {x y : Int} (hd : decode i.2.1 pc = .ok (.lshl, 1)) (k : Go S G d i (pc + 1) ls (vL (llshl x y) :: st) P Q) : Go S G d i pc ls (vI y :: vL x :: st) P Q := by
  intro p e R s m args below meth c H locs la C hP hS hl
  obtain ⟨hx, hb, hml, hr, hlk, hown, hts, ⟨hK, hNk⟩, hi, hdf, hdl⟩ := C
  exact lv_lshl (x := Int64.ofInt x) (y := Int32.ofInt y) (v := Int64.ofInt (llshl x y)) (rest := gs G st) hx hb hd (Int64.ofInt_toInt _).symm (k p e R s m args below meth c H locs la ⟨hx, hb, hml, hr, hlk, hown, hts, ⟨hK, hNk⟩, hi, hdf, hdl⟩ hP hS hl)

theorem g_lshr {x y : Int} (hd : decode i.2.1 pc = .ok (.lshr, 1)) (k : Go S G d i (pc + 1) ls (vL (llshr x y) :: st) P Q) : Go S G d i pc ls (vI y :: vL x :: st) P Q := by
  intro p e R s m args below meth c H locs la C hP hS hl
  obtain ⟨hx, hb, hml, hr, hlk, hown, hts, ⟨hK, hNk⟩, hi, hdf, hdl⟩ := C
  exact lv_lshr (x := Int64.ofInt x) (y := Int32.ofInt y) (v := Int64.ofInt (llshr x y)) (rest := gs G st) hx hb hd (Int64.ofInt_toInt _).symm (k p e R s m args below meth c H locs la ⟨hx, hb, hml, hr, hlk, hown, hts, ⟨hK, hNk⟩, hi, hdf, hdl⟩ hP hS hl)

theorem g_lushr {x y : Int} (hd : decode i.2.1 pc = .ok (.lushr, 1)) (k : Go S G d i (pc + 1) ls (vL (llushr x y) :: st) P Q) : Go S G d i pc ls (vI y :: vL x :: st) P Q := by
  intro p e R s m args below meth c H locs la C hP hS hl
  obtain ⟨hx, hb, hml, hr, hlk, hown, hts, ⟨hK, hNk⟩, hi, hdf, hdl⟩ := C
  exact lv_lushr (x := Int64.ofInt x) (y := Int32.ofInt y) (v := Int64.ofInt (llushr x y)) (rest := gs G st) hx hb hd (Int64.ofInt_toInt _).symm (k p e R s m args below meth c H locs la ⟨hx, hb, hml, hr, hlk, hown, hts, ⟨hK, hNk⟩, hi, hdf, hdl⟩ hP hS hl)

theorem g_i2l {x : Int} (hd : decode i.2.1 pc = .ok (.i2l, 1)) (hx0 : IR x) (k : Go S G d i (pc + 1) ls (vL x :: st) P Q) : Go S G d i pc ls (vI x :: st) P Q := by
  intro p e R s m args below meth c H locs la C hP hS hl
  obtain ⟨hx, hb, hml, hr, hlk, hown, hts, ⟨hK, hNk⟩, hi, hdf, hdl⟩ := C
  exact lv_i2l (x := Int32.ofInt x) (v := Int64.ofInt x) (rest := gs G st) hx hb hd (Int32.toInt64_ofInt hx0.1 hx0.2) (k p e R s m args below meth c H locs la ⟨hx, hb, hml, hr, hlk, hown, hts, ⟨hK, hNk⟩, hi, hdf, hdl⟩ hP hS hl)

theorem g_l2i {x : Int} (hd : decode i.2.1 pc = .ok (.l2i, 1)) (k : Go S G d i (pc + 1) ls (vI x :: st) P Q) : Go S G d i pc ls (vL x :: st) P Q := by
  intro p e R s m args below meth c H locs la C hP hS hl
  obtain ⟨hx, hb, hml, hr, hlk, hown, hts, ⟨hK, hNk⟩, hi, hdf, hdl⟩ := C
  exact lv_l2i (x := Int64.ofInt x) (v := Int32.ofInt x) (rest := gs G st) hx hb hd Int64.toInt32_ofInt (k p e R s m args below meth c H locs la ⟨hx, hb, hml, hr, hlk, hown, hts, ⟨hK, hNk⟩, hi, hdf, hdl⟩ hP hS hl)

theorem g_lcmp {x y : Int} (hd : decode i.2.1 pc = .ok (.lcmp, 1)) (hx0 : LR x) (hy0 : LR y) (k : Go S G d i (pc + 1) ls (vI (lcmpv x y) :: st) P Q) : Go S G d i pc ls (vL y :: vL x :: st) P Q := by
  intro p e R s m args below meth c H locs la C hP hS hl
  obtain ⟨hx, hb, hml, hr, hlk, hown, hts, ⟨hK, hNk⟩, hi, hdf, hdl⟩ := C
  have e1 : lg_cmp (Int64.ofInt x) (Int64.ofInt y) = Int32.ofInt (lcmpv x y) := by
    unfold lcmpv lg_cmp
    have q1 : Int64.ofInt y < Int64.ofInt x ↔ y < x := by rw [Int64.lt_iff_toInt_lt, oL hx0, oL hy0]
    have q2 : Int64.ofInt x = Int64.ofInt y ↔ x = y := ⟨fun h => by have := congrArg Int64.toInt h; rwa [oL hx0, oL hy0] at this, fun h => by rw [h]⟩
    by_cases h1 : y < x
    · simp [h1, q1]
    · by_cases h2 : x = y
      · subst h2; simp
      · simp [h1, h2, q1, q2]
  refine W.lcmp (x := Int64.ofInt x) (y := Int64.ofInt y) (rest := gs G st) hx hb hd ?_
  rw [e1]
  exact k p e R s m args below meth c H locs la ⟨hx, hb, hml, hr, hlk, hown, hts, ⟨hK, hNk⟩, hi, hdf, hdl⟩ hP hS hl

theorem g_iconst {n : Int} (hd : decode i.2.1 pc = .ok (.iconst n, 1)) (k : Go S G d i (pc + 1) ls (vI n :: st) P Q) : Go S G d i pc ls st P Q := by
  intro p e R s m args below meth c H locs la C hP hS hl
  obtain ⟨hx, hb, hml, hr, hlk, hown, hts, ⟨hK, hNk⟩, hi, hdf, hdl⟩ := C
  exact lv_iconst (v := Int32.ofInt n) (rest := gs G st) hx hb hd rfl (k p e R s m args below meth c H locs la ⟨hx, hb, hml, hr, hlk, hown, hts, ⟨hK, hNk⟩, hi, hdf, hdl⟩ hP hS hl)

theorem g_bipush {n : Int} (hd : decode i.2.1 pc = .ok (.bipush n, 2)) (hn : -128 ≤ n ∧ n ≤ 127) (k : Go S G d i (pc + 2) ls (vI n :: st) P Q) : Go S G d i pc ls st P Q := by
  intro p e R s m args below meth c H locs la C hP hS hl
  obtain ⟨hx, hb, hml, hr, hlk, hown, hts, ⟨hK, hNk⟩, hi, hdf, hdl⟩ := C
  exact lv_bipush (v := Int32.ofInt n) (rest := gs G st) hx hb hd (Int8.toInt32_ofInt hn.1 hn.2) (k p e R s m args below meth c H locs la ⟨hx, hb, hml, hr, hlk, hown, hts, ⟨hK, hNk⟩, hi, hdf, hdl⟩ hP hS hl)

theorem g_sipush {n : Int} (hd : decode i.2.1 pc = .ok (.sipush n, 3)) (hn : -32768 ≤ n ∧ n ≤ 32767) (k : Go S G d i (pc + 3) ls (vI n :: st) P Q) : Go S G d i pc ls st P Q := by
  intro p e R s m args below meth c H locs la C hP hS hl
  obtain ⟨hx, hb, hml, hr, hlk, hown, hts, ⟨hK, hNk⟩, hi, hdf, hdl⟩ := C
  exact lv_sipush (v := Int32.ofInt n) (rest := gs G st) hx hb hd (Int16.toInt32_ofInt hn.1 hn.2) (k p e R s m args below meth c H locs la ⟨hx, hb, hml, hr, hlk, hown, hts, ⟨hK, hNk⟩, hi, hdf, hdl⟩ hP hS hl)

theorem g_lconst {n : Fin 2} {z : Int} (hd : decode i.2.1 pc = .ok (.lconst n, 1)) (hn : Int64.ofNat (n : Nat) = Int64.ofInt z) (k : Go S G d i (pc + 1) ls (vL z :: st) P Q) : Go S G d i pc ls st P Q := by
  intro p e R s m args below meth c H locs la C hP hS hl
  obtain ⟨hx, hb, hml, hr, hlk, hown, hts, ⟨hK, hNk⟩, hi, hdf, hdl⟩ := C
  exact lv_lconst (v := Int64.ofInt z) (rest := gs G st) hx hb hd hn (k p e R s m args below meth c H locs la ⟨hx, hb, hml, hr, hlk, hown, hts, ⟨hK, hNk⟩, hi, hdf, hdl⟩ hP hS hl)

theorem g_ldc {n : Nat} {v : Int32} {z : Int} (hd : decode i.2.1 pc = .ok (.ldc n, 2)) (hw : Cond.constant i.1.cls n v ∈ WT) (hv : v = Int32.ofInt z) (k : Go S G d i (pc + 2) ls (vI z :: st) P Q) : Go S G d i pc ls st P Q := by
  intro p e R s m args below meth c H locs la C hP hS hl
  obtain ⟨hx, hb, hml, hr, hlk, hown, hts, ⟨hK, hNk⟩, hi, hdf, hdl⟩ := C
  subst hv
  exact lv_ldc (v := Int32.ofInt z) (rest := gs G st) hx hb hown (hts _ hw) hd (k p e R s m args below meth c H locs la ⟨hx, hb, hml, hr, hlk, hown, hts, ⟨hK, hNk⟩, hi, hdf, hdl⟩ hP hS hl)

theorem g_ldcw {n : Nat} {v : Int32} {z : Int} (hd : decode i.2.1 pc = .ok (.ldc_w n, 3)) (hw : Cond.constant i.1.cls n v ∈ WT) (hv : v = Int32.ofInt z) (k : Go S G d i (pc + 3) ls (vI z :: st) P Q) : Go S G d i pc ls st P Q := by
  intro p e R s m args below meth c H locs la C hP hS hl
  obtain ⟨hx, hb, hml, hr, hlk, hown, hts, ⟨hK, hNk⟩, hi, hdf, hdl⟩ := C
  subst hv
  exact lv_ldcw (v := Int32.ofInt z) (rest := gs G st) hx hb hown (hts _ hw) hd (k p e R s m args below meth c H locs la ⟨hx, hb, hml, hr, hlk, hown, hts, ⟨hK, hNk⟩, hi, hdf, hdl⟩ hP hS hl)

theorem g_ldc2 {n : Nat} {v : Int64} {z : Int} (hd : decode i.2.1 pc = .ok (.ldc2_w n, 3)) (hw : Cond.constantLong i.1.cls n v ∈ WT) (hv : v = Int64.ofInt z) (k : Go S G d i (pc + 3) ls (vL z :: st) P Q) : Go S G d i pc ls st P Q := by
  intro p e R s m args below meth c H locs la C hP hS hl
  obtain ⟨hx, hb, hml, hr, hlk, hown, hts, ⟨hK, hNk⟩, hi, hdf, hdl⟩ := C
  subst hv
  exact lv_ldc2 (v := Int64.ofInt z) (rest := gs G st) hx hb hown (hts _ hw) hd (k p e R s m args below meth c H locs la ⟨hx, hb, hml, hr, hlk, hown, hts, ⟨hK, hNk⟩, hi, hdf, hdl⟩ hP hS hl)

theorem gl_at {la : Array Slot} {n : Nat} {j : Nat} {v : PV} (h : lv_has la n (gl G ls)) (hj : ls.lookup j = some v) : la[j]? = some (.val (gv G.2.2.2.2 v)) := by
  have hm : (j, v) ∈ ls := by
    clear h
    induction ls with
    | nil => cases hj
    | cons a l ih =>
      obtain ⟨a1, a2⟩ := a
      rw [List.lookup_cons] at hj
      by_cases he : j = a1
      · subst he
        simp at hj
        subst hj
        exact List.mem_cons_self
      · have : (j == a1) = false := by simpa using he
        rw [this] at hj
        exact List.mem_cons_of_mem _ (ih hj)
  exact h.2.2 (j, gv G.2.2.2.2 v) (List.mem_map.mpr ⟨(j, v), hm, rfl⟩)
theorem g_iload_n {q : Fin 4} {x : Int} (hd : decode i.2.1 pc = .ok (.iload_n q, 1)) (hq : ls.lookup (q : Nat) = some (vI x)) (k : Go S G d i (pc + 1) ls ((vI x) :: st) P Q) : Go S G d i pc ls st P Q := by
  intro p e R s m args below meth c H locs la C hP hS hl
  obtain ⟨hx, hb, hml, hr, hlk, hown, hts, ⟨hK, hNk⟩, hi, hdf, hdl⟩ := C
  exact lv_iload_n (x := Int32.ofInt x) (rest := gs G st) hx hb hd rfl (gl_at (G := G) hl hq) (k p e R s m args below meth c H locs la ⟨hx, hb, hml, hr, hlk, hown, hts, ⟨hK, hNk⟩, hi, hdf, hdl⟩ hP hS hl)

theorem g_iload {q : Nat} {x : Int} (hd : decode i.2.1 pc = .ok (.iload q, 2)) (hq : ls.lookup q = some (vI x)) (k : Go S G d i (pc + 2) ls ((vI x) :: st) P Q) : Go S G d i pc ls st P Q := by
  intro p e R s m args below meth c H locs la C hP hS hl
  obtain ⟨hx, hb, hml, hr, hlk, hown, hts, ⟨hK, hNk⟩, hi, hdf, hdl⟩ := C
  exact lv_iload (x := Int32.ofInt x) (rest := gs G st) hx hb hd (gl_at (G := G) hl hq) (k p e R s m args below meth c H locs la ⟨hx, hb, hml, hr, hlk, hown, hts, ⟨hK, hNk⟩, hi, hdf, hdl⟩ hP hS hl)

theorem g_lload_n {q : Fin 4} {x : Int} (hd : decode i.2.1 pc = .ok (.lload_n q, 1)) (hq : ls.lookup (q : Nat) = some (vL x)) (k : Go S G d i (pc + 1) ls ((vL x) :: st) P Q) : Go S G d i pc ls st P Q := by
  intro p e R s m args below meth c H locs la C hP hS hl
  obtain ⟨hx, hb, hml, hr, hlk, hown, hts, ⟨hK, hNk⟩, hi, hdf, hdl⟩ := C
  exact lv_lload_n (x := Int64.ofInt x) (rest := gs G st) hx hb hd rfl (gl_at (G := G) hl hq) (k p e R s m args below meth c H locs la ⟨hx, hb, hml, hr, hlk, hown, hts, ⟨hK, hNk⟩, hi, hdf, hdl⟩ hP hS hl)

theorem g_lload {q : Nat} {x : Int} (hd : decode i.2.1 pc = .ok (.lload q, 2)) (hq : ls.lookup q = some (vL x)) (k : Go S G d i (pc + 2) ls ((vL x) :: st) P Q) : Go S G d i pc ls st P Q := by
  intro p e R s m args below meth c H locs la C hP hS hl
  obtain ⟨hx, hb, hml, hr, hlk, hown, hts, ⟨hK, hNk⟩, hi, hdf, hdl⟩ := C
  exact lv_lload (x := Int64.ofInt x) (rest := gs G st) hx hb hd (gl_at (G := G) hl hq) (k p e R s m args below meth c H locs la ⟨hx, hb, hml, hr, hlk, hown, hts, ⟨hK, hNk⟩, hi, hdf, hdl⟩ hP hS hl)

theorem g_aload_n {q : Fin 4} {x : Nat} (hd : decode i.2.1 pc = .ok (.aload_n q, 1)) (hq : ls.lookup (q : Nat) = some (vR x)) (k : Go S G d i (pc + 1) ls ((vR x) :: st) P Q) : Go S G d i pc ls st P Q := by
  intro p e R s m args below meth c H locs la C hP hS hl
  obtain ⟨hx, hb, hml, hr, hlk, hown, hts, ⟨hK, hNk⟩, hi, hdf, hdl⟩ := C
  exact lv_aload_n (x := G.2.2.2.2 x) (rest := gs G st) hx hb hd rfl (gl_at (G := G) hl hq) (k p e R s m args below meth c H locs la ⟨hx, hb, hml, hr, hlk, hown, hts, ⟨hK, hNk⟩, hi, hdf, hdl⟩ hP hS hl)

theorem g_aload {q : Nat} {x : Nat} (hd : decode i.2.1 pc = .ok (.aload q, 2)) (hq : ls.lookup q = some (vR x)) (k : Go S G d i (pc + 2) ls ((vR x) :: st) P Q) : Go S G d i pc ls st P Q := by
  intro p e R s m args below meth c H locs la C hP hS hl
  obtain ⟨hx, hb, hml, hr, hlk, hown, hts, ⟨hK, hNk⟩, hi, hdf, hdl⟩ := C
  exact lv_aload (x := G.2.2.2.2 x) (rest := gs G st) hx hb hd (gl_at (G := G) hl hq) (k p e R s m args below meth c H locs la ⟨hx, hb, hml, hr, hlk, hown, hts, ⟨hK, hNk⟩, hi, hdf, hdl⟩ hP hS hl)

/-- the locals behind a store of one word, of two -/
def sto (ls : List (Nat × PV)) (j : Nat) (v : PV) : List (Nat × PV) := (j, v) :: ls.filter fun q => !(q.1 == j) && !(q.1 + 1 == j && q.2.1 == 1)
def sto2 (ls : List (Nat × PV)) (j : Nat) (v : PV) : List (Nat × PV) := (j, v) :: ls.filter fun q => !(q.1 == j) && (!(q.1 == j + 1) && !(q.1 + 1 == j && q.2.1 == 1))
theorem gv_cat (ad : Nat → Nat) (v : PV) : ((gv ad v).category == 2) = (v.1 == 1) := by
  obtain ⟨t, z⟩ := v
  match t with
  | 0 => rfl
  | 1 => rfl
  | n + 2 => rfl
theorem gl_sto {j : Nat} {v : PV} : (j, gv G.2.2.2.2 v) :: (gl G ls).filter (fun q => !(q.1 == j) && !(q.1 + 1 == j && q.2.category == 2)) = gl G (sto ls j v) := by
  unfold gl sto
  rw [List.map_cons, List.filter_map]
  congr 2
  apply congrArg (fun f => ls.filter f)
  funext q
  simp only [Function.comp]
  rw [gv_cat]
theorem gl_sto2 {j : Nat} {v : PV} : (j, gv G.2.2.2.2 v) :: (gl G ls).filter (fun q => !(q.1 == j) && (!(q.1 == j + 1) && !(q.1 + 1 == j && q.2.category == 2))) = gl G (sto2 ls j v) := by
  unfold gl sto2
  rw [List.map_cons, List.filter_map]
  congr 2
  apply congrArg (fun f => ls.filter f)
  funext q
  simp only [Function.comp]
  rw [gv_cat]
theorem g_istore_n {q : Fin 4} {x : Int} {l1 : List (Nat × PV)} (hd : decode i.2.1 pc = .ok (.istore_n q, 1)) (hq : (q : Nat) < i.2.2.1) (hl1 : sto ls (q : Nat) (vI x) = l1) (k : Go S G d i (pc + 1) l1 st P Q) : Go S G d i pc ls ((vI x) :: st) P Q := by
  intro p e R s m args below meth c H locs la C hP hS hl
  obtain ⟨hx, hb, hml, hr, hlk, hown, hts, ⟨hK, hNk⟩, hi, hdf, hdl⟩ := C
  exact lv_istore_n (x := Int32.ofInt x) (rest := gs G st) hx hb hd rfl hl hq (gl_sto (v := (vI x)).trans (congrArg (gl G) hl1)) (fun la1 h1 => k p e R s m args below meth c H locs la1 ⟨hx, hb, hml, hr, hlk, hown, hts, ⟨hK, hNk⟩, hi, hdf, hdl⟩ hP hS h1)

theorem g_istore {q : Nat} {x : Int} {l1 : List (Nat × PV)} (hd : decode i.2.1 pc = .ok (.istore q, 2)) (hq : q < i.2.2.1) (hl1 : sto ls q (vI x) = l1) (k : Go S G d i (pc + 2) l1 st P Q) : Go S G d i pc ls ((vI x) :: st) P Q := by
  intro p e R s m args below meth c H locs la C hP hS hl
  obtain ⟨hx, hb, hml, hr, hlk, hown, hts, ⟨hK, hNk⟩, hi, hdf, hdl⟩ := C
  exact lv_istore (x := Int32.ofInt x) (rest := gs G st) hx hb hd hl hq (gl_sto (v := (vI x)).trans (congrArg (gl G) hl1)) (fun la1 h1 => k p e R s m args below meth c H locs la1 ⟨hx, hb, hml, hr, hlk, hown, hts, ⟨hK, hNk⟩, hi, hdf, hdl⟩ hP hS h1)

theorem g_lstore_n {q : Fin 4} {x : Int} {l1 : List (Nat × PV)} (hd : decode i.2.1 pc = .ok (.lstore_n q, 1)) (hq : (q : Nat) + 1 < i.2.2.1) (hl1 : sto2 ls (q : Nat) (vL x) = l1) (k : Go S G d i (pc + 1) l1 st P Q) : Go S G d i pc ls ((vL x) :: st) P Q := by
  intro p e R s m args below meth c H locs la C hP hS hl
  obtain ⟨hx, hb, hml, hr, hlk, hown, hts, ⟨hK, hNk⟩, hi, hdf, hdl⟩ := C
  exact lv_lstore_n (x := Int64.ofInt x) (rest := gs G st) hx hb hd rfl hl hq (gl_sto2 (v := (vL x)).trans (congrArg (gl G) hl1)) (fun la1 h1 => k p e R s m args below meth c H locs la1 ⟨hx, hb, hml, hr, hlk, hown, hts, ⟨hK, hNk⟩, hi, hdf, hdl⟩ hP hS h1)

theorem g_lstore {q : Nat} {x : Int} {l1 : List (Nat × PV)} (hd : decode i.2.1 pc = .ok (.lstore q, 2)) (hq : q + 1 < i.2.2.1) (hl1 : sto2 ls q (vL x) = l1) (k : Go S G d i (pc + 2) l1 st P Q) : Go S G d i pc ls ((vL x) :: st) P Q := by
  intro p e R s m args below meth c H locs la C hP hS hl
  obtain ⟨hx, hb, hml, hr, hlk, hown, hts, ⟨hK, hNk⟩, hi, hdf, hdl⟩ := C
  exact lv_lstore (x := Int64.ofInt x) (rest := gs G st) hx hb hd hl hq (gl_sto2 (v := (vL x)).trans (congrArg (gl G) hl1)) (fun la1 h1 => k p e R s m args below meth c H locs la1 ⟨hx, hb, hml, hr, hlk, hown, hts, ⟨hK, hNk⟩, hi, hdf, hdl⟩ hP hS h1)

theorem g_astore_n {q : Fin 4} {x : Nat} {l1 : List (Nat × PV)} (hd : decode i.2.1 pc = .ok (.astore_n q, 1)) (hq : (q : Nat) < i.2.2.1) (hl1 : sto ls (q : Nat) (vR x) = l1) (k : Go S G d i (pc + 1) l1 st P Q) : Go S G d i pc ls ((vR x) :: st) P Q := by
  intro p e R s m args below meth c H locs la C hP hS hl
  obtain ⟨hx, hb, hml, hr, hlk, hown, hts, ⟨hK, hNk⟩, hi, hdf, hdl⟩ := C
  exact lv_astore_n (x := G.2.2.2.2 x) (rest := gs G st) hx hb hd rfl hl hq (gl_sto (v := (vR x)).trans (congrArg (gl G) hl1)) (fun la1 h1 => k p e R s m args below meth c H locs la1 ⟨hx, hb, hml, hr, hlk, hown, hts, ⟨hK, hNk⟩, hi, hdf, hdl⟩ hP hS h1)

theorem g_astore {q : Nat} {x : Nat} {l1 : List (Nat × PV)} (hd : decode i.2.1 pc = .ok (.astore q, 2)) (hq : q < i.2.2.1) (hl1 : sto ls q (vR x) = l1) (k : Go S G d i (pc + 2) l1 st P Q) : Go S G d i pc ls ((vR x) :: st) P Q := by
  intro p e R s m args below meth c H locs la C hP hS hl
  obtain ⟨hx, hb, hml, hr, hlk, hown, hts, ⟨hK, hNk⟩, hi, hdf, hdl⟩ := C
  exact lv_astore (x := G.2.2.2.2 x) (rest := gs G st) hx hb hd hl hq (gl_sto (v := (vR x)).trans (congrArg (gl G) hl1)) (fun la1 h1 => k p e R s m args below meth c H locs la1 ⟨hx, hb, hml, hr, hlk, hown, hts, ⟨hK, hNk⟩, hi, hdf, hdl⟩ hP hS h1)

theorem g_iinc {q : Nat} {n x : Int} {l1 : List (Nat × PV)} (hd : decode i.2.1 pc = .ok (.iinc q n, 3)) (hx1 : ls.lookup q = some (vI x)) (hq : q < i.2.2.1) (hl1 : sto ls q (vI (x + n)) = l1) (k : Go S G d i (pc + 3) l1 st P Q) : Go S G d i pc ls st P Q := by
  intro p e R s m args below meth c H locs la C hP hS hl
  obtain ⟨hx, hb, hml, hr, hlk, hown, hts, ⟨hK, hNk⟩, hi, hdf, hdl⟩ := C
  have hm : (q, Value.int (Int32.ofInt x)) ∈ gl G ls := by
    have : ∀ l : List (Nat × PV), l.lookup q = some (vI x) → (q, vI x) ∈ l := by
      intro l
      induction l with
      | nil => intro h; cases h
      | cons a l ih =>
        obtain ⟨a1, a2⟩ := a
        intro h
        rw [List.lookup_cons] at h
        by_cases he : q = a1
        · subst he
          simp at h
          subst h
          exact List.mem_cons_self
        · have hf : (q == a1) = false := by simpa using he
          rw [hf] at h
          exact List.mem_cons_of_mem _ (ih h)
    exact List.mem_map.mpr ⟨(q, vI x), this ls hx1, rfl⟩
  obtain ⟨k1, hk1⟩ := List.getElem?_of_mem hm
  exact lv_iinc (k := k1) (v := Int32.ofInt (x + n)) (rest := gs G st) hx hb hd hl hk1 (Int32.ofInt_add x n).symm hq ((gl_sto (v := vI (x + n))).trans (congrArg (gl G) hl1)) (fun la1 h1 => k p e R s m args below meth c H locs la1 ⟨hx, hb, hml, hr, hlk, hown, hts, ⟨hK, hNk⟩, hi, hdf, hdl⟩ hP hS h1)

/-- fewer locals are known -/
theorem g_forget {l1 : List (Nat × PV)} (h : ∀ q ∈ l1, q ∈ ls) (k : Go S G d i pc l1 st P Q) : Go S G d i pc ls st P Q := by
  intro p e R s m args below meth c H locs la C hP hS hl
  exact k p e R s m args below meth c H locs la C hP hS ⟨hl.1, hl.2.1, fun q hq => by
    obtain ⟨a, h1, h2⟩ := List.mem_map.mp hq
    exact hl.2.2 q (List.mem_map.mpr ⟨a, h _ h1, h2⟩)⟩
theorem gv_cat1 {ad : Nat → Nat} {v : PV} (h : (v.1 == 1) = false) : (gv ad v).category = 1 := by
  rcases lv_cat (gv ad v) with h1 | h1
  · exact h1
  · have h2 := gv_cat ad v
    rw [h, h1] at h2
    simp at h2
theorem gv_cat2 {ad : Nat → Nat} {v : PV} (h : (v.1 == 1) = true) : (gv ad v).category = 2 := by
  have h2 := gv_cat ad v
  rw [h] at h2
  simpa using h2
theorem g_dup {a : PV} (hd : decode i.2.1 pc = .ok (.dup, 1)) (ha : (a.1 == 1) = false) (k : Go S G d i (pc + 1) ls (a :: a :: st) P Q) : Go S G d i pc ls (a :: st) P Q := by
  intro p e R s m args below meth c H locs la C hP hS hl
  obtain ⟨hx, hb, hml, hr, hlk, hown, hts, ⟨hK, hNk⟩, hi, hdf, hdl⟩ := C
  exact lv_dup (va := gv G.2.2.2.2 a) (rest := gs G st) hx hb hd (gv_cat1 ha) (k p e R s m args below meth c H locs la ⟨hx, hb, hml, hr, hlk, hown, hts, ⟨hK, hNk⟩, hi, hdf, hdl⟩ hP hS hl)

theorem g_pop {a : PV} (hd : decode i.2.1 pc = .ok (.pop, 1)) (ha : (a.1 == 1) = false) (k : Go S G d i (pc + 1) ls st P Q) : Go S G d i pc ls (a :: st) P Q := by
  intro p e R s m args below meth c H locs la C hP hS hl
  obtain ⟨hx, hb, hml, hr, hlk, hown, hts, ⟨hK, hNk⟩, hi, hdf, hdl⟩ := C
  exact lv_pop (va := gv G.2.2.2.2 a) (rest := gs G st) hx hb hd (gv_cat1 ha) (k p e R s m args below meth c H locs la ⟨hx, hb, hml, hr, hlk, hown, hts, ⟨hK, hNk⟩, hi, hdf, hdl⟩ hP hS hl)

theorem g_dup2 {a b : PV} (hd : decode i.2.1 pc = .ok (.dup2, 1)) (ha : (a.1 == 1) = false) (hb0 : (b.1 == 1) = false) (k : Go S G d i (pc + 1) ls (a :: b :: a :: b :: st) P Q) : Go S G d i pc ls (a :: b :: st) P Q := by
  intro p e R s m args below meth c H locs la C hP hS hl
  obtain ⟨hx, hb, hml, hr, hlk, hown, hts, ⟨hK, hNk⟩, hi, hdf, hdl⟩ := C
  exact lv_dup2_11 (va := gv G.2.2.2.2 a) (vb := gv G.2.2.2.2 b) (rest := gs G st) hx hb hd (gv_cat1 ha) (gv_cat1 hb0) (k p e R s m args below meth c H locs la ⟨hx, hb, hml, hr, hlk, hown, hts, ⟨hK, hNk⟩, hi, hdf, hdl⟩ hP hS hl)

theorem g_if_eq {x off : Int} {tgt : Nat} (hd : decode i.2.1 pc = .ok (.ifCond .eq off, 3)) (ht : (pc : Int) + off = (tgt : Int)) (hx0 : IR x) (kt : x = 0 → Go S G d i tgt ls st P Q) (kf : ¬ x = 0 → Go S G d i (pc + 3) ls st P Q) : Go S G d i pc ls (vI x :: st) P Q := by
  intro p e R s m args below meth c H locs la C hP hS hl
  obtain ⟨hx, hb, hml, hr, hlk, hown, hts, ⟨hK, hNk⟩, hi, hdf, hdl⟩ := C
  exact lv_if_eq (x := Int32.ofInt x) (rest := gs G st) hx hb hd ht (fun q => ((fun q => kt ((oI_eq hx0 IR0).mp q)) q) p e R s m args below meth c H locs la ⟨hx, hb, hml, hr, hlk, hown, hts, ⟨hK, hNk⟩, hi, hdf, hdl⟩ hP hS hl) (fun q => ((fun q => kf (fun z => q ((oI_eq hx0 IR0).mpr z))) q) p e R s m args below meth c H locs la ⟨hx, hb, hml, hr, hlk, hown, hts, ⟨hK, hNk⟩, hi, hdf, hdl⟩ hP hS hl)

theorem g_icmp_eq {x y off : Int} {tgt : Nat} (hd : decode i.2.1 pc = .ok (.if_icmp .eq off, 3)) (ht : (pc : Int) + off = (tgt : Int)) (hx0 : IR x) (hy0 : IR y) (kt : x = y → Go S G d i tgt ls st P Q) (kf : ¬ x = y → Go S G d i (pc + 3) ls st P Q) : Go S G d i pc ls (vI y :: vI x :: st) P Q := by
  intro p e R s m args below meth c H locs la C hP hS hl
  obtain ⟨hx, hb, hml, hr, hlk, hown, hts, ⟨hK, hNk⟩, hi, hdf, hdl⟩ := C
  exact lv_icmp_eq (x := Int32.ofInt x) (y := Int32.ofInt y) (rest := gs G st) hx hb hd ht (fun q => ((fun q => kt ((oI_eq hx0 hy0).mp q)) q) p e R s m args below meth c H locs la ⟨hx, hb, hml, hr, hlk, hown, hts, ⟨hK, hNk⟩, hi, hdf, hdl⟩ hP hS hl) (fun q => ((fun q => kf (fun z => q ((oI_eq hx0 hy0).mpr z))) q) p e R s m args below meth c H locs la ⟨hx, hb, hml, hr, hlk, hown, hts, ⟨hK, hNk⟩, hi, hdf, hdl⟩ hP hS hl)

theorem g_if_ne {x off : Int} {tgt : Nat} (hd : decode i.2.1 pc = .ok (.ifCond .ne off, 3)) (ht : (pc : Int) + off = (tgt : Int)) (hx0 : IR x) (kt : ¬ x = 0 → Go S G d i tgt ls st P Q) (kf : x = 0 → Go S G d i (pc + 3) ls st P Q) : Go S G d i pc ls (vI x :: st) P Q := by
  intro p e R s m args below meth c H locs la C hP hS hl
  obtain ⟨hx, hb, hml, hr, hlk, hown, hts, ⟨hK, hNk⟩, hi, hdf, hdl⟩ := C
  exact lv_if_ne (x := Int32.ofInt x) (rest := gs G st) hx hb hd ht (fun q => ((fun q => kt (fun z => q ((oI_eq hx0 IR0).mpr z))) q) p e R s m args below meth c H locs la ⟨hx, hb, hml, hr, hlk, hown, hts, ⟨hK, hNk⟩, hi, hdf, hdl⟩ hP hS hl) (fun q => ((fun q => kf ((oI_eq hx0 IR0).mp q)) q) p e R s m args below meth c H locs la ⟨hx, hb, hml, hr, hlk, hown, hts, ⟨hK, hNk⟩, hi, hdf, hdl⟩ hP hS hl)

theorem g_icmp_ne {x y off : Int} {tgt : Nat} (hd : decode i.2.1 pc = .ok (.if_icmp .ne off, 3)) (ht : (pc : Int) + off = (tgt : Int)) (hx0 : IR x) (hy0 : IR y) (kt : ¬ x = y → Go S G d i tgt ls st P Q) (kf : x = y → Go S G d i (pc + 3) ls st P Q) : Go S G d i pc ls (vI y :: vI x :: st) P Q := by
  intro p e R s m args below meth c H locs la C hP hS hl
  obtain ⟨hx, hb, hml, hr, hlk, hown, hts, ⟨hK, hNk⟩, hi, hdf, hdl⟩ := C
  exact lv_icmp_ne (x := Int32.ofInt x) (y := Int32.ofInt y) (rest := gs G st) hx hb hd ht (fun q => ((fun q => kt (fun z => q ((oI_eq hx0 hy0).mpr z))) q) p e R s m args below meth c H locs la ⟨hx, hb, hml, hr, hlk, hown, hts, ⟨hK, hNk⟩, hi, hdf, hdl⟩ hP hS hl) (fun q => ((fun q => kf ((oI_eq hx0 hy0).mp q)) q) p e R s m args below meth c H locs la ⟨hx, hb, hml, hr, hlk, hown, hts, ⟨hK, hNk⟩, hi, hdf, hdl⟩ hP hS hl)

theorem g_if_lt {x off : Int} {tgt : Nat} (hd : decode i.2.1 pc = .ok (.ifCond .lt off, 3)) (ht : (pc : Int) + off = (tgt : Int)) (hx0 : IR x) (kt : x < 0 → Go S G d i tgt ls st P Q) (kf : 0 ≤ x → Go S G d i (pc + 3) ls st P Q) : Go S G d i pc ls (vI x :: st) P Q := by
  intro p e R s m args below meth c H locs la C hP hS hl
  obtain ⟨hx, hb, hml, hr, hlk, hown, hts, ⟨hK, hNk⟩, hi, hdf, hdl⟩ := C
  exact lv_if_lt (x := Int32.ofInt x) (rest := gs G st) hx hb hd ht (fun q => ((fun q => kt ((oI_lt hx0 IR0).mp q)) q) p e R s m args below meth c H locs la ⟨hx, hb, hml, hr, hlk, hown, hts, ⟨hK, hNk⟩, hi, hdf, hdl⟩ hP hS hl) (fun q => ((fun q => kf (Int.not_lt.mp fun z => q ((oI_lt hx0 IR0).mpr z))) q) p e R s m args below meth c H locs la ⟨hx, hb, hml, hr, hlk, hown, hts, ⟨hK, hNk⟩, hi, hdf, hdl⟩ hP hS hl)

theorem g_icmp_lt {x y off : Int} {tgt : Nat} (hd : decode i.2.1 pc = .ok (.if_icmp .lt off, 3)) (ht : (pc : Int) + off = (tgt : Int)) (hx0 : IR x) (hy0 : IR y) (kt : x < y → Go S G d i tgt ls st P Q) (kf : y ≤ x → Go S G d i (pc + 3) ls st P Q) : Go S G d i pc ls (vI y :: vI x :: st) P Q := by
  intro p e R s m args below meth c H locs la C hP hS hl
  obtain ⟨hx, hb, hml, hr, hlk, hown, hts, ⟨hK, hNk⟩, hi, hdf, hdl⟩ := C
  exact lv_icmp_lt (x := Int32.ofInt x) (y := Int32.ofInt y) (rest := gs G st) hx hb hd ht (fun q => ((fun q => kt ((oI_lt hx0 hy0).mp q)) q) p e R s m args below meth c H locs la ⟨hx, hb, hml, hr, hlk, hown, hts, ⟨hK, hNk⟩, hi, hdf, hdl⟩ hP hS hl) (fun q => ((fun q => kf (Int.not_lt.mp fun z => q ((oI_lt hx0 hy0).mpr z))) q) p e R s m args below meth c H locs la ⟨hx, hb, hml, hr, hlk, hown, hts, ⟨hK, hNk⟩, hi, hdf, hdl⟩ hP hS hl)

theorem g_if_ge {x off : Int} {tgt : Nat} (hd : decode i.2.1 pc = .ok (.ifCond .ge off, 3)) (ht : (pc : Int) + off = (tgt : Int)) (hx0 : IR x) (kt : 0 ≤ x → Go S G d i tgt ls st P Q) (kf : x < 0 → Go S G d i (pc + 3) ls st P Q) : Go S G d i pc ls (vI x :: st) P Q := by
  intro p e R s m args below meth c H locs la C hP hS hl
  obtain ⟨hx, hb, hml, hr, hlk, hown, hts, ⟨hK, hNk⟩, hi, hdf, hdl⟩ := C
  exact lv_if_ge (x := Int32.ofInt x) (rest := gs G st) hx hb hd ht (fun q => ((fun q => kt ((oI_le IR0 hx0).mp q)) q) p e R s m args below meth c H locs la ⟨hx, hb, hml, hr, hlk, hown, hts, ⟨hK, hNk⟩, hi, hdf, hdl⟩ hP hS hl) (fun q => ((fun q => kf (Int.not_le.mp fun z => q ((oI_le IR0 hx0).mpr z))) q) p e R s m args below meth c H locs la ⟨hx, hb, hml, hr, hlk, hown, hts, ⟨hK, hNk⟩, hi, hdf, hdl⟩ hP hS hl)

theorem g_icmp_ge {x y off : Int} {tgt : Nat} (hd : decode i.2.1 pc = .ok (.if_icmp .ge off, 3)) (ht : (pc : Int) + off = (tgt : Int)) (hx0 : IR x) (hy0 : IR y) (kt : y ≤ x → Go S G d i tgt ls st P Q) (kf : x < y → Go S G d i (pc + 3) ls st P Q) : Go S G d i pc ls (vI y :: vI x :: st) P Q := by
  intro p e R s m args below meth c H locs la C hP hS hl
  obtain ⟨hx, hb, hml, hr, hlk, hown, hts, ⟨hK, hNk⟩, hi, hdf, hdl⟩ := C
  exact lv_icmp_ge (x := Int32.ofInt x) (y := Int32.ofInt y) (rest := gs G st) hx hb hd ht (fun q => ((fun q => kt ((oI_le hy0 hx0).mp q)) q) p e R s m args below meth c H locs la ⟨hx, hb, hml, hr, hlk, hown, hts, ⟨hK, hNk⟩, hi, hdf, hdl⟩ hP hS hl) (fun q => ((fun q => kf (Int.not_le.mp fun z => q ((oI_le hy0 hx0).mpr z))) q) p e R s m args below meth c H locs la ⟨hx, hb, hml, hr, hlk, hown, hts, ⟨hK, hNk⟩, hi, hdf, hdl⟩ hP hS hl)

theorem g_if_gt {x off : Int} {tgt : Nat} (hd : decode i.2.1 pc = .ok (.ifCond .gt off, 3)) (ht : (pc : Int) + off = (tgt : Int)) (hx0 : IR x) (kt : 0 < x → Go S G d i tgt ls st P Q) (kf : x ≤ 0 → Go S G d i (pc + 3) ls st P Q) : Go S G d i pc ls (vI x :: st) P Q := by
  intro p e R s m args below meth c H locs la C hP hS hl
  obtain ⟨hx, hb, hml, hr, hlk, hown, hts, ⟨hK, hNk⟩, hi, hdf, hdl⟩ := C
  exact lv_if_gt (x := Int32.ofInt x) (rest := gs G st) hx hb hd ht (fun q => ((fun q => kt ((oI_lt IR0 hx0).mp q)) q) p e R s m args below meth c H locs la ⟨hx, hb, hml, hr, hlk, hown, hts, ⟨hK, hNk⟩, hi, hdf, hdl⟩ hP hS hl) (fun q => ((fun q => kf (Int.not_lt.mp fun z => q ((oI_lt IR0 hx0).mpr z))) q) p e R s m args below meth c H locs la ⟨hx, hb, hml, hr, hlk, hown, hts, ⟨hK, hNk⟩, hi, hdf, hdl⟩ hP hS hl)

theorem g_icmp_gt {x y off : Int} {tgt : Nat} (hd : decode i.2.1 pc = .ok (.if_icmp .gt off, 3)) (ht : (pc : Int) + off = (tgt : Int)) (hx0 : IR x) (hy0 : IR y) (kt : y < x → Go S G d i tgt ls st P Q) (kf : x ≤ y → Go S G d i (pc + 3) ls st P Q) : Go S G d i pc ls (vI y :: vI x :: st) P Q := by
  intro p e R s m args below meth c H locs la C hP hS hl
  obtain ⟨hx, hb, hml, hr, hlk, hown, hts, ⟨hK, hNk⟩, hi, hdf, hdl⟩ := C
  exact lv_icmp_gt (x := Int32.ofInt x) (y := Int32.ofInt y) (rest := gs G st) hx hb hd ht (fun q => ((fun q => kt ((oI_lt hy0 hx0).mp q)) q) p e R s m args below meth c H locs la ⟨hx, hb, hml, hr, hlk, hown, hts, ⟨hK, hNk⟩, hi, hdf, hdl⟩ hP hS hl) (fun q => ((fun q => kf (Int.not_lt.mp fun z => q ((oI_lt hy0 hx0).mpr z))) q) p e R s m args below meth c H locs la ⟨hx, hb, hml, hr, hlk, hown, hts, ⟨hK, hNk⟩, hi, hdf, hdl⟩ hP hS hl)

theorem g_if_le {x off : Int} {tgt : Nat} (hd : decode i.2.1 pc = .ok (.ifCond .le off, 3)) (ht : (pc : Int) + off = (tgt : Int)) (hx0 : IR x) (kt : x ≤ 0 → Go S G d i tgt ls st P Q) (kf : 0 < x → Go S G d i (pc + 3) ls st P Q) : Go S G d i pc ls (vI x :: st) P Q := by
  intro p e R s m args below meth c H locs la C hP hS hl
  obtain ⟨hx, hb, hml, hr, hlk, hown, hts, ⟨hK, hNk⟩, hi, hdf, hdl⟩ := C
  exact lv_if_le (x := Int32.ofInt x) (rest := gs G st) hx hb hd ht (fun q => ((fun q => kt ((oI_le hx0 IR0).mp q)) q) p e R s m args below meth c H locs la ⟨hx, hb, hml, hr, hlk, hown, hts, ⟨hK, hNk⟩, hi, hdf, hdl⟩ hP hS hl) (fun q => ((fun q => kf (Int.not_le.mp fun z => q ((oI_le hx0 IR0).mpr z))) q) p e R s m args below meth c H locs la ⟨hx, hb, hml, hr, hlk, hown, hts, ⟨hK, hNk⟩, hi, hdf, hdl⟩ hP hS hl)

theorem g_icmp_le {x y off : Int} {tgt : Nat} (hd : decode i.2.1 pc = .ok (.if_icmp .le off, 3)) (ht : (pc : Int) + off = (tgt : Int)) (hx0 : IR x) (hy0 : IR y) (kt : x ≤ y → Go S G d i tgt ls st P Q) (kf : y < x → Go S G d i (pc + 3) ls st P Q) : Go S G d i pc ls (vI y :: vI x :: st) P Q := by
  intro p e R s m args below meth c H locs la C hP hS hl
  obtain ⟨hx, hb, hml, hr, hlk, hown, hts, ⟨hK, hNk⟩, hi, hdf, hdl⟩ := C
  exact lv_icmp_le (x := Int32.ofInt x) (y := Int32.ofInt y) (rest := gs G st) hx hb hd ht (fun q => ((fun q => kt ((oI_le hx0 hy0).mp q)) q) p e R s m args below meth c H locs la ⟨hx, hb, hml, hr, hlk, hown, hts, ⟨hK, hNk⟩, hi, hdf, hdl⟩ hP hS hl) (fun q => ((fun q => kf (Int.not_le.mp fun z => q ((oI_le hx0 hy0).mpr z))) q) p e R s m args below meth c H locs la ⟨hx, hb, hml, hr, hlk, hown, hts, ⟨hK, hNk⟩, hi, hdf, hdl⟩ hP hS hl)

theorem g_goto {off : Int} {tgt : Nat} (hd : decode i.2.1 pc = .ok (.goto off, 3)) (ht : (pc : Int) + off = (tgt : Int)) (k : Go S G d i tgt ls st P Q) : Go S G d i pc ls st P Q := by
  intro p e R s m args below meth c H locs la C hP hS hl
  obtain ⟨hx, hb, hml, hr, hlk, hown, hts, ⟨hK, hNk⟩, hi, hdf, hdl⟩ := C
  exact lv_goto hx hb hd ht (k p e R s m args below meth c H locs la ⟨hx, hb, hml, hr, hlk, hown, hts, ⟨hK, hNk⟩, hi, hdf, hdl⟩ hP hS hl)

theorem g_tswO {dflt lo hi x : Int} {offs : Array Int} {len tgt : Nat} (hd : decode i.2.1 pc = .ok (.tableswitch dflt lo hi offs, len)) (hx0 : IR x) (h : x < lo ∨ hi < x) (ht : (pc : Int) + dflt = (tgt : Int)) (k : Go S G d i tgt ls st P Q) : Go S G d i pc ls (vI x :: st) P Q := by
  intro p e R s m args below meth c H locs la C hP hS hl
  obtain ⟨hx, hb, hml, hr, hlk, hown, hts, ⟨hK, hNk⟩, hi, hdf, hdl⟩ := C
  exact lv_tableOut (x := Int32.ofInt x) (rest := gs G st) hx hb hd (by rw [oI hx0]; exact h) ht (k p e R s m args below meth c H locs la ⟨hx, hb, hml, hr, hlk, hown, hts, ⟨hK, hNk⟩, hi, hdf, hdl⟩ hP hS hl)

theorem g_tswI {dflt lo hi x off : Int} {offs : Array Int} {len tgt : Nat} (j : Nat) (hd : decode i.2.1 pc = .ok (.tableswitch dflt lo hi offs, len)) (hx0 : IR x) (h : x = lo + (j : Int)) (hh : x ≤ hi) (ho : offs[j]? = some off) (ht : (pc : Int) + off = (tgt : Int)) (k : Go S G d i tgt ls st P Q) : Go S G d i pc ls (vI x :: st) P Q := by
  intro p e R s m args below meth c H locs la C hP hS hl
  obtain ⟨hx, hb, hml, hr, hlk, hown, hts, ⟨hK, hNk⟩, hi, hdf, hdl⟩ := C
  exact lv_tableIn (x := Int32.ofInt x) (rest := gs G st) hx hb hd (by rw [oI hx0]; omega) (by rw [oI hx0]; omega) (by rw [oI hx0, h, show (lo + (j : Int) - lo).toNat = j from by omega]; exact ho) ht (k p e R s m args below meth c H locs la ⟨hx, hb, hml, hr, hlk, hown, hts, ⟨hK, hNk⟩, hi, hdf, hdl⟩ hP hS hl)

/-- getfield idx in class own is field k of class ci, which has N -/
def FF (own : String) (idx ci k N : Nat) : Prop := ∃ (C : String) (T : u_T), vwCl[ci]? = some (C, T, N) ∧ k < N ∧ (∀ w ∈ u_ws C T N, w ∈ WT) ∧ Cond.fieldLink own idx (T k).1 (T k).2.1 (T k).2.2.1 ∈ WT
/-- it may be written, and keeps a value of type ty -/
def PF (own : String) (idx ci k N : Nat) (ty : FieldType) : Prop := ∃ (C : String) (T : u_T), (vwCl[ci]? = some (C, T, N) ∧ k < N ∧ (∀ w ∈ u_ws C T N, w ∈ WT) ∧ Cond.fieldLink own idx (T k).1 (T k).2.1 (T k).2.2.1 ∈ WT) ∧ (∃ ty0 : Nat → FieldType, ∀ k, k < N → parseFieldDescriptor (T k).2.2.1 = some (ty0 k)) ∧ (∀ a, a < N → ∀ b, b < N → a ≠ b → (T a).2.1 ≠ (T b).2.1) ∧ (T k).2.2.2 = false ∧ parseFieldDescriptor (T k).2.2.1 = some ty
theorem rg_at {n k : Nat} {f : Nat → Value} (h : k < n) : ((List.range n).map f)[k]? = some (f k) := by
  rw [List.getElem?_map, List.getElem?_range h]
  rfl
theorem g_getI {o f idx ci N : Nat} (hF : FF i.1.cls idx ci f N) (ho : o < S.1) (hsh : S.2.2.1 (S.2.1 o) = (0, ci, N)) (hft : S.2.2.2.1 (S.2.1 o) f = 0) (hd : decode i.2.1 pc = .ok (.getfield idx, 3)) (k : Go S G d i (pc + 3) ls ((vI (P o (f : Int))) :: st) P Q) : Go S G d i pc ls (vR o :: st) P Q := by
  intro p e R s m args below meth c H locs la C hP hS hl
  obtain ⟨hx, hb, hml, hr, hlk, hown, hts, ⟨hK, hNk⟩, hi, hdf, hdl⟩ := C
  obtain ⟨C1, T1, hc, hk, hin, hw⟩ := hF
  have e1 : sv S G.2.2.2.2 P o f = .int (Int32.ofInt (P o (f : Int))) := by unfold sv; rw [hft]; rfl
  exact va_get (a := G.2.2.2.2 o) (rest := gs G st) (v := .int (Int32.ofInt (P o (f : Int)))) hx hb hts hin hown hK hP o (WLO ho hsh) hc f hk (hts _ hw) (fun _ q => q) ((rg_at hk).trans (by rw [e1])) hd (k p e R s m args below meth c H locs la ⟨hx, hb, hml, hr, hlk, hown, hts, ⟨hK, hNk⟩, hi, hdf, hdl⟩ hP hS hl)

theorem g_getL {o f idx ci N : Nat} (hF : FF i.1.cls idx ci f N) (ho : o < S.1) (hsh : S.2.2.1 (S.2.1 o) = (0, ci, N)) (hft : S.2.2.2.1 (S.2.1 o) f = 1) (hd : decode i.2.1 pc = .ok (.getfield idx, 3)) (k : Go S G d i (pc + 3) ls ((vL (P o (f : Int))) :: st) P Q) : Go S G d i pc ls (vR o :: st) P Q := by
  intro p e R s m args below meth c H locs la C hP hS hl
  obtain ⟨hx, hb, hml, hr, hlk, hown, hts, ⟨hK, hNk⟩, hi, hdf, hdl⟩ := C
  obtain ⟨C1, T1, hc, hk, hin, hw⟩ := hF
  have e1 : sv S G.2.2.2.2 P o f = .long (Int64.ofInt (P o (f : Int))) := by unfold sv; rw [hft]; rfl
  exact va_get (a := G.2.2.2.2 o) (rest := gs G st) (v := .long (Int64.ofInt (P o (f : Int)))) hx hb hts hin hown hK hP o (WLO ho hsh) hc f hk (hts _ hw) (fun _ q => q) ((rg_at hk).trans (by rw [e1])) hd (k p e R s m args below meth c H locs la ⟨hx, hb, hml, hr, hlk, hown, hts, ⟨hK, hNk⟩, hi, hdf, hdl⟩ hP hS hl)

theorem g_getC {o f idx ci N : Nat} (hF : FF i.1.cls idx ci f N) (ho : o < S.1) (hsh : S.2.2.1 (S.2.1 o) = (0, ci, N)) (hft : S.2.2.2.1 (S.2.1 o) f = 3) (hd : decode i.2.1 pc = .ok (.getfield idx, 3)) (k : Go S G d i (pc + 3) ls ((vR (S.2.2.2.2.1 o f)) :: st) P Q) : Go S G d i pc ls (vR o :: st) P Q := by
  intro p e R s m args below meth c H locs la C hP hS hl
  obtain ⟨hx, hb, hml, hr, hlk, hown, hts, ⟨hK, hNk⟩, hi, hdf, hdl⟩ := C
  obtain ⟨C1, T1, hc, hk, hin, hw⟩ := hF
  have e1 : sv S G.2.2.2.2 P o f = .ref (G.2.2.2.2 (S.2.2.2.2.1 o f)) := by unfold sv; rw [hft]; rfl
  exact va_get (a := G.2.2.2.2 o) (rest := gs G st) (v := .ref (G.2.2.2.2 (S.2.2.2.2.1 o f))) hx hb hts hin hown hK hP o (WLO ho hsh) hc f hk (hts _ hw) (fun _ q => q) ((rg_at hk).trans (by rw [e1])) hd (k p e R s m args below meth c H locs la ⟨hx, hb, hml, hr, hlk, hown, hts, ⟨hK, hNk⟩, hi, hdf, hdl⟩ hP hS hl)

theorem g_getR {o f idx ci N n : Nat} (hF : FF i.1.cls idx ci f N) (ho : o < S.1) (hsh : S.2.2.1 (S.2.1 o) = (0, ci, N)) (hft : S.2.2.2.1 (S.2.1 o) f = 2) (hn : P o (f : Int) = (n : Int)) (hd : decode i.2.1 pc = .ok (.getfield idx, 3)) (k : Go S G d i (pc + 3) ls (vR n :: st) P Q) : Go S G d i pc ls (vR o :: st) P Q := by
  intro p e R s m args below meth c H locs la C hP hS hl
  obtain ⟨hx, hb, hml, hr, hlk, hown, hts, ⟨hK, hNk⟩, hi, hdf, hdl⟩ := C
  obtain ⟨C1, T1, hc, hk, hin, hw⟩ := hF
  have e1 : sv S G.2.2.2.2 P o f = .ref (G.2.2.2.2 n) := by unfold sv; rw [hft, hn]; rfl
  exact va_get (a := G.2.2.2.2 o) (rest := gs G st) (v := .ref (G.2.2.2.2 n)) hx hb hts hin hown hK hP o (WLO ho hsh) hc f hk (hts _ hw) (fun _ q => q) ((rg_at hk).trans (by rw [e1])) hd (k p e R s m args below meth c H locs la ⟨hx, hb, hml, hr, hlk, hown, hts, ⟨hK, hNk⟩, hi, hdf, hdl⟩ hP hS hl)

theorem g_putI {o f idx ci N : Nat} {x : Int} (hF : PF i.1.cls idx ci f N .int) (ho : o < S.1) (hsh : S.2.2.1 (S.2.1 o) = (0, ci, N)) (hft : S.2.2.2.1 (S.2.1 o) f = 0) (hd : decode i.2.1 pc = .ok (.putfield idx, 3)) (k : Go S G d i (pc + 3) ls st (up P o (f : Int) x) Q) : Go S G d i pc ls ((vI x) :: vR o :: st) P Q := by
  intro p e R s m args below meth c H locs la C hP hS hl
  obtain ⟨hx, hb, hml, hr, hlk, hown, hts, ⟨hK, hNk⟩, hi, hdf, hdl⟩ := C
  obtain ⟨C1, T1, ⟨hc, hk, hin, hw⟩, ⟨ty1, hty1⟩, hnm, hfin, hd1⟩ := hF
  have e1 : (.int (Int32.ofInt x) : Value) = sv S G.2.2.2.2 (up P o (f : Int) x) o f := by unfold sv; rw [hft, up_same]; rfl
  refine va_put (a := G.2.2.2.2 o) (rest := gs G st) (v := .int (Int32.ofInt x)) hx hb hts hin ty1 hty1 hnm hown hK hP (WL_D hi) hS o (WLO ho hsh) hc f hk (hts _ hw) (fun _ q => q) hfin hd1 (rfl) (rfl) (by simpa using hk) hd (fun H1 locs1 hP1 _ hS1 => ?_)
  have e2 : (WL S G P).set o (G.2.2.2.2 o, .inr (ci, ((List.range N).map (sv S G.2.2.2.2 P o)).set f (.int (Int32.ofInt x)))) = WL S G (up P o (f : Int) x) := WL_set ho (by rw [enO hsh, sv_set hk e1])
  rw [e2] at hP1
  exact k p e R s m args below meth c H1 locs1 la ⟨hx, hb, hml, hr, hlk, hown, hts, ⟨hK, hNk⟩, hi, hdf, hdl⟩ hP1 hS1 hl

theorem g_putZ {o f idx ci N : Nat} {x : Int} (hF : PF i.1.cls idx ci f N .boolean) (ho : o < S.1) (hsh : S.2.2.1 (S.2.1 o) = (0, ci, N)) (hft : S.2.2.2.1 (S.2.1 o) f = 0) (hz : x = 0 ∨ x = 1) (hd : decode i.2.1 pc = .ok (.putfield idx, 3)) (k : Go S G d i (pc + 3) ls st (up P o (f : Int) x) Q) : Go S G d i pc ls ((vI x) :: vR o :: st) P Q := by
  intro p e R s m args below meth c H locs la C hP hS hl
  obtain ⟨hx, hb, hml, hr, hlk, hown, hts, ⟨hK, hNk⟩, hi, hdf, hdl⟩ := C
  obtain ⟨C1, T1, ⟨hc, hk, hin, hw⟩, ⟨ty1, hty1⟩, hnm, hfin, hd1⟩ := hF
  have e1 : (.int (Int32.ofInt x) : Value) = sv S G.2.2.2.2 (up P o (f : Int) x) o f := by unfold sv; rw [hft, up_same]; rfl
  refine va_put (a := G.2.2.2.2 o) (rest := gs G st) (v := .int (Int32.ofInt x)) hx hb hts hin ty1 hty1 hnm hown hK hP (WL_D hi) hS o (WLO ho hsh) hc f hk (hts _ hw) (fun _ q => q) hfin hd1 (by rcases hz with rfl | rfl <;> rfl) (by rcases hz with rfl | rfl <;> rfl) (by simpa using hk) hd (fun H1 locs1 hP1 _ hS1 => ?_)
  have e2 : (WL S G P).set o (G.2.2.2.2 o, .inr (ci, ((List.range N).map (sv S G.2.2.2.2 P o)).set f (.int (Int32.ofInt x)))) = WL S G (up P o (f : Int) x) := WL_set ho (by rw [enO hsh, sv_set hk e1])
  rw [e2] at hP1
  exact k p e R s m args below meth c H1 locs1 la ⟨hx, hb, hml, hr, hlk, hown, hts, ⟨hK, hNk⟩, hi, hdf, hdl⟩ hP1 hS1 hl

theorem g_putL {o f idx ci N : Nat} {x : Int} (hF : PF i.1.cls idx ci f N .long) (ho : o < S.1) (hsh : S.2.2.1 (S.2.1 o) = (0, ci, N)) (hft : S.2.2.2.1 (S.2.1 o) f = 1) (hd : decode i.2.1 pc = .ok (.putfield idx, 3)) (k : Go S G d i (pc + 3) ls st (up P o (f : Int) x) Q) : Go S G d i pc ls ((vL x) :: vR o :: st) P Q := by
  intro p e R s m args below meth c H locs la C hP hS hl
  obtain ⟨hx, hb, hml, hr, hlk, hown, hts, ⟨hK, hNk⟩, hi, hdf, hdl⟩ := C
  obtain ⟨C1, T1, ⟨hc, hk, hin, hw⟩, ⟨ty1, hty1⟩, hnm, hfin, hd1⟩ := hF
  have e1 : (.long (Int64.ofInt x) : Value) = sv S G.2.2.2.2 (up P o (f : Int) x) o f := by unfold sv; rw [hft, up_same]; rfl
  refine va_put (a := G.2.2.2.2 o) (rest := gs G st) (v := .long (Int64.ofInt x)) hx hb hts hin ty1 hty1 hnm hown hK hP (WL_D hi) hS o (WLO ho hsh) hc f hk (hts _ hw) (fun _ q => q) hfin hd1 (rfl) (rfl) (by simpa using hk) hd (fun H1 locs1 hP1 _ hS1 => ?_)
  have e2 : (WL S G P).set o (G.2.2.2.2 o, .inr (ci, ((List.range N).map (sv S G.2.2.2.2 P o)).set f (.long (Int64.ofInt x)))) = WL S G (up P o (f : Int) x) := WL_set ho (by rw [enO hsh, sv_set hk e1])
  rw [e2] at hP1
  exact k p e R s m args below meth c H1 locs1 la ⟨hx, hb, hml, hr, hlk, hown, hts, ⟨hK, hNk⟩, hi, hdf, hdl⟩ hP1 hS1 hl

theorem g_putR {ty : FieldType} {o f idx ci N : Nat} {x : Nat} (hF : PF i.1.cls idx ci f N ty) (ho : o < S.1) (hsh : S.2.2.1 (S.2.1 o) = (0, ci, N)) (hft : S.2.2.2.1 (S.2.1 o) f = 2) (hty : narrow ty (.ref (G.2.2.2.2 x)) = .ref (G.2.2.2.2 x) ∧ fits ty (.ref (G.2.2.2.2 x)) = true) (hd : decode i.2.1 pc = .ok (.putfield idx, 3)) (k : Go S G d i (pc + 3) ls st (up P o (f : Int) (x : Int)) Q) : Go S G d i pc ls ((vR x) :: vR o :: st) P Q := by
  intro p e R s m args below meth c H locs la C hP hS hl
  obtain ⟨hx, hb, hml, hr, hlk, hown, hts, ⟨hK, hNk⟩, hi, hdf, hdl⟩ := C
  obtain ⟨C1, T1, ⟨hc, hk, hin, hw⟩, ⟨ty1, hty1⟩, hnm, hfin, hd1⟩ := hF
  have e1 : (.ref (G.2.2.2.2 x) : Value) = sv S G.2.2.2.2 (up P o (f : Int) (x : Int)) o f := by unfold sv; rw [hft, up_same]; rfl
  refine va_put (a := G.2.2.2.2 o) (rest := gs G st) (v := .ref (G.2.2.2.2 x)) hx hb hts hin ty1 hty1 hnm hown hK hP (WL_D hi) hS o (WLO ho hsh) hc f hk (hts _ hw) (fun _ q => q) hfin hd1 (hty.1) (hty.2) (by simpa using hk) hd (fun H1 locs1 hP1 _ hS1 => ?_)
  have e2 : (WL S G P).set o (G.2.2.2.2 o, .inr (ci, ((List.range N).map (sv S G.2.2.2.2 P o)).set f (.ref (G.2.2.2.2 x)))) = WL S G (up P o (f : Int) (x : Int)) := WL_set ho (by rw [enO hsh, sv_set hk e1])
  rw [e2] at hP1
  exact k p e R s m args below meth c H1 locs1 la ⟨hx, hb, hml, hr, hlk, hown, hts, ⟨hK, hNk⟩, hi, hdf, hdl⟩ hP1 hS1 hl

theorem g_iald {o ci n : Nat} {z : Int} (ho : o < S.1) (hsh : S.2.2.1 (S.2.1 o) = (1, ci, n)) (hty : S.2.2.2.2.2[0]? = some .int) (hn : n ≤ 2147483647) (hz : 0 ≤ z ∧ z < (n : Int)) (hd : decode i.2.1 pc = .ok (.iaload, 1)) (k : Go S G d i (pc + 1) ls (vI (P o z) :: st) P Q) : Go S G d i pc ls (vI z :: vR o :: st) P Q := by
  intro p e R s m args below meth c H locs la C hP hS hl
  obtain ⟨hx, hb, hml, hr, hlk, hown, hts, ⟨hK, hNk⟩, hi, hdf, hdl⟩ := C
  have e1 : (z.toNat : Int) = z := Int.toNat_of_nonneg hz.1
  refine va_iald (a := G.2.2.2.2 o) (rest := gs G st) hx hb hK hP o 0 (WLI ho hsh) (tysG_get hty) (i := Int32.ofInt z) (oI_in hz hn) hd ?_
  rw [oI_nat ⟨hz.1, by omega⟩, e1]
  exact k p e R s m args below meth c H locs la ⟨hx, hb, hml, hr, hlk, hown, hts, ⟨hK, hNk⟩, hi, hdf, hdl⟩ hP hS hl

theorem g_lald {o ci n : Nat} {z : Int} (ho : o < S.1) (hsh : S.2.2.1 (S.2.1 o) = (2, ci, n)) (hty : S.2.2.2.2.2[1]? = some .long) (hn : n ≤ 2147483647) (hz : 0 ≤ z ∧ z < (n : Int)) (hd : decode i.2.1 pc = .ok (.laload, 1)) (k : Go S G d i (pc + 1) ls (vL (P o z) :: st) P Q) : Go S G d i pc ls (vI z :: vR o :: st) P Q := by
  intro p e R s m args below meth c H locs la C hP hS hl
  obtain ⟨hx, hb, hml, hr, hlk, hown, hts, ⟨hK, hNk⟩, hi, hdf, hdl⟩ := C
  have e1 : (z.toNat : Int) = z := Int.toNat_of_nonneg hz.1
  refine va_lald (a := G.2.2.2.2 o) (rest := gs G st) hx hb hK hP o 1 (WLJ ho hsh) (tysG_get hty) (i := Int32.ofInt z) (oI_in hz hn) hd ?_
  rw [oI_nat ⟨hz.1, by omega⟩, e1]
  exact k p e R s m args below meth c H locs la ⟨hx, hb, hml, hr, hlk, hown, hts, ⟨hK, hNk⟩, hi, hdf, hdl⟩ hP hS hl

theorem g_aald {o t n : Nat} {ty : FieldType} {z : Int} (ho : o < S.1) (hsh : S.2.2.1 (S.2.1 o) = (3, t, n)) (hty : S.2.2.2.2.2[t]? = some ty) (hre : ty.isReference = true) (hn : n ≤ 2147483647) (hz : 0 ≤ z ∧ z < (n : Int)) (hd : decode i.2.1 pc = .ok (.aaload, 1)) (k : Go S G d i (pc + 1) ls (vR (S.2.2.2.2.1 o z.toNat) :: st) P Q) : Go S G d i pc ls (vI z :: vR o :: st) P Q := by
  intro p e R s m args below meth c H locs la C hP hS hl
  obtain ⟨hx, hb, hml, hr, hlk, hown, hts, ⟨hK, hNk⟩, hi, hdf, hdl⟩ := C
  have hlt : z.toNat < n := by omega
  have hin : vp_in (Int32.ofInt z) n := oI_in hz hn
  have e0 : (Int32.ofInt z).toNatClampNeg = z.toNat := oI_nat ⟨hz.1, by omega⟩
  exact W.aald (a := G.2.2.2.2 o) (j := Int32.ofInt z) (v := va_rf (some (G.2.2.2.2 (S.2.2.2.2.1 o z.toNat)))) (ty := ty) (rest := gs G st) hx hb (show H[G.2.2.2.2 o]? = some (vp_cell _ _) from hP o _ (WLR ho hsh)) ((hK.2 t _ (tysG_get hty)).1 n (fun j => va_rf (some (G.2.2.2.2 (S.2.2.2.2.1 o j))))) hre (fun q => by cases q) (by show ¬ (_ ∨ (arrV _ _ _).slots.size ≤ _); rw [arrV_size]; exact hin) (by show (arrV _ _ _).slots[_]? = _; rw [e0, arrV_read _ _ hlt]) rfl rfl hd (k p e R s m args below meth c H locs la ⟨hx, hb, hml, hr, hlk, hown, hts, ⟨hK, hNk⟩, hi, hdf, hdl⟩ hP hS hl)

theorem g_iast {o ci n : Nat} {z x : Int} (ho : o < S.1) (hsh : S.2.2.1 (S.2.1 o) = (1, ci, n)) (hty : S.2.2.2.2.2[0]? = some .int) (hn : n ≤ 2147483647) (hz : 0 ≤ z ∧ z < (n : Int)) (hd : decode i.2.1 pc = .ok (.iastore, 1)) (k : Go S G d i (pc + 1) ls st (up P o z x) Q) : Go S G d i pc ls (vI x :: vI z :: vR o :: st) P Q := by
  intro p e R s m args below meth c H locs la C hP hS hl
  obtain ⟨hx, hb, hml, hr, hlk, hown, hts, ⟨hK, hNk⟩, hi, hdf, hdl⟩ := C
  have e1 : (z.toNat : Int) = z := Int.toNat_of_nonneg hz.1
  refine va_iast (a := G.2.2.2.2 o) (rest := gs G st) (x := Int32.ofInt x) hx hb hK hP (WL_D hi) hS o 0 (WLI ho hsh) (tysG_get hty) (i := Int32.ofInt z) (oI_in hz hn) hd (fun H1 locs1 hP1 _ hS1 => ?_)
  have e2 : upd (fun (j : Nat) => Int32.ofInt (P o (j : Int))) (Int32.ofInt z).toNatClampNeg (Int32.ofInt x) = fun (j : Nat) => Int32.ofInt (up P o z x o (j : Int)) := by
    rw [oI_nat ⟨hz.1, by omega⟩]
    funext j
    unfold upd
    by_cases hj : j = z.toNat
    · rw [if_pos hj, hj, e1, up_same]
    · rw [if_neg hj, up_k (fun q => hj (by omega))]
  rw [e2, WL_set (z := x) (k := z) ho (by rw [enI hsh])] at hP1
  exact k p e R s m args below meth c H1 locs1 la ⟨hx, hb, hml, hr, hlk, hown, hts, ⟨hK, hNk⟩, hi, hdf, hdl⟩ hP1 hS1 hl

theorem g_last {o ci n : Nat} {z x : Int} (ho : o < S.1) (hsh : S.2.2.1 (S.2.1 o) = (2, ci, n)) (hty : S.2.2.2.2.2[1]? = some .long) (hn : n ≤ 2147483647) (hz : 0 ≤ z ∧ z < (n : Int)) (hd : decode i.2.1 pc = .ok (.lastore, 1)) (k : Go S G d i (pc + 1) ls st (up P o z x) Q) : Go S G d i pc ls (vL x :: vI z :: vR o :: st) P Q := by
  intro p e R s m args below meth c H locs la C hP hS hl
  obtain ⟨hx, hb, hml, hr, hlk, hown, hts, ⟨hK, hNk⟩, hi, hdf, hdl⟩ := C
  have e1 : (z.toNat : Int) = z := Int.toNat_of_nonneg hz.1
  refine va_last (a := G.2.2.2.2 o) (rest := gs G st) (x := Int64.ofInt x) hx hb hK hP (WL_D hi) hS o 1 (WLJ ho hsh) (tysG_get hty) (i := Int32.ofInt z) (oI_in hz hn) hd (fun H1 locs1 hP1 _ hS1 => ?_)
  have e2 : vp_updL (fun (j : Nat) => Int64.ofInt (P o (j : Int))) (Int32.ofInt z).toNatClampNeg (Int64.ofInt x) = fun (j : Nat) => Int64.ofInt (up P o z x o (j : Int)) := by
    rw [oI_nat ⟨hz.1, by omega⟩]
    funext j
    unfold vp_updL
    by_cases hj : j = z.toNat
    · rw [if_pos hj, hj, e1, up_same]
    · rw [if_neg hj, up_k (fun q => hj (by omega))]
  rw [e2, WL_set (z := x) (k := z) ho (by rw [enJ hsh])] at hP1
  exact k p e R s m args below meth c H1 locs1 la ⟨hx, hb, hml, hr, hlk, hown, hts, ⟨hK, hNk⟩, hi, hdf, hdl⟩ hP1 hS1 hl

theorem g_alen {o ci n : Nat} (ho : o < S.1) (hsh : S.2.2.1 (S.2.1 o) = (1, ci, n)) (hty : S.2.2.2.2.2[0]? = some .int) (hd : decode i.2.1 pc = .ok (.arraylength, 1)) (k : Go S G d i (pc + 1) ls (vI (n : Int) :: st) P Q) : Go S G d i pc ls (vR o :: st) P Q := by
  intro p e R s m args below meth c H locs la C hP hS hl
  obtain ⟨hx, hb, hml, hr, hlk, hown, hts, ⟨hK, hNk⟩, hi, hdf, hdl⟩ := C
  exact va_alen (a := G.2.2.2.2 o) (rest := gs G st) (v := Int32.ofInt (n : Int)) hx hb hK hP o 0 (WLI ho hsh) (tysG_get hty) (Int32.ofInt_eq_ofNat).symm hd (k p e R s m args below meth c H locs la ⟨hx, hb, hml, hr, hlk, hown, hts, ⟨hK, hNk⟩, hi, hdf, hdl⟩ hP hS hl)

theorem g_alenR {o t n : Nat} {ty : FieldType} (ho : o < S.1) (hsh : S.2.2.1 (S.2.1 o) = (3, t, n)) (hty : S.2.2.2.2.2[t]? = some ty) (hd : decode i.2.1 pc = .ok (.arraylength, 1)) (k : Go S G d i (pc + 1) ls (vI (n : Int) :: st) P Q) : Go S G d i pc ls (vR o :: st) P Q := by
  intro p e R s m args below meth c H locs la C hP hS hl
  obtain ⟨hx, hb, hml, hr, hlk, hown, hts, ⟨hK, hNk⟩, hi, hdf, hdl⟩ := C
  exact va_alen (a := G.2.2.2.2 o) (rest := gs G st) (v := Int32.ofInt (n : Int)) hx hb hK hP o t (WLR ho hsh) (tysG_get hty) (Int32.ofInt_eq_ofNat).symm hd (k p e R s m args below meth c H locs la ⟨hx, hb, hml, hr, hlk, hown, hts, ⟨hK, hNk⟩, hi, hdf, hdl⟩ hP hS hl)

theorem g_retI {x : Int} (hd : decode i.2.1 pc = .ok (.ireturn, 1)) (hrt : i.2.2.2 = some .int) (hq : Q (some (vI x)) P) : Go S G d i pc ls [(vI x)] P Q := by
  intro p e R s m args below meth c H locs la C hP hS hl
  obtain ⟨hx, hb, hml, hr, hlk, hown, hts, ⟨hK, hNk⟩, hi, hdf, hdl⟩ := C
  exact W.iret (v := Int32.ofInt x) hx hb (hr.trans hrt) (fun t ht _ => ⟨⟨some (vI x), P, rfl, hq, by rw [ht]; exact hP⟩, hS.F ht⟩) hS.2.2 hd hlk

theorem g_retL {x : Int} (hd : decode i.2.1 pc = .ok (.lreturn, 1)) (hrt : i.2.2.2 = some .long) (hq : Q (some (vL x)) P) : Go S G d i pc ls [(vL x)] P Q := by
  intro p e R s m args below meth c H locs la C hP hS hl
  obtain ⟨hx, hb, hml, hr, hlk, hown, hts, ⟨hK, hNk⟩, hi, hdf, hdl⟩ := C
  exact W.lret (v := Int64.ofInt x) hx hb (hr.trans hrt) (fun t ht _ => ⟨⟨some (vL x), P, rfl, hq, by rw [ht]; exact hP⟩, hS.F ht⟩) hS.2.2 hd hlk

theorem g_retZ {x : Int} (hd : decode i.2.1 pc = .ok (.ireturn, 1)) (hrt : i.2.2.2 = some .boolean) (hz : x = 0 ∨ x = 1) (hq : Q (some (vI x)) P) : Go S G d i pc ls [vI x] P Q := by
  intro p e R s m args below meth c H locs la C hP hS hl
  obtain ⟨hx, hb, hml, hr, hlk, hown, hts, ⟨hK, hNk⟩, hi, hdf, hdl⟩ := C
  exact W.zret (v := Int32.ofInt x) hx hb (hr.trans hrt) (by rcases hz with rfl | rfl <;> rfl) (fun t ht _ => ⟨⟨some (vI x), P, rfl, hq, by rw [ht]; exact hP⟩, hS.F ht⟩) hS.2.2 hd hlk

theorem g_retV (hd : decode i.2.1 pc = .ok (.return_, 1)) (hrt : i.2.2.2 = none) (hq : Q none P) : Go S G d i pc ls [] P Q := by
  intro p e R s m args below meth c H locs la C hP hS hl
  obtain ⟨hx, hb, hml, hr, hlk, hown, hts, ⟨hK, hNk⟩, hi, hdf, hdl⟩ := C
  exact W.vret hx hb (hr.trans hrt) (fun t ht _ => ⟨⟨none, P, rfl, hq, by rw [ht]; exact hP⟩, hS.F ht⟩) hS.2.2 hd hlk

theorem g_retR {x : Nat} {rt : FieldType} (hd : decode i.2.1 pc = .ok (.areturn, 1)) (hrt : i.2.2.2 = some rt) (hrr : (∃ n, rt = .object n) ∨ ∃ t, rt = .array t) (hq : Q (some (vR x)) P) : Go S G d i pc ls [vR x] P Q := by
  intro p e R s m args below meth c H locs la C hP hS hl
  obtain ⟨hx, hb, hml, hr, hlk, hown, hts, ⟨hK, hNk⟩, hi, hdf, hdl⟩ := C
  exact W.aret (v := .ref (G.2.2.2.2 x)) hx hb (hr.trans hrt) hrr (Or.inr ⟨_, rfl⟩) (fun t ht _ => ⟨⟨some (vR x), P, rfl, hq, by rw [ht]; exact hP⟩, hS.F ht⟩) hS.2.2 hd hlk

theorem go_blind {av : List Value} {B : State → Prop} (hB : ∀ (U : State) (g : JFrame) (mk : MethodId) (a : Array Value), B U → B (U.calling g mk a)) : FrameBlind (va_Pc av B) := fun a U g mk q => ⟨q.1, hB U g mk a q.2⟩
theorem pre_blind {av : List Value} : FrameBlind (va_Pc av (fun U => ptG S G P U.heap ∧ kG S G U ∧ injG S G)) := go_blind fun U g mk a q => ⟨q.1, ⟨va_K.moved (u := U) (U := U.calling g mk a) (Vm.Alike.refl U.vm) q.2.1.1, nX.same (u := U) (U := U.calling g mk a) rfl q.2.1.2⟩, q.2.2⟩
/-- behind a call -/
theorem W_callg {p : Program} {e : Env} {R : Room} {s : State} {m : MethodId} {args : Array Value} {below : List Frame} {meth : Method} {c : Code} {H : Heap} {locs : List Loc} {Q0 : State → Prop} {la : Array Slot} {st0 rest : List Value} {a : Array Value} {Q1 : Option PV → PH → Prop} (hr : va_Run p G.1 e R s m args below meth c H locs 0 0 0 0 (F0 m pc la st0) rest (Qg S G Q1 a) (AA S G)) (hS : va_S (AA S G) s.heap H locs)
    (kk : ∀ (v : Option PV) (P1 : PH) (H1 : Heap) (locs1 : List Loc), Q1 v P1 → ptG S G P1 H1 → va_S (AA S G) s.heap H1 locs1 → W p G.1 e R s m args below meth c H1 locs1 0 0 Q0 (F0 m (pc + 3) la ((v.map (gv G.2.2.2.2)).toList ++ rest))) : W p G.1 e R s m args below meth c H locs 0 0 Q0 (F0 m pc la st0) := by
  intro T hT X
  obtain ⟨v, st₀, t, T', L, h0, X', hL, e1, e2, ⟨⟨v1, P1, hv, hq, hp⟩, hz, hk⟩, st⟩ := hr T hT X
  have hv : v = v1.map (gv G.2.2.2.2) := Outcome.returned.inj hv
  subst hv
  rw [h0] at hz hk
  obtain ⟨t2, a1, b1⟩ := kk v1 P1 T'.heap (locs ++ L) hq (by rw [e1]; exact hp) ⟨Nat.le_trans hS.1 (by rw [e1]; exact hz), fun q h1 h2 => by rw [e1, hk q (Nat.lt_of_lt_of_le h1 hS.1) h2]; exact hS.2.1 q h1 h2, fun q hq => by
      rcases List.mem_append.mp hq with h | h
      · exact hS.2.2 q h
      · exact hL q h⟩ T' rfl X'
  exact ⟨t2, st t2 a1, b1⟩
/-- what a call wants of the callee j with n parameters -/
def CFV (j : MI) (n : Nat) : Prop := Cond.instanceMethod j.1 ∈ WT ∧ Cond.selects j.1.cls j.1 j.1 ∈ WT ∧ Cond.initialized j.1.cls ∈ WT ∧ Cond.code j.1 j.2.1 j.2.2.1 j.2.2.2 ∈ WT ∧ (j.1.cls ≠ "java/lang/invoke/MethodHandle" ∧ j.1.cls ≠ "java/lang/invoke/VarHandle" ∧ (parseMethodDescriptor j.1.desc).map (fun d => d.parameters.length) = some n) ∧ j.2.2.1 ≤ 41
def CFS (j : MI) (n : Nat) : Prop := Cond.static j.1 ∈ WT ∧ Cond.initialized j.1.cls ∈ WT ∧ Cond.code j.1 j.2.1 j.2.2.1 j.2.2.2 ∈ WT ∧ (j.1.cls ≠ "java/lang/invoke/MethodHandle" ∧ j.1.cls ≠ "java/lang/invoke/VarHandle" ∧ (parseMethodDescriptor j.1.desc).map (fun d => d.parameters.length) = some n) ∧ j.2.2.1 ≤ 41
theorem gs_cat {st : List PV} : ((gs G st).map fun v => v.category).sum = (st.map fun v => if v.1 == 1 then 2 else 1).sum := by
  unfold gs
  rw [List.map_map]
  congr 1
  apply List.map_congr_left
  intro v _
  simp only [Function.comp]
  by_cases h : (v.1 == 1) = true
  · rw [gv_cat2 h, if_pos h]
  · have h : (v.1 == 1) = false := by simpa using h
    rw [gv_cat1 h, h]
    rfl
theorem g_callV {j : MI} {av st0 : List PV} {o n d1 idx ci N : Nat} {C1 : String} {T1 : u_T} {Q1 : Option PV → PH → Prop} (hC : Ct S G d1 j (vR o :: av) P Q1) (hF : CFV j n) (hw : Cond.methodLink i.1.cls idx j.1 ∈ WT) (hn : av.length = n) (ho : o < S.1) (hsh : S.2.2.1 (S.2.1 o) = (0, ci, N)) (hcl : vwCl[ci]? = some (C1, T1, N)) (hC1 : j.1.cls = C1) (hcat : (st.map fun v => if v.1 == 1 then 2 else 1).sum ≤ 8) (hdp : d1 + 1 ≤ d) (hst : st0 = av.reverse ++ vR o :: st) (hd : decode i.2.1 pc = .ok (.invokevirtual idx, 3)) (k : ∀ (v : Option PV) (P1 : PH), Q1 v P1 → Go S G d i (pc + 3) ls (v.toList ++ st) P1 Q) : Go S G d i pc ls st0 P Q := by
  intro p e R s m args below meth c H locs la C hP hS hl
  obtain ⟨hx, hb, hml, hr, hlk, hown, hts, ⟨hK, hNk⟩, hi, hdf, hdl⟩ := C
  obtain ⟨f1, f2, f3, f4, f5, f6⟩ := hF
  have hlen : (av.map (gv G.2.2.2.2)).length = n := by rw [List.length_map]; exact hn
  have hstk : gs G st0 = (av.map (gv G.2.2.2.2)).reverse ++ .ref (G.2.2.2.2 o) :: gs G st := by
    rw [hst]
    unfold gs
    rw [List.map_append, List.map_reverse]
    rfl
  refine W_callg (va_runV (As := av.map (gv G.2.2.2.2)) (rest := gs G st) ⟨hx, hb, hml, hown, hts⟩ hC (cwV n hts (gV hw f1 f2 f3 f4) rfl rfl rfl ⟨rfl, f5⟩ ⟨by show d1 + 1 ≤ R.frames; omega, by show 8 + (j.2.2.1 + 11) + 60 * d1 ≤ R.locals; omega⟩) ⟨pre_blind, ?_, fun U hU hW => ⟨rfl, by rw [hU]; exact hP, ⟨va_K.moved hW.alike hK, nX.warm hW hNk⟩, hi⟩⟩ rfl hlen hl.1 hstk (lv_room (by rw [gs_cat]; exact hcat)) hd ⟨Nat.zero_le _, Nat.zero_le _⟩) hS (fun v P1 H1 locs1 hq hP1 hS1 => ?_)
  · have h1 := va_recv hK hP hcl (WLO ho hsh)
    rw [hC1]
    exact h1
  · have e1 : gs G (v.toList ++ st) = (v.map (gv G.2.2.2.2)).toList ++ gs G st := by cases v <;> rfl
    rw [← e1]
    exact k v P1 hq p e R s m args below meth c H1 locs1 la ⟨hx, hb, hml, hr, hlk, hown, hts, ⟨hK, hNk⟩, hi, hdf, hdl⟩ hP1 hS1 hl

theorem g_callS {j : MI} {av st0 : List PV} {n d1 idx : Nat} {Q1 : Option PV → PH → Prop} (hC : Ct S G d1 j av P Q1) (hF : CFS j n) (hw : Cond.methodLink i.1.cls idx j.1 ∈ WT) (hn : av.length = n) (hcat : (st.map fun v => if v.1 == 1 then 2 else 1).sum ≤ 8) (hdp : d1 + 1 ≤ d) (hst : st0 = av.reverse ++ st) (hd : decode i.2.1 pc = .ok (.invokestatic idx, 3)) (k : ∀ (v : Option PV) (P1 : PH), Q1 v P1 → Go S G d i (pc + 3) ls (v.toList ++ st) P1 Q) : Go S G d i pc ls st0 P Q := by
  intro p e R s m args below meth c H locs la C hP hS hl
  obtain ⟨hx, hb, hml, hr, hlk, hown, hts, ⟨hK, hNk⟩, hi, hdf, hdl⟩ := C
  obtain ⟨f1, f2, f3, f4, f5⟩ := hF
  have hlen : (av.map (gv G.2.2.2.2)).length = n := by rw [List.length_map]; exact hn
  have hstk : gs G st0 = (av.map (gv G.2.2.2.2)).reverse ++ gs G st := by
    rw [hst]
    unfold gs
    rw [List.map_append, List.map_reverse]
  refine W_callg (va_runS (As := av.map (gv G.2.2.2.2)) (rest := gs G st) ⟨hx, hb, hml, hown, hts⟩ hC (va_cwS n hts (gT hw f1 f2 f3) rfl rfl rfl f4 ⟨by show d1 + 1 ≤ R.frames; omega, by show 8 + (j.2.2.1 + 11) + 60 * d1 ≤ R.locals; omega⟩) ⟨pre_blind, fun U hU hW => ⟨rfl, by rw [hU]; exact hP, ⟨va_K.moved hW.alike hK, nX.warm hW hNk⟩, hi⟩⟩ rfl hlen hl.1 hstk (lv_room (by rw [gs_cat]; exact hcat)) hd ⟨Nat.zero_le _, Nat.zero_le _⟩) hS (fun v P1 H1 locs1 hq hP1 hS1 => ?_)
  have e1 : gs G (v.toList ++ st) = (v.map (gv G.2.2.2.2)).toList ++ gs G st := by cases v <;> rfl
  rw [← e1]
  exact k v P1 hq p e R s m args below meth c H1 locs1 la ⟨hx, hb, hml, hr, hlk, hown, hts, ⟨hK, hNk⟩, hi, hdf, hdl⟩ hP1 hS1 hl

theorem g_callSN {j : MI} {av st0 : List PV} {n d1 idx : Nat} {host : String} {Q1 : Option PV → PH → Prop} (hC : Ct S G d1 j av P Q1) (hF : CFS j n) (hw : ∀ U : State, nX U → va_Nw (.methodLinkNest i.1.cls idx j.1 host) U) (hn : av.length = n) (hcat : (st.map fun v => if v.1 == 1 then 2 else 1).sum ≤ 8) (hdp : d1 + 1 ≤ d) (hst : st0 = av.reverse ++ st) (hd : decode i.2.1 pc = .ok (.invokestatic idx, 3)) (k : ∀ (v : Option PV) (P1 : PH), Q1 v P1 → Go S G d i (pc + 3) ls (v.toList ++ st) P1 Q) : Go S G d i pc ls st0 P Q := by
  intro p e R s m args below meth c H locs la C hP hS hl
  obtain ⟨hx, hb, hml, hr, hlk, hown, hts, ⟨hK, hNk⟩, hi, hdf, hdl⟩ := C
  obtain ⟨f1, f2, f3, f4, f5⟩ := hF
  have hlen : (av.map (gv G.2.2.2.2)).length = n := by rw [List.length_map]; exact hn
  have hstk : gs G st0 = (av.map (gv G.2.2.2.2)).reverse ++ gs G st := by
    rw [hst]
    unfold gs
    rw [List.map_append, List.map_reverse]
  refine W_callg (va_runSN (As := av.map (gv G.2.2.2.2)) (rest := gs G st) ⟨hx, hb, hml, hown, hts⟩ hC ⟨va_cnB n hts (gI f3) rfl rfl rfl (hw s hNk) (hts _ f2) f4 ⟨by show d1 + 1 ≤ R.frames; omega, by show 8 + (j.2.2.1 + 11) + 60 * d1 ≤ R.locals; omega⟩, hts _ f1, trivial⟩ ⟨pre_blind, fun U hU hW => ⟨rfl, by rw [hU]; exact hP, ⟨va_K.moved hW.alike hK, nX.warm hW hNk⟩, hi⟩⟩ rfl hlen hl.1 hstk (lv_room (by rw [gs_cat]; exact hcat)) hd ⟨Nat.zero_le _, Nat.zero_le _⟩) hS (fun v P1 H1 locs1 hq hP1 hS1 => ?_)
  have e1 : gs G (v.toList ++ st) = (v.map (gv G.2.2.2.2)).toList ++ gs G st := by cases v <;> rfl
  rw [← e1]
  exact k v P1 hq p e R s m args below meth c H1 locs1 la ⟨hx, hb, hml, hr, hlk, hown, hts, ⟨hK, hNk⟩, hi, hdf, hdl⟩ hP1 hS1 hl

/-- the locals at the entry -/
def ga : Nat → List PV → List (Nat × PV)
  | _, [] => []
  | n, v :: vs => (n, v) :: ga (if v.1 == 1 then n + 2 else n + 1) vs
theorem ga_args (n : Nat) (av : List PV) : lv_args n (av.map (gv G.2.2.2.2)) = gl G (ga n av) := by
  induction av generalizing n with
  | nil => rfl
  | cons v vs ih =>
    show (n, gv G.2.2.2.2 v) :: lv_args (if (gv G.2.2.2.2 v).category = 2 then n + 2 else n + 1) (vs.map (gv G.2.2.2.2)) = (n, gv G.2.2.2.2 v) :: gl G (ga (if v.1 == 1 then n + 2 else n + 1) vs)
    have h := gv_cat G.2.2.2.2 v
    by_cases hv : (v.1 == 1) = true
    · rw [hv]
      rw [hv] at h
      rw [if_pos (by simpa using h), ih]
      rfl
    · have hv : (v.1 == 1) = false := by simpa using hv
      rw [hv]
      rw [hv] at h
      rw [if_neg (by simpa using h), ih]
      rfl
theorem sl_len (av : List PV) : (lg_sl (av.map (gv G.2.2.2.2))).length = (av.map fun v => if v.1 == 1 then 2 else 1).sum := by
  induction av with
  | nil => rfl
  | cons v vs ih =>
    have e : lg_sl ((v :: vs).map (gv G.2.2.2.2)) = (if (gv G.2.2.2.2 v).category = 2 then [Slot.val (gv G.2.2.2.2 v), .second] else [.val (gv G.2.2.2.2 v)]) ++ lg_sl (vs.map (gv G.2.2.2.2)) := by simp [lg_sl]
    rw [e, List.length_append, ih, List.map_cons, List.sum_cons]
    have h := gv_cat G.2.2.2.2 v
    by_cases hv : (v.1 == 1) = true
    · rw [hv] at h
      rw [if_pos (by simpa using h), if_pos hv]
      rfl
    · have hv : (v.1 == 1) = false := by simpa using hv
      rw [hv] at h
      rw [if_neg (by simpa using h), hv]
      rfl
/-- a contract out of the walk of its body -/
theorem Ct.of {av : List PV} {l0 : List (Nat × PV)} (hy : plainName i.1.cls = true) (hl0 : ga 0 av = l0) (hsz : (av.map fun v => if v.1 == 1 then 2 else 1).sum ≤ i.2.2.1) (k : Go S G d i 0 l0 [] P Q) : Ct S G d i av P Q := by
  refine Met.ofW (cc := i.2.1) (maxL := i.2.2.1) (ret := i.2.2.2) hy rfl ?_
  intro p e s m args below meth c s₁ B hml hv
  obtain ⟨rfl, hP, hK, hi⟩ := hv
  have hx := B.exec
  have hb := B.bytes
  have hr := B.returns
  have hts1 := atoms_spec (ws := (.code i.1 i.2.1 i.2.2.1 i.2.2.2 :: WT)) B.pre
  have hts : ∀ w ∈ WT, w.before (av.map (gv G.2.2.2.2)).toArray s = true := fun w h => hts1 w (List.mem_cons_of_mem _ h)
  have hown : s.vm.findClass i.1.cls = some m.cls := findClass_of_methodNamed B.named
  have hl := lv_entry (av.map (gv G.2.2.2.2)) (n := i.2.2.1) (by rw [sl_len]; exact hsz)
  rw [lg_entry_eq]
  rw [ga_args, hl0] at hl
  exact k p e _ s m _ below meth c s.heap [] _ ⟨hx, hb, hml, hr, B.notSynchronized, hown, hts, hK, hi, Nat.le_refl _, Nat.le_refl _⟩ hP va_S.rf hl
/-- a weaker end -/
theorem Ct.mono {av : List PV} {Q2 : Option PV → PH → Prop} (h : Ct S G d i av P Q) (hq : ∀ v P1, Q v P1 → Q2 v P1) : Ct S G d i av P Q2 := by
  intro p e h1 h2 h3 s m args below h4 h5 h6 h7
  obtain ⟨n, o, k1, k2, k3, ⟨⟨⟨v, P1, a1, a2, a3⟩, a4⟩, a5⟩⟩ := h p e h1 h2 h3 s m args below h4 h5 h6 h7
  exact ⟨n, o, k1, k2, k3, ⟨⟨⟨v, P1, a1, hq v P1 a2, a3⟩, a4⟩, a5⟩⟩
end GO
end
section
/-! What is known of the machine's bits, as ints. -/
theorem i32_and_r {a b : Int32} (h : 0 ≤ b.toInt) : 0 ≤ (a &&& b).toInt ∧ (a &&& b).toInt ≤ b.toInt := by
  have e : ∀ x : Int32, x.toInt = x.toBitVec.toInt := fun _ => rfl
  rw [e] at h
  rw [e, e, Int32.toBitVec_and]
  have hb : b.toBitVec.msb = false := by
    rw [BitVec.msb_eq_toInt]
    simpa using h
  have hab : (a.toBitVec &&& b.toBitVec).msb = false := by rw [BitVec.msb_and, hb, Bool.and_false]
  rw [BitVec.toInt_eq_toNat_of_msb hb, BitVec.toInt_eq_toNat_of_msb hab, BitVec.toNat_and]
  have := @Nat.and_le_right a.toBitVec.toNat b.toBitVec.toNat
  omega
theorem iand_r {x y : Int} (hy : 0 ≤ y ∧ y ≤ 2147483647) : 0 ≤ iand x y ∧ iand x y ≤ y := by
  unfold iand
  have e : (Int32.ofInt y).toInt = y := oI ⟨by omega, hy.2⟩
  have h := i32_and_r (a := Int32.ofInt x) (b := Int32.ofInt y) (by rw [e]; exact hy.1)
  rw [e] at h
  exact h
theorem iand_comm (x y : Int) : iand x y = iand y x := by unfold iand; rw [Int32.and_comm]
theorem iand_l {x y : Int} (hx : 0 ≤ x ∧ x ≤ 2147483647) : 0 ≤ iand x y ∧ iand x y ≤ x := by rw [iand_comm]; exact iand_r hx
theorem i32_bv (x : Int32) : x.toInt = x.toBitVec.toInt := rfl
theorem bv_of {z : Int} (h : 0 ≤ z ∧ z ≤ 2147483647) : (Int32.ofInt z).toBitVec.toNat = z.toNat := by
  have h1 : (Int32.ofInt z).toBitVec = BitVec.ofInt 32 z := rfl
  rw [h1, BitVec.toNat_ofInt]
  omega
theorem bv_small {v : BitVec 32} {n : Nat} (h : v.toNat < n) (hn : n ≤ 2147483648) : v.toInt = (v.toNat : Int) := by
  rw [BitVec.toInt_eq_toNat_cond, if_pos (by omega)]
theorem ior_b (k : Nat) (hk : k ≤ 30) {x y : Int} (hx : 0 ≤ x ∧ x < ((2 ^ k : Nat) : Int)) (hy : 0 ≤ y ∧ y < ((2 ^ k : Nat) : Int)) : 0 ≤ ior x y ∧ ior x y < ((2 ^ k : Nat) : Int) := by
  have hp : (2 ^ k : Nat) ≤ 2 ^ 30 := Nat.pow_le_pow_right (by decide) hk
  have h30 : (2 : Nat) ^ 30 = 1073741824 := by decide
  unfold ior
  rw [i32_bv, Int32.toBitVec_or]
  have e1 := bv_of (z := x) ⟨hx.1, by omega⟩
  have e2 := bv_of (z := y) ⟨hy.1, by omega⟩
  have hlt : ((Int32.ofInt x).toBitVec ||| (Int32.ofInt y).toBitVec).toNat < 2 ^ k := by
    rw [BitVec.toNat_or]
    exact Nat.or_lt_two_pow (by rw [e1]; omega) (by rw [e2]; omega)
  rw [bv_small hlt (by omega)]
  omega
theorem ixor_b (k : Nat) (hk : k ≤ 30) {x y : Int} (hx : 0 ≤ x ∧ x < ((2 ^ k : Nat) : Int)) (hy : 0 ≤ y ∧ y < ((2 ^ k : Nat) : Int)) : 0 ≤ ixor x y ∧ ixor x y < ((2 ^ k : Nat) : Int) := by
  have hp : (2 ^ k : Nat) ≤ 2 ^ 30 := Nat.pow_le_pow_right (by decide) hk
  have h30 : (2 : Nat) ^ 30 = 1073741824 := by decide
  unfold ixor
  rw [i32_bv, Int32.toBitVec_xor]
  have e1 := bv_of (z := x) ⟨hx.1, by omega⟩
  have e2 := bv_of (z := y) ⟨hy.1, by omega⟩
  have hlt : ((Int32.ofInt x).toBitVec ^^^ (Int32.ofInt y).toBitVec).toNat < 2 ^ k := by
    rw [BitVec.toNat_xor]
    exact Nat.xor_lt_two_pow (by rw [e1]; omega) (by rw [e2]; omega)
  rw [bv_small hlt (by omega)]
  omega
theorem i32_smod {c : Nat} (hc : c ≤ 31) : ((((Int32.ofInt (c : Int)) &&& 31).toBitVec.smod 32)).toNat = c := by
  have : ∀ c : Nat, c < 32 → ((((Int32.ofInt (c : Int)) &&& 31).toBitVec.smod 32)).toNat = c := by decide
  exact this c (by omega)
/-- a shift to the left by a number that is known -/
theorem ishl_c (c : Nat) (hc : c ≤ 31) {x : Int} (h : IR (x * ((2 ^ c : Nat) : Int))) : ishl x (c : Int) = x * ((2 ^ c : Nat) : Int) := by
  have e : Int32.ofInt x <<< (Int32.ofInt (c : Int) &&& 31) = Int32.ofInt (x * ((2 ^ c : Nat) : Int)) := by
    apply Int32.toBitVec.inj
    rw [Int32.toBitVec_shiftLeft, BitVec.shiftLeft_eq', i32_smod hc]
    have h1 : (Int32.ofInt x).toBitVec = BitVec.ofInt 32 x := rfl
    have h2 : (Int32.ofInt (x * ((2 ^ c : Nat) : Int))).toBitVec = BitVec.ofInt 32 (x * ((2 ^ c : Nat) : Int)) := rfl
    rw [h1, h2, BitVec.shiftLeft_eq_mul_twoPow, BitVec.ofInt_mul]
    congr 1
    apply BitVec.eq_of_toNat_eq
    rw [BitVec.toNat_twoPow, BitVec.toNat_ofInt]
    have : ∀ c : Nat, c < 32 → 2 ^ c % 2 ^ 32 = ((((2 ^ c : Nat) : Int)) % ((2 ^ 32 : Nat) : Int)).toNat := by decide
    exact this c (by omega)
  unfold ishl
  rw [e, oI h]
/-- a shift to the right by a number that is known -/
theorem ishr_c (c : Nat) (hc : c ≤ 31) {x : Int} (h : IR x) : ishr x (c : Int) = x / ((2 ^ c : Nat) : Int) := by
  unfold ishr
  rw [i32_bv, Int32.toBitVec_shiftRight, BitVec.toInt_sshiftRight', i32_smod hc]
  have h1 : (Int32.ofInt x).toBitVec.toInt = x := oI h
  rw [h1, Int.shiftRight_eq_div_pow]
theorem ishr_ir (x y : Int) : IR (ishr x y) := rgI _
theorem ishl_ir (x y : Int) : IR (ishl x y) := rgI _
theorem iand_ir (x y : Int) : IR (iand x y) := rgI _
theorem ior_ir (x y : Int) : IR (ior x y) := rgI _
theorem ixor_ir (x y : Int) : IR (ixor x y) := rgI _
theorem idiv_ir (x y : Int) : IR (idiv x y) := rgI _
theorem irem_ir (x y : Int) : IR (irem x y) := rgI _
theorem iushr_ir (x y : Int) : IR (iushr x y) := rgI _
theorem llor_ir (x y : Int) : LR (llor x y) := rgL _
theorem llshl_ir (x y : Int) : LR (llshl x y) := rgL _
theorem llshr_ir (x y : Int) : LR (llshr x y) := rgL _
theorem llushr_ir (x y : Int) : LR (llushr x y) := rgL _
theorem lcmpv_b (x y : Int) : -1 ≤ lcmpv x y ∧ lcmpv x y ≤ 1 := by unfold lcmpv; split <;> (try split) <;> decide
theorem lcmpv_0 {x y : Int} : lcmpv x y = 0 ↔ x = y := by
  unfold lcmpv
  by_cases h1 : y < x
  · rw [if_pos h1]; omega
  · rw [if_neg h1]; by_cases h2 : x = y
    · simp [h2]
    · rw [if_neg h2]; omega
theorem lcmpv_lt {x y : Int} : lcmpv x y < 0 ↔ x < y := by unfold lcmpv; split <;> (try split) <;> omega
theorem lcmpv_gt {x y : Int} : 0 < lcmpv x y ↔ y < x := by unfold lcmpv; split <;> (try split) <;> omega
theorem ishl1_all : ∀ y : Nat, y < 31 → ishl 1 (y : Int) = ((2 ^ y : Nat) : Int) := by decide +kernel
/-- 1 << y -/
theorem ishl1 (n : Nat) (hn : n ≤ 30) {y : Int} (h : 0 ≤ y ∧ y ≤ (n : Int)) : ishl 1 y = ((2 ^ y.toNat : Nat) : Int) ∧ 1 ≤ ishl 1 y ∧ ishl 1 y ≤ ((2 ^ n : Nat) : Int) := by
  have e : ((y.toNat : Nat) : Int) = y := Int.toNat_of_nonneg h.1
  have h1 := ishl1_all y.toNat (by omega)
  rw [e] at h1
  have h2 : 2 ^ y.toNat ≤ 2 ^ n := Nat.pow_le_pow_right (by decide) (by omega)
  have h3 : 1 ≤ 2 ^ y.toNat := Nat.one_le_two_pow
  exact ⟨h1, by rw [h1]; omega, by rw [h1]; omega⟩
theorem idiv_p {x y : Int} (hx : 0 ≤ x ∧ x ≤ 2147483647) (hy : 0 < y ∧ y ≤ 2147483647) : idiv x y = x / y := by
  unfold idiv
  rw [Int32.toInt_div_of_ne_right _ _ (fun q => by have := congrArg Int32.toInt q; rw [oI ⟨by omega, hy.2⟩] at this; have e : (-1 : Int32).toInt = -1 := by decide
                                                   omega), oI ⟨by omega, hx.2⟩, oI ⟨by omega, hy.2⟩, Int.tdiv_eq_ediv_of_nonneg hx.1]
theorem irem_p {x y : Int} (hx : 0 ≤ x ∧ x ≤ 2147483647) (hy : 0 < y ∧ y ≤ 2147483647) : irem x y = x % y := by
  have hd := idiv_p hx hy
  have e1 : Int32.ofInt x / Int32.ofInt y = Int32.ofInt (x / y) := by rw [← hd]; exact (Int32.ofInt_toInt _).symm
  unfold irem
  rw [e1, ← Int32.ofInt_mul, ← Int32.ofInt_sub]
  have h1 := Int.emod_nonneg x (show y ≠ 0 by omega)
  have h2 := Int.emod_lt_of_pos x hy.1
  have h3 : x - x / y * y = x % y := by have := Int.mul_ediv_add_emod x y; rw [Int.mul_comm] at this; omega
  rw [h3, oI ⟨by omega, by omega⟩]
theorem idiv_b {x y : Int} (hx : 0 ≤ x ∧ x ≤ 2147483647) (hy : 0 < y ∧ y ≤ 2147483647) : 0 ≤ idiv x y ∧ idiv x y ≤ x := by
  rw [idiv_p hx hy]
  exact ⟨Int.ediv_nonneg hx.1 (by omega), Int.ediv_le_self _ hx.1⟩
theorem irem_b {x y : Int} (hx : 0 ≤ x ∧ x ≤ 2147483647) (hy : 0 < y ∧ y ≤ 2147483647) : 0 ≤ irem x y ∧ irem x y < y := by
  rw [irem_p hx hy]
  exact ⟨Int.emod_nonneg x (by omega), Int.emod_lt_of_pos x hy.1⟩
/-- a remainder by a number above 0, of any number -/
theorem irem_any {x y : Int} (hx : IR x) (hy : 0 < y ∧ y ≤ 2147483647) : -y < irem x y ∧ irem x y < y := by
  have hne : Int32.ofInt y ≠ -1 := fun q => by
    have := congrArg Int32.toInt q
    rw [oI ⟨by omega, hy.2⟩] at this
    have e : (-1 : Int32).toInt = -1 := by decide
    omega
  have hd : idiv x y = x.tdiv y := by
    unfold idiv
    rw [Int32.toInt_div_of_ne_right _ _ hne, oI hx, oI ⟨by omega, hy.2⟩]
  have e1 : Int32.ofInt x / Int32.ofInt y = Int32.ofInt (x.tdiv y) := by rw [← hd]; exact (Int32.ofInt_toInt _).symm
  unfold irem
  rw [e1, ← Int32.ofInt_mul, ← Int32.ofInt_sub]
  have h3 : x - x.tdiv y * y = x.tmod y := by have := Int.mul_tdiv_add_tmod x y; rw [Int.mul_comm] at this; omega
  have h4 := Int.tmod_lt_of_pos x hy.1
  have h5 : -y < x.tmod y := by
    have := Int.neg_tmod x y
    have h6 := Int.tmod_lt_of_pos (-x) hy.1
    omega
  rw [h3, oI ⟨by omega, by omega⟩]
  exact ⟨h5, h4⟩
end
section
/-! The reference in the layer Go: object 0 with its 98 fields, its arrays 1 .. 63. -/
def shM : Nat → Nat × Nat × Nat := fun o => match o with
  | 0 => (0, 12, 98)
  | 1 => (1, 0, 1800)
  | 2 => (1, 0, 2)
  | 3 => (1, 0, 10)
  | 4 => (1, 0, 10)
  | 5 => (1, 0, 2)
  | 6 => (1, 0, 48)
  | 7 => (1, 0, 48)
  | 8 => (1, 0, 96)
  | 9 => (1, 0, 48)
  | 10 => (1, 0, 48)
  | 11 => (1, 0, 2)
  | 12 => (1, 0, 8)
  | 13 => (1, 0, 2)
  | 14 => (1, 0, 24)
  | 15 => (1, 0, 2)
  | 16 => (1, 0, 2)
  | 17 => (1, 0, 96)
  | 18 => (1, 0, 96)
  | 19 => (1, 0, 5600)
  | 20 => (1, 0, 5600)
  | 21 => (1, 0, 5600)
  | 22 => (2, 0, 8)
  | 23 => (2, 0, 48)
  | 24 => (1, 0, 10)
  | 25 => (1, 0, 10)
  | 26 => (1, 0, 10)
  | 27 => (1, 0, 10)
  | 28 => (1, 0, 6)
  | 29 => (1, 0, 12)
  | 30 => (1, 0, 900)
  | 31 => (1, 0, 8040)
  | 32 => (1, 0, 8040)
  | 33 => (1, 0, 4)
  | 34 => (1, 0, 4096)
  | 35 => (1, 0, 22)
  | 36 => (1, 0, 264)
  | 37 => (1, 0, 22)
  | 38 => (1, 0, 22)
  | 39 => (1, 0, 22)
  | 40 => (1, 0, 2640)
  | 41 => (1, 0, 8040)
  | 42 => (1, 0, 4)
  | 43 => (1, 0, 12)
  | 44 => (1, 0, 4)
  | 45 => (1, 0, 4096)
  | 46 => (1, 0, 1800)
  | 47 => (1, 0, 40)
  | 48 => (1, 0, 40)
  | 49 => (1, 0, 65536)
  | 50 => (1, 0, 4096)
  | 51 => (1, 0, 65536)
  | 52 => (1, 0, 65536)
  | 53 => (1, 0, 65536)
  | 54 => (1, 0, 40)
  | 55 => (1, 0, 40)
  | 56 => (1, 0, 40)
  | 57 => (1, 0, 1000)
  | 58 => (1, 0, 12)
  | 59 => (1, 0, 16)
  | 60 => (1, 0, 16)
  | 61 => (1, 0, 256)
  | 62 => (1, 0, 256)
  | 63 => (1, 0, 13)
  | _ => (9, 0, 0)
def ftM0 : Nat → Nat := fun k => match k with
  | 0 => 3
  | 1 => 0
  | 2 => 0
  | 3 => 0
  | 4 => 0
  | 5 => 0
  | 6 => 0
  | 7 => 1
  | 8 => 0
  | 9 => 0
  | 10 => 0
  | 11 => 0
  | 12 => 0
  | 13 => 0
  | 14 => 3
  | 15 => 3
  | 16 => 3
  | 17 => 3
  | 18 => 3
  | 19 => 3
  | 20 => 3
  | 21 => 3
  | 22 => 3
  | 23 => 3
  | 24 => 3
  | 25 => 3
  | 26 => 3
  | 27 => 3
  | 28 => 3
  | 29 => 3
  | 30 => 3
  | 31 => 3
  | 32 => 3
  | 33 => 3
  | 34 => 3
  | 35 => 3
  | 36 => 0
  | 37 => 0
  | 38 => 0
  | 39 => 3
  | 40 => 3
  | 41 => 3
  | 42 => 3
  | 43 => 0
  | 44 => 0
  | 45 => 3
  | 46 => 3
  | 47 => 3
  | 48 => 3
  | 49 => 3
  | 50 => 3
  | 51 => 3
  | 52 => 0
  | 53 => 3
  | 54 => 3
  | 55 => 3
  | 56 => 3
  | 57 => 3
  | 58 => 3
  | 59 => 0
  | 60 => 0
  | 61 => 1
  | 62 => 0
  | 63 => 3
  | 64 => 3
  | 65 => 3
  | 66 => 0
  | 67 => 3
  | 68 => 3
  | 69 => 3
  | 70 => 0
  | 71 => 3
  | 72 => 3
  | 73 => 0
  | 74 => 0
  | 75 => 3
  | 76 => 0
  | 77 => 3
  | 78 => 0
  | 79 => 3
  | 80 => 3
  | 81 => 0
  | 82 => 3
  | 83 => 3
  | 84 => 3
  | 85 => 3
  | 86 => 3
  | 87 => 0
  | 88 => 0
  | 89 => 0
  | 90 => 0
  | 91 => 3
  | 92 => 0
  | 93 => 3
  | 94 => 3
  | 95 => 3
  | 96 => 3
  | 97 => 3
  | _ => 0
def crM0 : Nat → Nat := fun k => match k with
  | 0 => 1
  | 14 => 2
  | 15 => 3
  | 16 => 4
  | 17 => 5
  | 18 => 6
  | 19 => 7
  | 20 => 8
  | 21 => 9
  | 22 => 10
  | 23 => 11
  | 24 => 12
  | 25 => 13
  | 26 => 14
  | 27 => 15
  | 28 => 16
  | 29 => 17
  | 30 => 18
  | 31 => 19
  | 32 => 20
  | 33 => 21
  | 34 => 22
  | 35 => 23
  | 39 => 24
  | 40 => 25
  | 41 => 26
  | 42 => 27
  | 45 => 28
  | 46 => 29
  | 47 => 30
  | 48 => 31
  | 49 => 32
  | 50 => 33
  | 51 => 34
  | 53 => 35
  | 54 => 36
  | 55 => 37
  | 56 => 38
  | 57 => 39
  | 58 => 40
  | 63 => 41
  | 64 => 42
  | 65 => 43
  | 67 => 44
  | 68 => 45
  | 69 => 46
  | 71 => 47
  | 72 => 48
  | 75 => 49
  | 77 => 50
  | 79 => 51
  | 80 => 52
  | 82 => 53
  | 83 => 54
  | 84 => 55
  | 85 => 56
  | 86 => 57
  | 91 => 58
  | 93 => 59
  | 94 => 60
  | 95 => 61
  | 96 => 62
  | 97 => 63
  | _ => 0
def WSM : WS := (64, fun o => o, shM, fun _ k => ftM0 k, fun _ k => crM0 k, [.int, .long])
theorem hiM : ∀ w ∈ u_ws RX12 TX12 98, w ∈ WT := by
  intro w h
  obtain ⟨k, hk, rfl⟩ := List.mem_map.mp h
  have hk := List.mem_range.mp hk
  rcases (show k = 0 ∨ k = 1 ∨ k = 2 ∨ k = 3 ∨ k = 4 ∨ k = 5 ∨ k = 6 ∨ k = 7 ∨ k = 8 ∨ k = 9 ∨ k = 10 ∨ k = 11 ∨ k = 12 ∨ k = 13 ∨ k = 14 ∨ k = 15 ∨ k = 16 ∨ k = 17 ∨ k = 18 ∨ k = 19 ∨ k = 20 ∨ k = 21 ∨ k = 22 ∨ k = 23 ∨ k = 24 ∨ k = 25 ∨ k = 26 ∨ k = 27 ∨ k = 28 ∨ k = 29 ∨ k = 30 ∨ k = 31 ∨ k = 32 ∨ k = 33 ∨ k = 34 ∨ k = 35 ∨ k = 36 ∨ k = 37 ∨ k = 38 ∨ k = 39 ∨ k = 40 ∨ k = 41 ∨ k = 42 ∨ k = 43 ∨ k = 44 ∨ k = 45 ∨ k = 46 ∨ k = 47 ∨ k = 48 ∨ k = 49 ∨ k = 50 ∨ k = 51 ∨ k = 52 ∨ k = 53 ∨ k = 54 ∨ k = 55 ∨ k = 56 ∨ k = 57 ∨ k = 58 ∨ k = 59 ∨ k = 60 ∨ k = 61 ∨ k = 62 ∨ k = 63 ∨ k = 64 ∨ k = 65 ∨ k = 66 ∨ k = 67 ∨ k = 68 ∨ k = 69 ∨ k = 70 ∨ k = 71 ∨ k = 72 ∨ k = 73 ∨ k = 74 ∨ k = 75 ∨ k = 76 ∨ k = 77 ∨ k = 78 ∨ k = 79 ∨ k = 80 ∨ k = 81 ∨ k = 82 ∨ k = 83 ∨ k = 84 ∨ k = 85 ∨ k = 86 ∨ k = 87 ∨ k = 88 ∨ k = 89 ∨ k = 90 ∨ k = 91 ∨ k = 92 ∨ k = 93 ∨ k = 94 ∨ k = 95 ∨ k = 96 ∨ k = 97 by omega) with rfl | rfl | rfl | rfl | rfl | rfl | rfl | rfl | rfl | rfl | rfl | rfl | rfl | rfl | rfl | rfl | rfl | rfl | rfl | rfl | rfl | rfl | rfl | rfl | rfl | rfl | rfl | rfl | rfl | rfl | rfl | rfl | rfl | rfl | rfl | rfl | rfl | rfl | rfl | rfl | rfl | rfl | rfl | rfl | rfl | rfl | rfl | rfl | rfl | rfl | rfl | rfl | rfl | rfl | rfl | rfl | rfl | rfl | rfl | rfl | rfl | rfl | rfl | rfl | rfl | rfl | rfl | rfl | rfl | rfl | rfl | rfl | rfl | rfl | rfl | rfl | rfl | rfl | rfl | rfl | rfl | rfl | rfl | rfl | rfl | rfl | rfl | rfl | rfl | rfl | rfl | rfl | rfl | rfl | rfl | rfl | rfl | rfl
  · exact t_1466
  · exact t_1468
  · exact t_1470
  · exact t_1472
  · exact t_1474
  · exact t_1476
  · exact t_1478
  · exact t_1480
  · exact t_1482
  · exact t_1484
  · exact t_1486
  · exact t_1488
  · exact t_1490
  · exact t_1492
  · exact t_1494
  · exact t_1496
  · exact t_1498
  · exact t_1500
  · exact t_1502
  · exact t_1504
  · exact t_1506
  · exact t_1508
  · exact t_1510
  · exact t_1512
  · exact t_1514
  · exact t_1516
  · exact t_1518
  · exact t_1520
  · exact t_1522
  · exact t_1524
  · exact t_1526
  · exact t_1528
  · exact t_1530
  · exact t_1532
  · exact t_1534
  · exact t_1536
  · exact t_1538
  · exact t_1540
  · exact t_1542
  · exact t_1544
  · exact t_1546
  · exact t_1548
  · exact t_1550
  · exact t_1552
  · exact t_1554
  · exact t_1556
  · exact t_1558
  · exact t_1560
  · exact t_1562
  · exact t_1564
  · exact t_1566
  · exact t_1568
  · exact t_1570
  · exact t_1572
  · exact t_1574
  · exact t_1576
  · exact t_1578
  · exact t_1580
  · exact t_1582
  · exact t_1584
  · exact t_1586
  · exact t_1588
  · exact t_1590
  · exact t_1592
  · exact t_1594
  · exact t_1596
  · exact t_1598
  · exact t_1600
  · exact t_1602
  · exact t_1604
  · exact t_1606
  · exact t_1608
  · exact t_1610
  · exact t_1612
  · exact t_1614
  · exact t_1616
  · exact t_1618
  · exact t_1620
  · exact t_1622
  · exact t_1624
  · exact t_1626
  · exact t_1628
  · exact t_1630
  · exact t_1632
  · exact t_1634
  · exact t_1636
  · exact t_1638
  · exact t_1640
  · exact t_1642
  · exact t_1644
  · exact t_1646
  · exact t_1648
  · exact t_1650
  · exact t_1652
  · exact t_1654
  · exact t_1656
  · exact t_1658
  · exact t_1660
theorem tyM : ∃ ty0 : Nat → FieldType, ∀ k, k < 98 → parseFieldDescriptor (TX12 k).2.2.1 = some (ty0 k) := by
  have h : ∀ k, k < 98 → (parseFieldDescriptor (TX12 k).2.2.1).isSome = true := by decide +kernel
  exact ⟨fun k => (parseFieldDescriptor (TX12 k).2.2.1).getD .int, fun k hk => by
    have h1 := h k hk
    cases h2 : parseFieldDescriptor (TX12 k).2.2.1 with
    | none => rw [h2] at h1; cases h1
    | some x => show some x = some ((parseFieldDescriptor (TX12 k).2.2.1).getD .int); rw [h2]; rfl⟩
theorem ffM0 {idx : Nat} (k : Nat) (hk : k < 98) (h : Cond.fieldLink RX12 idx (TX12 k).1 (TX12 k).2.1 (TX12 k).2.2.1 ∈ WT) : vwCl[12]? = some (RX12, TX12, 98) ∧ k < 98 ∧ (∀ w ∈ u_ws RX12 TX12 98, w ∈ WT) ∧ Cond.fieldLink RX12 idx (TX12 k).1 (TX12 k).2.1 (TX12 k).2.2.1 ∈ WT := ⟨rfl, hk, hiM, h⟩
section MR
variable {G : GT} {d : Nat} {i : MI} {pc : Nat} {ls : List (Nat × PV)} {st : List PV} {P : PH} {Q : Option PV → PH → Prop}
/-- tape -/
theorem ffM_0 : FF RX12 7 12 0 98 := ⟨RX12, TX12, rfl, by decide, hiM, t_1368⟩
theorem m_g0 (hc : i.1.cls = RX12) (hd : decode i.2.1 pc = .ok (.getfield 7, 3)) (k : Go WSM G d i (pc + 3) ls (vR 1 :: st) P Q) : Go WSM G d i pc ls (vR 0 :: st) P Q := g_getC (f := 0) (hc ▸ ffM_0) (by decide) rfl rfl hd k
/-- taped -/
theorem ffM_1 : FF RX12 13 12 1 98 := ⟨RX12, TX12, rfl, by decide, hiM, t_1369⟩
theorem m_g1 {z : Int} (hc : i.1.cls = RX12) (hd : decode i.2.1 pc = .ok (.getfield 13, 3)) (hz : P 0 1 = z) (k : Go WSM G d i (pc + 3) ls (vI z :: st) P Q) : Go WSM G d i pc ls (vR 0 :: st) P Q := by
  subst hz
  exact g_getI (f := 1) (hc ▸ ffM_1) (by decide) rfl rfl hd k
theorem m_p1 {x : Int} (hc : i.1.cls = RX12) (hd : decode i.2.1 pc = .ok (.putfield 13, 3)) (k : Go WSM G d i (pc + 3) ls st (up P 0 1 x) Q) : Go WSM G d i pc ls (vI x :: vR 0 :: st) P Q := g_putI (f := 1) (hc ▸ ⟨RX12, TX12, ffM0 1 (by decide) t_1369, tyM, nmX12, rfl, rfl⟩) (by decide) rfl rfl hd k
/-- size -/
theorem ffM_2 : FF RX12 17 12 2 98 := ⟨RX12, TX12, rfl, by decide, hiM, t_1370⟩
theorem m_g2 {z : Int} (hc : i.1.cls = RX12) (hd : decode i.2.1 pc = .ok (.getfield 17, 3)) (hz : P 0 2 = z) (k : Go WSM G d i (pc + 3) ls (vI z :: st) P Q) : Go WSM G d i pc ls (vR 0 :: st) P Q := by
  subst hz
  exact g_getI (f := 2) (hc ▸ ffM_2) (by decide) rfl rfl hd k
theorem m_p2 {x : Int} (hc : i.1.cls = RX12) (hd : decode i.2.1 pc = .ok (.putfield 17, 3)) (k : Go WSM G d i (pc + 3) ls st (up P 0 2 x) Q) : Go WSM G d i pc ls (vI x :: vR 0 :: st) P Q := g_putI (f := 2) (hc ▸ ⟨RX12, TX12, ffM0 2 (by decide) t_1370, tyM, nmX12, rfl, rfl⟩) (by decide) rfl rfl hd k
/-- sign -/
theorem ffM_3 : FF RX12 20 12 3 98 := ⟨RX12, TX12, rfl, by decide, hiM, t_1371⟩
theorem m_g3 {z : Int} (hc : i.1.cls = RX12) (hd : decode i.2.1 pc = .ok (.getfield 20, 3)) (hz : P 0 3 = z) (k : Go WSM G d i (pc + 3) ls (vI z :: st) P Q) : Go WSM G d i pc ls (vR 0 :: st) P Q := by
  subst hz
  exact g_getI (f := 3) (hc ▸ ffM_3) (by decide) rfl rfl hd k
theorem m_p3 {x : Int} (hc : i.1.cls = RX12) (hd : decode i.2.1 pc = .ok (.putfield 20, 3)) (k : Go WSM G d i (pc + 3) ls st (up P 0 3 x) Q) : Go WSM G d i pc ls (vI x :: vR 0 :: st) P Q := g_putI (f := 3) (hc ▸ ⟨RX12, TX12, ffM0 3 (by decide) t_1371, tyM, nmX12, rfl, rfl⟩) (by decide) rfl rfl hd k
/-- signAt -/
theorem ffM_4 : FF RX12 23 12 4 98 := ⟨RX12, TX12, rfl, by decide, hiM, t_1372⟩
theorem m_g4 {z : Int} (hc : i.1.cls = RX12) (hd : decode i.2.1 pc = .ok (.getfield 23, 3)) (hz : P 0 4 = z) (k : Go WSM G d i (pc + 3) ls (vI z :: st) P Q) : Go WSM G d i pc ls (vR 0 :: st) P Q := by
  subst hz
  exact g_getI (f := 4) (hc ▸ ffM_4) (by decide) rfl rfl hd k
theorem m_p4 {x : Int} (hc : i.1.cls = RX12) (hd : decode i.2.1 pc = .ok (.putfield 23, 3)) (k : Go WSM G d i (pc + 3) ls st (up P 0 4 x) Q) : Go WSM G d i pc ls (vI x :: vR 0 :: st) P Q := g_putI (f := 4) (hc ▸ ⟨RX12, TX12, ffM0 4 (by decide) t_1372, tyM, nmX12, rfl, rfl⟩) (by decide) rfl rfl hd k
/-- signEnd -/
theorem ffM_5 : FF RX12 26 12 5 98 := ⟨RX12, TX12, rfl, by decide, hiM, t_1373⟩
theorem m_g5 {z : Int} (hc : i.1.cls = RX12) (hd : decode i.2.1 pc = .ok (.getfield 26, 3)) (hz : P 0 5 = z) (k : Go WSM G d i (pc + 3) ls (vI z :: st) P Q) : Go WSM G d i pc ls (vR 0 :: st) P Q := by
  subst hz
  exact g_getI (f := 5) (hc ▸ ffM_5) (by decide) rfl rfl hd k
theorem m_p5 {x : Int} (hc : i.1.cls = RX12) (hd : decode i.2.1 pc = .ok (.putfield 26, 3)) (k : Go WSM G d i (pc + 3) ls st (up P 0 5 x) Q) : Go WSM G d i pc ls (vI x :: vR 0 :: st) P Q := g_putI (f := 5) (hc ▸ ⟨RX12, TX12, ffM0 5 (by decide) t_1373, tyM, nmX12, rfl, rfl⟩) (by decide) rfl rfl hd k
/-- value -/
theorem ffM_6 : FF RX12 29 12 6 98 := ⟨RX12, TX12, rfl, by decide, hiM, t_1374⟩
theorem m_g6 {z : Int} (hc : i.1.cls = RX12) (hd : decode i.2.1 pc = .ok (.getfield 29, 3)) (hz : P 0 6 = z) (k : Go WSM G d i (pc + 3) ls (vI z :: st) P Q) : Go WSM G d i pc ls (vR 0 :: st) P Q := by
  subst hz
  exact g_getI (f := 6) (hc ▸ ffM_6) (by decide) rfl rfl hd k
theorem m_p6 {x : Int} (hc : i.1.cls = RX12) (hd : decode i.2.1 pc = .ok (.putfield 29, 3)) (k : Go WSM G d i (pc + 3) ls st (up P 0 6 x) Q) : Go WSM G d i pc ls (vI x :: vR 0 :: st) P Q := g_putI (f := 6) (hc ▸ ⟨RX12, TX12, ffM0 6 (by decide) t_1374, tyM, nmX12, rfl, rfl⟩) (by decide) rfl rfl hd k
/-- word -/
theorem ffM_7 : FF RX12 32 12 7 98 := ⟨RX12, TX12, rfl, by decide, hiM, t_1375⟩
theorem m_g7 {z : Int} (hc : i.1.cls = RX12) (hd : decode i.2.1 pc = .ok (.getfield 32, 3)) (hz : P 0 7 = z) (k : Go WSM G d i (pc + 3) ls (vL z :: st) P Q) : Go WSM G d i pc ls (vR 0 :: st) P Q := by
  subst hz
  exact g_getL (f := 7) (hc ▸ ffM_7) (by decide) rfl rfl hd k
theorem m_p7 {x : Int} (hc : i.1.cls = RX12) (hd : decode i.2.1 pc = .ok (.putfield 32, 3)) (k : Go WSM G d i (pc + 3) ls st (up P 0 7 x) Q) : Go WSM G d i pc ls (vL x :: vR 0 :: st) P Q := g_putL (f := 7) (hc ▸ ⟨RX12, TX12, ffM0 7 (by decide) t_1375, tyM, nmX12, rfl, rfl⟩) (by decide) rfl rfl hd k
/-- faultKind -/
theorem ffM_8 : FF RX12 36 12 8 98 := ⟨RX12, TX12, rfl, by decide, hiM, t_1376⟩
theorem m_g8 {z : Int} (hc : i.1.cls = RX12) (hd : decode i.2.1 pc = .ok (.getfield 36, 3)) (hz : P 0 8 = z) (k : Go WSM G d i (pc + 3) ls (vI z :: st) P Q) : Go WSM G d i pc ls (vR 0 :: st) P Q := by
  subst hz
  exact g_getI (f := 8) (hc ▸ ffM_8) (by decide) rfl rfl hd k
theorem m_p8 {x : Int} (hc : i.1.cls = RX12) (hd : decode i.2.1 pc = .ok (.putfield 36, 3)) (k : Go WSM G d i (pc + 3) ls st (up P 0 8 x) Q) : Go WSM G d i pc ls (vI x :: vR 0 :: st) P Q := g_putI (f := 8) (hc ▸ ⟨RX12, TX12, ffM0 8 (by decide) t_1376, tyM, nmX12, rfl, rfl⟩) (by decide) rfl rfl hd k
/-- faultPlace -/
theorem ffM_9 : FF RX12 39 12 9 98 := ⟨RX12, TX12, rfl, by decide, hiM, t_1377⟩
theorem m_g9 {z : Int} (hc : i.1.cls = RX12) (hd : decode i.2.1 pc = .ok (.getfield 39, 3)) (hz : P 0 9 = z) (k : Go WSM G d i (pc + 3) ls (vI z :: st) P Q) : Go WSM G d i pc ls (vR 0 :: st) P Q := by
  subst hz
  exact g_getI (f := 9) (hc ▸ ffM_9) (by decide) rfl rfl hd k
theorem m_p9 {x : Int} (hc : i.1.cls = RX12) (hd : decode i.2.1 pc = .ok (.putfield 39, 3)) (k : Go WSM G d i (pc + 3) ls st (up P 0 9 x) Q) : Go WSM G d i pc ls (vI x :: vR 0 :: st) P Q := g_putI (f := 9) (hc ▸ ⟨RX12, TX12, ffM0 9 (by decide) t_1377, tyM, nmX12, rfl, rfl⟩) (by decide) rfl rfl hd k
/-- toldKind -/
theorem ffM_10 : FF RX12 42 12 10 98 := ⟨RX12, TX12, rfl, by decide, hiM, t_1378⟩
theorem m_g10 {z : Int} (hc : i.1.cls = RX12) (hd : decode i.2.1 pc = .ok (.getfield 42, 3)) (hz : P 0 10 = z) (k : Go WSM G d i (pc + 3) ls (vI z :: st) P Q) : Go WSM G d i pc ls (vR 0 :: st) P Q := by
  subst hz
  exact g_getI (f := 10) (hc ▸ ffM_10) (by decide) rfl rfl hd k
theorem m_p10 {x : Int} (hc : i.1.cls = RX12) (hd : decode i.2.1 pc = .ok (.putfield 42, 3)) (k : Go WSM G d i (pc + 3) ls st (up P 0 10 x) Q) : Go WSM G d i pc ls (vI x :: vR 0 :: st) P Q := g_putI (f := 10) (hc ▸ ⟨RX12, TX12, ffM0 10 (by decide) t_1378, tyM, nmX12, rfl, rfl⟩) (by decide) rfl rfl hd k
/-- toldPlace -/
theorem ffM_11 : FF RX12 45 12 11 98 := ⟨RX12, TX12, rfl, by decide, hiM, t_1379⟩
theorem m_g11 {z : Int} (hc : i.1.cls = RX12) (hd : decode i.2.1 pc = .ok (.getfield 45, 3)) (hz : P 0 11 = z) (k : Go WSM G d i (pc + 3) ls (vI z :: st) P Q) : Go WSM G d i pc ls (vR 0 :: st) P Q := by
  subst hz
  exact g_getI (f := 11) (hc ▸ ffM_11) (by decide) rfl rfl hd k
theorem m_p11 {x : Int} (hc : i.1.cls = RX12) (hd : decode i.2.1 pc = .ok (.putfield 45, 3)) (k : Go WSM G d i (pc + 3) ls st (up P 0 11 x) Q) : Go WSM G d i pc ls (vI x :: vR 0 :: st) P Q := g_putI (f := 11) (hc ▸ ⟨RX12, TX12, ffM0 11 (by decide) t_1379, tyM, nmX12, rfl, rfl⟩) (by decide) rfl rfl hd k
/-- lexAt -/
theorem ffM_12 : FF RX12 48 12 12 98 := ⟨RX12, TX12, rfl, by decide, hiM, t_1380⟩
theorem m_g12 {z : Int} (hc : i.1.cls = RX12) (hd : decode i.2.1 pc = .ok (.getfield 48, 3)) (hz : P 0 12 = z) (k : Go WSM G d i (pc + 3) ls (vI z :: st) P Q) : Go WSM G d i pc ls (vR 0 :: st) P Q := by
  subst hz
  exact g_getI (f := 12) (hc ▸ ffM_12) (by decide) rfl rfl hd k
theorem m_p12 {x : Int} (hc : i.1.cls = RX12) (hd : decode i.2.1 pc = .ok (.putfield 48, 3)) (k : Go WSM G d i (pc + 3) ls st (up P 0 12 x) Q) : Go WSM G d i pc ls (vI x :: vR 0 :: st) P Q := g_putI (f := 12) (hc ▸ ⟨RX12, TX12, ffM0 12 (by decide) t_1380, tyM, nmX12, rfl, rfl⟩) (by decide) rfl rfl hd k
/-- bank -/
theorem ffM_13 : FF RX12 51 12 13 98 := ⟨RX12, TX12, rfl, by decide, hiM, t_1381⟩
theorem m_g13 {z : Int} (hc : i.1.cls = RX12) (hd : decode i.2.1 pc = .ok (.getfield 51, 3)) (hz : P 0 13 = z) (k : Go WSM G d i (pc + 3) ls (vI z :: st) P Q) : Go WSM G d i pc ls (vR 0 :: st) P Q := by
  subst hz
  exact g_getI (f := 13) (hc ▸ ffM_13) (by decide) rfl rfl hd k
theorem m_p13 {x : Int} (hc : i.1.cls = RX12) (hd : decode i.2.1 pc = .ok (.putfield 51, 3)) (k : Go WSM G d i (pc + 3) ls st (up P 0 13 x) Q) : Go WSM G d i pc ls (vI x :: vR 0 :: st) P Q := g_putI (f := 13) (hc ▸ ⟨RX12, TX12, ffM0 13 (by decide) t_1381, tyM, nmX12, rfl, rfl⟩) (by decide) rfl rfl hd k
/-- kindMany -/
theorem ffM_14 : FF RX12 54 12 14 98 := ⟨RX12, TX12, rfl, by decide, hiM, t_1382⟩
theorem m_g14 (hc : i.1.cls = RX12) (hd : decode i.2.1 pc = .ok (.getfield 54, 3)) (k : Go WSM G d i (pc + 3) ls (vR 2 :: st) P Q) : Go WSM G d i pc ls (vR 0 :: st) P Q := g_getC (f := 14) (hc ▸ ffM_14) (by decide) rfl rfl hd k
/-- kindValues -/
theorem ffM_15 : FF RX12 57 12 15 98 := ⟨RX12, TX12, rfl, by decide, hiM, t_1383⟩
theorem m_g15 (hc : i.1.cls = RX12) (hd : decode i.2.1 pc = .ok (.getfield 57, 3)) (k : Go WSM G d i (pc + 3) ls (vR 3 :: st) P Q) : Go WSM G d i pc ls (vR 0 :: st) P Q := g_getC (f := 15) (hc ▸ ffM_15) (by decide) rfl rfl hd k
/-- kindCons -/
theorem ffM_16 : FF RX12 60 12 16 98 := ⟨RX12, TX12, rfl, by decide, hiM, t_1384⟩
theorem m_g16 (hc : i.1.cls = RX12) (hd : decode i.2.1 pc = .ok (.getfield 60, 3)) (k : Go WSM G d i (pc + 3) ls (vR 4 :: st) P Q) : Go WSM G d i pc ls (vR 0 :: st) P Q := g_getC (f := 16) (hc ▸ ffM_16) (by decide) rfl rfl hd k
/-- conMany -/
theorem ffM_17 : FF RX12 63 12 17 98 := ⟨RX12, TX12, rfl, by decide, hiM, t_1385⟩
theorem m_g17 (hc : i.1.cls = RX12) (hd : decode i.2.1 pc = .ok (.getfield 63, 3)) (k : Go WSM G d i (pc + 3) ls (vR 5 :: st) P Q) : Go WSM G d i pc ls (vR 0 :: st) P Q := g_getC (f := 17) (hc ▸ ffM_17) (by decide) rfl rfl hd k
/-- conKind -/
theorem ffM_18 : FF RX12 66 12 18 98 := ⟨RX12, TX12, rfl, by decide, hiM, t_1386⟩
theorem m_g18 (hc : i.1.cls = RX12) (hd : decode i.2.1 pc = .ok (.getfield 66, 3)) (k : Go WSM G d i (pc + 3) ls (vR 6 :: st) P Q) : Go WSM G d i pc ls (vR 0 :: st) P Q := g_getC (f := 18) (hc ▸ ffM_18) (by decide) rfl rfl hd k
/-- conFields -/
theorem ffM_19 : FF RX12 69 12 19 98 := ⟨RX12, TX12, rfl, by decide, hiM, t_1387⟩
theorem m_g19 (hc : i.1.cls = RX12) (hd : decode i.2.1 pc = .ok (.getfield 69, 3)) (k : Go WSM G d i (pc + 3) ls (vR 7 :: st) P Q) : Go WSM G d i pc ls (vR 0 :: st) P Q := g_getC (f := 19) (hc ▸ ffM_19) (by decide) rfl rfl hd k
/-- conField -/
theorem ffM_20 : FF RX12 72 12 20 98 := ⟨RX12, TX12, rfl, by decide, hiM, t_1388⟩
theorem m_g20 (hc : i.1.cls = RX12) (hd : decode i.2.1 pc = .ok (.getfield 72, 3)) (k : Go WSM G d i (pc + 3) ls (vR 8 :: st) P Q) : Go WSM G d i pc ls (vR 0 :: st) P Q := g_getC (f := 20) (hc ▸ ffM_20) (by decide) rfl rfl hd k
/-- conFrom -/
theorem ffM_21 : FF RX12 75 12 21 98 := ⟨RX12, TX12, rfl, by decide, hiM, t_1389⟩
theorem m_g21 (hc : i.1.cls = RX12) (hd : decode i.2.1 pc = .ok (.getfield 75, 3)) (k : Go WSM G d i (pc + 3) ls (vR 9 :: st) P Q) : Go WSM G d i pc ls (vR 0 :: st) P Q := g_getC (f := 21) (hc ▸ ffM_21) (by decide) rfl rfl hd k
/-- conValues -/
theorem ffM_22 : FF RX12 78 12 22 98 := ⟨RX12, TX12, rfl, by decide, hiM, t_1390⟩
theorem m_g22 (hc : i.1.cls = RX12) (hd : decode i.2.1 pc = .ok (.getfield 78, 3)) (k : Go WSM G d i (pc + 3) ls (vR 10 :: st) P Q) : Go WSM G d i pc ls (vR 0 :: st) P Q := g_getC (f := 22) (hc ▸ ffM_22) (by decide) rfl rfl hd k
/-- columnMany -/
theorem ffM_23 : FF RX12 81 12 23 98 := ⟨RX12, TX12, rfl, by decide, hiM, t_1391⟩
theorem m_g23 (hc : i.1.cls = RX12) (hd : decode i.2.1 pc = .ok (.getfield 81, 3)) (k : Go WSM G d i (pc + 3) ls (vR 11 :: st) P Q) : Go WSM G d i pc ls (vR 0 :: st) P Q := g_getC (f := 23) (hc ▸ ffM_23) (by decide) rfl rfl hd k
/-- columnKind -/
theorem ffM_24 : FF RX12 84 12 24 98 := ⟨RX12, TX12, rfl, by decide, hiM, t_1392⟩
theorem m_g24 (hc : i.1.cls = RX12) (hd : decode i.2.1 pc = .ok (.getfield 84, 3)) (k : Go WSM G d i (pc + 3) ls (vR 12 :: st) P Q) : Go WSM G d i pc ls (vR 0 :: st) P Q := g_getC (f := 24) (hc ▸ ffM_24) (by decide) rfl rfl hd k
/-- armMany -/
theorem ffM_25 : FF RX12 87 12 25 98 := ⟨RX12, TX12, rfl, by decide, hiM, t_1393⟩
theorem m_g25 (hc : i.1.cls = RX12) (hd : decode i.2.1 pc = .ok (.getfield 87, 3)) (k : Go WSM G d i (pc + 3) ls (vR 13 :: st) P Q) : Go WSM G d i pc ls (vR 0 :: st) P Q := g_getC (f := 25) (hc ▸ ffM_25) (by decide) rfl rfl hd k
/-- armGuard -/
theorem ffM_26 : FF RX12 90 12 26 98 := ⟨RX12, TX12, rfl, by decide, hiM, t_1394⟩
theorem m_g26 (hc : i.1.cls = RX12) (hd : decode i.2.1 pc = .ok (.getfield 90, 3)) (k : Go WSM G d i (pc + 3) ls (vR 14 :: st) P Q) : Go WSM G d i pc ls (vR 0 :: st) P Q := g_getC (f := 26) (hc ▸ ffM_26) (by decide) rfl rfl hd k
/-- ruleTold -/
theorem ffM_27 : FF RX12 93 12 27 98 := ⟨RX12, TX12, rfl, by decide, hiM, t_1395⟩
theorem m_g27 (hc : i.1.cls = RX12) (hd : decode i.2.1 pc = .ok (.getfield 93, 3)) (k : Go WSM G d i (pc + 3) ls (vR 15 :: st) P Q) : Go WSM G d i pc ls (vR 0 :: st) P Q := g_getC (f := 27) (hc ▸ ffM_27) (by decide) rfl rfl hd k
/-- budgetTold -/
theorem ffM_28 : FF RX12 96 12 28 98 := ⟨RX12, TX12, rfl, by decide, hiM, t_1396⟩
theorem m_g28 (hc : i.1.cls = RX12) (hd : decode i.2.1 pc = .ok (.getfield 96, 3)) (k : Go WSM G d i (pc + 3) ls (vR 16 :: st) P Q) : Go WSM G d i pc ls (vR 0 :: st) P Q := g_getC (f := 28) (hc ▸ ffM_28) (by decide) rfl rfl hd k
/-- patFrom -/
theorem ffM_29 : FF RX12 99 12 29 98 := ⟨RX12, TX12, rfl, by decide, hiM, t_1397⟩
theorem m_g29 (hc : i.1.cls = RX12) (hd : decode i.2.1 pc = .ok (.getfield 99, 3)) (k : Go WSM G d i (pc + 3) ls (vR 17 :: st) P Q) : Go WSM G d i pc ls (vR 0 :: st) P Q := g_getC (f := 29) (hc ▸ ffM_29) (by decide) rfl rfl hd k
/-- patBehind -/
theorem ffM_30 : FF RX12 102 12 30 98 := ⟨RX12, TX12, rfl, by decide, hiM, t_1398⟩
theorem m_g30 (hc : i.1.cls = RX12) (hd : decode i.2.1 pc = .ok (.getfield 102, 3)) (k : Go WSM G d i (pc + 3) ls (vR 18 :: st) P Q) : Go WSM G d i pc ls (vR 0 :: st) P Q := g_getC (f := 30) (hc ▸ ffM_30) (by decide) rfl rfl hd k
/-- codeOp -/
theorem ffM_31 : FF RX12 105 12 31 98 := ⟨RX12, TX12, rfl, by decide, hiM, t_1399⟩
theorem m_g31 (hc : i.1.cls = RX12) (hd : decode i.2.1 pc = .ok (.getfield 105, 3)) (k : Go WSM G d i (pc + 3) ls (vR 19 :: st) P Q) : Go WSM G d i pc ls (vR 0 :: st) P Q := g_getC (f := 31) (hc ▸ ffM_31) (by decide) rfl rfl hd k
/-- codeA -/
theorem ffM_32 : FF RX12 108 12 32 98 := ⟨RX12, TX12, rfl, by decide, hiM, t_1400⟩
theorem m_g32 (hc : i.1.cls = RX12) (hd : decode i.2.1 pc = .ok (.getfield 108, 3)) (k : Go WSM G d i (pc + 3) ls (vR 20 :: st) P Q) : Go WSM G d i pc ls (vR 0 :: st) P Q := g_getC (f := 32) (hc ▸ ffM_32) (by decide) rfl rfl hd k
/-- codeB -/
theorem ffM_33 : FF RX12 111 12 33 98 := ⟨RX12, TX12, rfl, by decide, hiM, t_1401⟩
theorem m_g33 (hc : i.1.cls = RX12) (hd : decode i.2.1 pc = .ok (.getfield 111, 3)) (k : Go WSM G d i (pc + 3) ls (vR 21 :: st) P Q) : Go WSM G d i pc ls (vR 0 :: st) P Q := g_getC (f := 33) (hc ▸ ffM_33) (by decide) rfl rfl hd k
/-- kindName -/
theorem ffM_34 : FF RX12 114 12 34 98 := ⟨RX12, TX12, rfl, by decide, hiM, t_1402⟩
theorem m_g34 (hc : i.1.cls = RX12) (hd : decode i.2.1 pc = .ok (.getfield 114, 3)) (k : Go WSM G d i (pc + 3) ls (vR 22 :: st) P Q) : Go WSM G d i pc ls (vR 0 :: st) P Q := g_getC (f := 34) (hc ▸ ffM_34) (by decide) rfl rfl hd k
/-- conName -/
theorem ffM_35 : FF RX12 118 12 35 98 := ⟨RX12, TX12, rfl, by decide, hiM, t_1403⟩
theorem m_g35 (hc : i.1.cls = RX12) (hd : decode i.2.1 pc = .ok (.getfield 118, 3)) (k : Go WSM G d i (pc + 3) ls (vR 23 :: st) P Q) : Go WSM G d i pc ls (vR 0 :: st) P Q := g_getC (f := 35) (hc ▸ ffM_35) (by decide) rfl rfl hd k
/-- codes -/
theorem ffM_36 : FF RX12 121 12 36 98 := ⟨RX12, TX12, rfl, by decide, hiM, t_1404⟩
theorem m_g36 {z : Int} (hc : i.1.cls = RX12) (hd : decode i.2.1 pc = .ok (.getfield 121, 3)) (hz : P 0 36 = z) (k : Go WSM G d i (pc + 3) ls (vI z :: st) P Q) : Go WSM G d i pc ls (vR 0 :: st) P Q := by
  subst hz
  exact g_getI (f := 36) (hc ▸ ffM_36) (by decide) rfl rfl hd k
theorem m_p36 {x : Int} (hc : i.1.cls = RX12) (hd : decode i.2.1 pc = .ok (.putfield 121, 3)) (k : Go WSM G d i (pc + 3) ls st (up P 0 36 x) Q) : Go WSM G d i pc ls (vI x :: vR 0 :: st) P Q := g_putI (f := 36) (hc ▸ ⟨RX12, TX12, ffM0 36 (by decide) t_1404, tyM, nmX12, rfl, rfl⟩) (by decide) rfl rfl hd k
/-- in -/
theorem ffM_37 : FF RX12 124 12 37 98 := ⟨RX12, TX12, rfl, by decide, hiM, t_1405⟩
theorem m_g37 {z : Int} (hc : i.1.cls = RX12) (hd : decode i.2.1 pc = .ok (.getfield 124, 3)) (hz : P 0 37 = z) (k : Go WSM G d i (pc + 3) ls (vI z :: st) P Q) : Go WSM G d i pc ls (vR 0 :: st) P Q := by
  subst hz
  exact g_getI (f := 37) (hc ▸ ffM_37) (by decide) rfl rfl hd k
theorem m_p37 {x : Int} (hc : i.1.cls = RX12) (hd : decode i.2.1 pc = .ok (.putfield 124, 3)) (k : Go WSM G d i (pc + 3) ls st (up P 0 37 x) Q) : Go WSM G d i pc ls (vI x :: vR 0 :: st) P Q := g_putI (f := 37) (hc ▸ ⟨RX12, TX12, ffM0 37 (by decide) t_1405, tyM, nmX12, rfl, rfl⟩) (by decide) rfl rfl hd k
/-- isMatched -/
theorem ffM_38 : FF RX12 127 12 38 98 := ⟨RX12, TX12, rfl, by decide, hiM, t_1406⟩
theorem m_g38 {z : Int} (hc : i.1.cls = RX12) (hd : decode i.2.1 pc = .ok (.getfield 127, 3)) (hz : P 0 38 = z) (k : Go WSM G d i (pc + 3) ls (vI z :: st) P Q) : Go WSM G d i pc ls (vR 0 :: st) P Q := by
  subst hz
  exact g_getI (f := 38) (hc ▸ ffM_38) (by decide) rfl rfl hd k
theorem m_p38 {x : Int} (hc : i.1.cls = RX12) (hd : decode i.2.1 pc = .ok (.putfield 127, 3)) (hz : x = 0 ∨ x = 1) (k : Go WSM G d i (pc + 3) ls st (up P 0 38 x) Q) : Go WSM G d i pc ls (vI x :: vR 0 :: st) P Q := g_putZ (f := 38) (hc ▸ ⟨RX12, TX12, ffM0 38 (by decide) t_1406, tyM, nmX12, rfl, rfl⟩) (by decide) rfl rfl hz hd k
/-- openKind -/
theorem ffM_39 : FF RX12 131 12 39 98 := ⟨RX12, TX12, rfl, by decide, hiM, t_1407⟩
theorem m_g39 (hc : i.1.cls = RX12) (hd : decode i.2.1 pc = .ok (.getfield 131, 3)) (k : Go WSM G d i (pc + 3) ls (vR 24 :: st) P Q) : Go WSM G d i pc ls (vR 0 :: st) P Q := g_getC (f := 39) (hc ▸ ffM_39) (by decide) rfl rfl hd k
/-- openAlts -/
theorem ffM_40 : FF RX12 134 12 40 98 := ⟨RX12, TX12, rfl, by decide, hiM, t_1408⟩
theorem m_g40 (hc : i.1.cls = RX12) (hd : decode i.2.1 pc = .ok (.getfield 134, 3)) (k : Go WSM G d i (pc + 3) ls (vR 25 :: st) P Q) : Go WSM G d i pc ls (vR 0 :: st) P Q := g_getC (f := 40) (hc ▸ ffM_40) (by decide) rfl rfl hd k
/-- openCon -/
theorem ffM_41 : FF RX12 137 12 41 98 := ⟨RX12, TX12, rfl, by decide, hiM, t_1409⟩
theorem m_g41 (hc : i.1.cls = RX12) (hd : decode i.2.1 pc = .ok (.getfield 137, 3)) (k : Go WSM G d i (pc + 3) ls (vR 26 :: st) P Q) : Go WSM G d i pc ls (vR 0 :: st) P Q := g_getC (f := 41) (hc ▸ ffM_41) (by decide) rfl rfl hd k
/-- openField -/
theorem ffM_42 : FF RX12 140 12 42 98 := ⟨RX12, TX12, rfl, by decide, hiM, t_1410⟩
theorem m_g42 (hc : i.1.cls = RX12) (hd : decode i.2.1 pc = .ok (.getfield 140, 3)) (k : Go WSM G d i (pc + 3) ls (vR 27 :: st) P Q) : Go WSM G d i pc ls (vR 0 :: st) P Q := g_getC (f := 42) (hc ▸ ffM_42) (by decide) rfl rfl hd k
/-- open -/
theorem ffM_43 : FF RX12 143 12 43 98 := ⟨RX12, TX12, rfl, by decide, hiM, t_1411⟩
theorem m_g43 {z : Int} (hc : i.1.cls = RX12) (hd : decode i.2.1 pc = .ok (.getfield 143, 3)) (hz : P 0 43 = z) (k : Go WSM G d i (pc + 3) ls (vI z :: st) P Q) : Go WSM G d i pc ls (vR 0 :: st) P Q := by
  subst hz
  exact g_getI (f := 43) (hc ▸ ffM_43) (by decide) rfl rfl hd k
theorem m_p43 {x : Int} (hc : i.1.cls = RX12) (hd : decode i.2.1 pc = .ok (.putfield 143, 3)) (k : Go WSM G d i (pc + 3) ls st (up P 0 43 x) Q) : Go WSM G d i pc ls (vI x :: vR 0 :: st) P Q := g_putI (f := 43) (hc ▸ ⟨RX12, TX12, ffM0 43 (by decide) t_1411, tyM, nmX12, rfl, rfl⟩) (by decide) rfl rfl hd k
/-- isMatch -/
theorem ffM_44 : FF RX12 146 12 44 98 := ⟨RX12, TX12, rfl, by decide, hiM, t_1412⟩
theorem m_g44 {z : Int} (hc : i.1.cls = RX12) (hd : decode i.2.1 pc = .ok (.getfield 146, 3)) (hz : P 0 44 = z) (k : Go WSM G d i (pc + 3) ls (vI z :: st) P Q) : Go WSM G d i pc ls (vR 0 :: st) P Q := by
  subst hz
  exact g_getI (f := 44) (hc ▸ ffM_44) (by decide) rfl rfl hd k
theorem m_p44 {x : Int} (hc : i.1.cls = RX12) (hd : decode i.2.1 pc = .ok (.putfield 146, 3)) (hz : x = 0 ∨ x = 1) (k : Go WSM G d i (pc + 3) ls st (up P 0 44 x) Q) : Go WSM G d i pc ls (vI x :: vR 0 :: st) P Q := g_putZ (f := 44) (hc ▸ ⟨RX12, TX12, ffM0 44 (by decide) t_1412, tyM, nmX12, rfl, rfl⟩) (by decide) rfl rfl hz hd k
/-- refused -/
theorem ffM_45 : FF RX12 149 12 45 98 := ⟨RX12, TX12, rfl, by decide, hiM, t_1413⟩
theorem m_g45 (hc : i.1.cls = RX12) (hd : decode i.2.1 pc = .ok (.getfield 149, 3)) (k : Go WSM G d i (pc + 3) ls (vR 28 :: st) P Q) : Go WSM G d i pc ls (vR 0 :: st) P Q := g_getC (f := 45) (hc ▸ ffM_45) (by decide) rfl rfl hd k
/-- gone -/
theorem ffM_46 : FF RX12 152 12 46 98 := ⟨RX12, TX12, rfl, by decide, hiM, t_1414⟩
theorem m_g46 (hc : i.1.cls = RX12) (hd : decode i.2.1 pc = .ok (.getfield 152, 3)) (k : Go WSM G d i (pc + 3) ls (vR 29 :: st) P Q) : Go WSM G d i pc ls (vR 0 :: st) P Q := g_getC (f := 46) (hc ▸ ffM_46) (by decide) rfl rfl hd k
/-- truth -/
theorem ffM_47 : FF RX12 155 12 47 98 := ⟨RX12, TX12, rfl, by decide, hiM, t_1415⟩
theorem m_g47 (hc : i.1.cls = RX12) (hd : decode i.2.1 pc = .ok (.getfield 155, 3)) (k : Go WSM G d i (pc + 3) ls (vR 30 :: st) P Q) : Go WSM G d i pc ls (vR 0 :: st) P Q := g_getC (f := 47) (hc ▸ ffM_47) (by decide) rfl rfl hd k
/-- setOf -/
theorem ffM_48 : FF RX12 158 12 48 98 := ⟨RX12, TX12, rfl, by decide, hiM, t_1416⟩
theorem m_g48 (hc : i.1.cls = RX12) (hd : decode i.2.1 pc = .ok (.getfield 158, 3)) (k : Go WSM G d i (pc + 3) ls (vR 31 :: st) P Q) : Go WSM G d i pc ls (vR 0 :: st) P Q := g_getC (f := 48) (hc ▸ ffM_48) (by decide) rfl rfl hd k
/-- toldSet -/
theorem ffM_49 : FF RX12 161 12 49 98 := ⟨RX12, TX12, rfl, by decide, hiM, t_1417⟩
theorem m_g49 (hc : i.1.cls = RX12) (hd : decode i.2.1 pc = .ok (.getfield 161, 3)) (k : Go WSM G d i (pc + 3) ls (vR 32 :: st) P Q) : Go WSM G d i pc ls (vR 0 :: st) P Q := g_getC (f := 49) (hc ▸ ffM_49) (by decide) rfl rfl hd k
/-- setMany -/
theorem ffM_50 : FF RX12 164 12 50 98 := ⟨RX12, TX12, rfl, by decide, hiM, t_1418⟩
theorem m_g50 (hc : i.1.cls = RX12) (hd : decode i.2.1 pc = .ok (.getfield 164, 3)) (k : Go WSM G d i (pc + 3) ls (vR 33 :: st) P Q) : Go WSM G d i pc ls (vR 0 :: st) P Q := g_getC (f := 50) (hc ▸ ffM_50) (by decide) rfl rfl hd k
/-- setNumber -/
theorem ffM_51 : FF RX12 167 12 51 98 := ⟨RX12, TX12, rfl, by decide, hiM, t_1419⟩
theorem m_g51 (hc : i.1.cls = RX12) (hd : decode i.2.1 pc = .ok (.getfield 167, 3)) (k : Go WSM G d i (pc + 3) ls (vR 34 :: st) P Q) : Go WSM G d i pc ls (vR 0 :: st) P Q := g_getC (f := 51) (hc ▸ ffM_51) (by decide) rfl rfl hd k
/-- rowMany -/
theorem ffM_52 : FF RX12 170 12 52 98 := ⟨RX12, TX12, rfl, by decide, hiM, t_1420⟩
theorem m_g52 {z : Int} (hc : i.1.cls = RX12) (hd : decode i.2.1 pc = .ok (.getfield 170, 3)) (hz : P 0 52 = z) (k : Go WSM G d i (pc + 3) ls (vI z :: st) P Q) : Go WSM G d i pc ls (vR 0 :: st) P Q := by
  subst hz
  exact g_getI (f := 52) (hc ▸ ffM_52) (by decide) rfl rfl hd k
theorem m_p52 {x : Int} (hc : i.1.cls = RX12) (hd : decode i.2.1 pc = .ok (.putfield 170, 3)) (k : Go WSM G d i (pc + 3) ls st (up P 0 52 x) Q) : Go WSM G d i pc ls (vI x :: vR 0 :: st) P Q := g_putI (f := 52) (hc ▸ ⟨RX12, TX12, ffM0 52 (by decide) t_1420, tyM, nmX12, rfl, rfl⟩) (by decide) rfl rfl hd k
/-- armsOf -/
theorem ffM_53 : FF RX12 173 12 53 98 := ⟨RX12, TX12, rfl, by decide, hiM, t_1421⟩
theorem m_g53 (hc : i.1.cls = RX12) (hd : decode i.2.1 pc = .ok (.getfield 173, 3)) (k : Go WSM G d i (pc + 3) ls (vR 35 :: st) P Q) : Go WSM G d i pc ls (vR 0 :: st) P Q := g_getC (f := 53) (hc ▸ ffM_53) (by decide) rfl rfl hd k
/-- orderOf -/
theorem ffM_54 : FF RX12 176 12 54 98 := ⟨RX12, TX12, rfl, by decide, hiM, t_1422⟩
theorem m_g54 (hc : i.1.cls = RX12) (hd : decode i.2.1 pc = .ok (.getfield 176, 3)) (k : Go WSM G d i (pc + 3) ls (vR 36 :: st) P Q) : Go WSM G d i pc ls (vR 0 :: st) P Q := g_getC (f := 54) (hc ▸ ffM_54) (by decide) rfl rfl hd k
/-- guardsOf -/
theorem ffM_55 : FF RX12 179 12 55 98 := ⟨RX12, TX12, rfl, by decide, hiM, t_1423⟩
theorem m_g55 (hc : i.1.cls = RX12) (hd : decode i.2.1 pc = .ok (.getfield 179, 3)) (k : Go WSM G d i (pc + 3) ls (vR 37 :: st) P Q) : Go WSM G d i pc ls (vR 0 :: st) P Q := g_getC (f := 55) (hc ▸ ffM_55) (by decide) rfl rfl hd k
/-- ruleOf -/
theorem ffM_56 : FF RX12 182 12 56 98 := ⟨RX12, TX12, rfl, by decide, hiM, t_1424⟩
theorem m_g56 (hc : i.1.cls = RX12) (hd : decode i.2.1 pc = .ok (.getfield 182, 3)) (k : Go WSM G d i (pc + 3) ls (vR 38 :: st) P Q) : Go WSM G d i pc ls (vR 0 :: st) P Q := g_getC (f := 56) (hc ▸ ffM_56) (by decide) rfl rfl hd k
/-- keptMany -/
theorem ffM_57 : FF RX12 185 12 57 98 := ⟨RX12, TX12, rfl, by decide, hiM, t_1425⟩
theorem m_g57 (hc : i.1.cls = RX12) (hd : decode i.2.1 pc = .ok (.getfield 185, 3)) (k : Go WSM G d i (pc + 3) ls (vR 39 :: st) P Q) : Go WSM G d i pc ls (vR 0 :: st) P Q := g_getC (f := 57) (hc ▸ ffM_57) (by decide) rfl rfl hd k
/-- keptRow -/
theorem ffM_58 : FF RX12 188 12 58 98 := ⟨RX12, TX12, rfl, by decide, hiM, t_1426⟩
theorem m_g58 (hc : i.1.cls = RX12) (hd : decode i.2.1 pc = .ok (.getfield 188, 3)) (k : Go WSM G d i (pc + 3) ls (vR 40 :: st) P Q) : Go WSM G d i pc ls (vR 0 :: st) P Q := g_getC (f := 58) (hc ▸ ffM_58) (by decide) rfl rfl hd k
/-- undoFirst -/
theorem ffM_59 : FF RX12 191 12 59 98 := ⟨RX12, TX12, rfl, by decide, hiM, t_1427⟩
theorem m_g59 {z : Int} (hc : i.1.cls = RX12) (hd : decode i.2.1 pc = .ok (.getfield 191, 3)) (hz : P 0 59 = z) (k : Go WSM G d i (pc + 3) ls (vI z :: st) P Q) : Go WSM G d i pc ls (vR 0 :: st) P Q := by
  subst hz
  exact g_getI (f := 59) (hc ▸ ffM_59) (by decide) rfl rfl hd k
theorem m_p59 {x : Int} (hc : i.1.cls = RX12) (hd : decode i.2.1 pc = .ok (.putfield 191, 3)) (k : Go WSM G d i (pc + 3) ls st (up P 0 59 x) Q) : Go WSM G d i pc ls (vI x :: vR 0 :: st) P Q := g_putI (f := 59) (hc ▸ ⟨RX12, TX12, ffM0 59 (by decide) t_1427, tyM, nmX12, rfl, rfl⟩) (by decide) rfl rfl hd k
/-- undos -/
theorem ffM_60 : FF RX12 194 12 60 98 := ⟨RX12, TX12, rfl, by decide, hiM, t_1428⟩
theorem m_g60 {z : Int} (hc : i.1.cls = RX12) (hd : decode i.2.1 pc = .ok (.getfield 194, 3)) (hz : P 0 60 = z) (k : Go WSM G d i (pc + 3) ls (vI z :: st) P Q) : Go WSM G d i pc ls (vR 0 :: st) P Q := by
  subst hz
  exact g_getI (f := 60) (hc ▸ ffM_60) (by decide) rfl rfl hd k
theorem m_p60 {x : Int} (hc : i.1.cls = RX12) (hd : decode i.2.1 pc = .ok (.putfield 194, 3)) (k : Go WSM G d i (pc + 3) ls st (up P 0 60 x) Q) : Go WSM G d i pc ls (vI x :: vR 0 :: st) P Q := g_putI (f := 60) (hc ▸ ⟨RX12, TX12, ffM0 60 (by decide) t_1428, tyM, nmX12, rfl, rfl⟩) (by decide) rfl rfl hd k
/-- seeds -/
theorem ffM_61 : FF RX12 197 12 61 98 := ⟨RX12, TX12, rfl, by decide, hiM, t_1429⟩
theorem m_g61 {z : Int} (hc : i.1.cls = RX12) (hd : decode i.2.1 pc = .ok (.getfield 197, 3)) (hz : P 0 61 = z) (k : Go WSM G d i (pc + 3) ls (vL z :: st) P Q) : Go WSM G d i pc ls (vR 0 :: st) P Q := by
  subst hz
  exact g_getL (f := 61) (hc ▸ ffM_61) (by decide) rfl rfl hd k
theorem m_p61 {x : Int} (hc : i.1.cls = RX12) (hd : decode i.2.1 pc = .ok (.putfield 197, 3)) (k : Go WSM G d i (pc + 3) ls st (up P 0 61 x) Q) : Go WSM G d i pc ls (vL x :: vR 0 :: st) P Q := g_putL (f := 61) (hc ▸ ⟨RX12, TX12, ffM0 61 (by decide) t_1429, tyM, nmX12, rfl, rfl⟩) (by decide) rfl rfl hd k
/-- places -/
theorem ffM_62 : FF RX12 200 12 62 98 := ⟨RX12, TX12, rfl, by decide, hiM, t_1430⟩
theorem m_g62 {z : Int} (hc : i.1.cls = RX12) (hd : decode i.2.1 pc = .ok (.getfield 200, 3)) (hz : P 0 62 = z) (k : Go WSM G d i (pc + 3) ls (vI z :: st) P Q) : Go WSM G d i pc ls (vR 0 :: st) P Q := by
  subst hz
  exact g_getI (f := 62) (hc ▸ ffM_62) (by decide) rfl rfl hd k
theorem m_p62 {x : Int} (hc : i.1.cls = RX12) (hd : decode i.2.1 pc = .ok (.putfield 200, 3)) (k : Go WSM G d i (pc + 3) ls st (up P 0 62 x) Q) : Go WSM G d i pc ls (vI x :: vR 0 :: st) P Q := g_putI (f := 62) (hc ▸ ⟨RX12, TX12, ffM0 62 (by decide) t_1430, tyM, nmX12, rfl, rfl⟩) (by decide) rfl rfl hd k
/-- placeSet -/
theorem ffM_63 : FF RX12 203 12 63 98 := ⟨RX12, TX12, rfl, by decide, hiM, t_1431⟩
theorem m_g63 (hc : i.1.cls = RX12) (hd : decode i.2.1 pc = .ok (.getfield 203, 3)) (k : Go WSM G d i (pc + 3) ls (vR 41 :: st) P Q) : Go WSM G d i pc ls (vR 0 :: st) P Q := g_getC (f := 63) (hc ▸ ffM_63) (by decide) rfl rfl hd k
/-- fullIn -/
theorem ffM_64 : FF RX12 206 12 64 98 := ⟨RX12, TX12, rfl, by decide, hiM, t_1432⟩
theorem m_g64 (hc : i.1.cls = RX12) (hd : decode i.2.1 pc = .ok (.getfield 206, 3)) (k : Go WSM G d i (pc + 3) ls (vR 42 :: st) P Q) : Go WSM G d i pc ls (vR 0 :: st) P Q := g_getC (f := 64) (hc ▸ ffM_64) (by decide) rfl rfl hd k
/-- guardAt -/
theorem ffM_65 : FF RX12 209 12 65 98 := ⟨RX12, TX12, rfl, by decide, hiM, t_1433⟩
theorem m_g65 (hc : i.1.cls = RX12) (hd : decode i.2.1 pc = .ok (.getfield 209, 3)) (k : Go WSM G d i (pc + 3) ls (vR 43 :: st) P Q) : Go WSM G d i pc ls (vR 0 :: st) P Q := g_getC (f := 65) (hc ▸ ffM_65) (by decide) rfl rfl hd k
/-- unguarded -/
theorem ffM_66 : FF RX12 212 12 66 98 := ⟨RX12, TX12, rfl, by decide, hiM, t_1434⟩
theorem m_g66 {z : Int} (hc : i.1.cls = RX12) (hd : decode i.2.1 pc = .ok (.getfield 212, 3)) (hz : P 0 66 = z) (k : Go WSM G d i (pc + 3) ls (vI z :: st) P Q) : Go WSM G d i pc ls (vR 0 :: st) P Q := by
  subst hz
  exact g_getI (f := 66) (hc ▸ ffM_66) (by decide) rfl rfl hd k
theorem m_p66 {x : Int} (hc : i.1.cls = RX12) (hd : decode i.2.1 pc = .ok (.putfield 212, 3)) (k : Go WSM G d i (pc + 3) ls st (up P 0 66 x) Q) : Go WSM G d i pc ls (vI x :: vR 0 :: st) P Q := g_putI (f := 66) (hc ▸ ⟨RX12, TX12, ffM0 66 (by decide) t_1434, tyM, nmX12, rfl, rfl⟩) (by decide) rfl rfl hd k
/-- valueAt -/
theorem ffM_67 : FF RX12 215 12 67 98 := ⟨RX12, TX12, rfl, by decide, hiM, t_1435⟩
theorem m_g67 (hc : i.1.cls = RX12) (hd : decode i.2.1 pc = .ok (.getfield 215, 3)) (k : Go WSM G d i (pc + 3) ls (vR 44 :: st) P Q) : Go WSM G d i pc ls (vR 0 :: st) P Q := g_getC (f := 67) (hc ▸ ffM_67) (by decide) rfl rfl hd k
/-- manyBy -/
theorem ffM_68 : FF RX12 218 12 68 98 := ⟨RX12, TX12, rfl, by decide, hiM, t_1436⟩
theorem m_g68 (hc : i.1.cls = RX12) (hd : decode i.2.1 pc = .ok (.getfield 218, 3)) (k : Go WSM G d i (pc + 3) ls (vR 45 :: st) P Q) : Go WSM G d i pc ls (vR 0 :: st) P Q := g_getC (f := 68) (hc ▸ ffM_68) (by decide) rfl rfl hd k
/-- out -/
theorem ffM_69 : FF RX12 221 12 69 98 := ⟨RX12, TX12, rfl, by decide, hiM, t_1437⟩
theorem m_g69 (hc : i.1.cls = RX12) (hd : decode i.2.1 pc = .ok (.getfield 221, 3)) (k : Go WSM G d i (pc + 3) ls (vR 46 :: st) P Q) : Go WSM G d i pc ls (vR 0 :: st) P Q := g_getC (f := 69) (hc ▸ ffM_69) (by decide) rfl rfl hd k
/-- outs -/
theorem ffM_70 : FF RX12 224 12 70 98 := ⟨RX12, TX12, rfl, by decide, hiM, t_1438⟩
theorem m_g70 {z : Int} (hc : i.1.cls = RX12) (hd : decode i.2.1 pc = .ok (.getfield 224, 3)) (hz : P 0 70 = z) (k : Go WSM G d i (pc + 3) ls (vI z :: st) P Q) : Go WSM G d i pc ls (vR 0 :: st) P Q := by
  subst hz
  exact g_getI (f := 70) (hc ▸ ffM_70) (by decide) rfl rfl hd k
theorem m_p70 {x : Int} (hc : i.1.cls = RX12) (hd : decode i.2.1 pc = .ok (.putfield 224, 3)) (k : Go WSM G d i (pc + 3) ls st (up P 0 70 x) Q) : Go WSM G d i pc ls (vI x :: vR 0 :: st) P Q := g_putI (f := 70) (hc ▸ ⟨RX12, TX12, ffM0 70 (by decide) t_1438, tyM, nmX12, rfl, rfl⟩) (by decide) rfl rfl hd k
/-- todoKind -/
theorem ffM_71 : FF RX12 227 12 71 98 := ⟨RX12, TX12, rfl, by decide, hiM, t_1439⟩
theorem m_g71 (hc : i.1.cls = RX12) (hd : decode i.2.1 pc = .ok (.getfield 227, 3)) (k : Go WSM G d i (pc + 3) ls (vR 47 :: st) P Q) : Go WSM G d i pc ls (vR 0 :: st) P Q := g_getC (f := 71) (hc ▸ ffM_71) (by decide) rfl rfl hd k
/-- todo -/
theorem ffM_72 : FF RX12 230 12 72 98 := ⟨RX12, TX12, rfl, by decide, hiM, t_1440⟩
theorem m_g72 (hc : i.1.cls = RX12) (hd : decode i.2.1 pc = .ok (.getfield 230, 3)) (k : Go WSM G d i (pc + 3) ls (vR 48 :: st) P Q) : Go WSM G d i pc ls (vR 0 :: st) P Q := g_getC (f := 72) (hc ▸ ffM_72) (by decide) rfl rfl hd k
/-- todos -/
theorem ffM_73 : FF RX12 233 12 73 98 := ⟨RX12, TX12, rfl, by decide, hiM, t_1441⟩
theorem m_g73 {z : Int} (hc : i.1.cls = RX12) (hd : decode i.2.1 pc = .ok (.getfield 233, 3)) (hz : P 0 73 = z) (k : Go WSM G d i (pc + 3) ls (vI z :: st) P Q) : Go WSM G d i pc ls (vR 0 :: st) P Q := by
  subst hz
  exact g_getI (f := 73) (hc ▸ ffM_73) (by decide) rfl rfl hd k
theorem m_p73 {x : Int} (hc : i.1.cls = RX12) (hd : decode i.2.1 pc = .ok (.putfield 233, 3)) (k : Go WSM G d i (pc + 3) ls st (up P 0 73 x) Q) : Go WSM G d i pc ls (vI x :: vR 0 :: st) P Q := g_putI (f := 73) (hc ▸ ⟨RX12, TX12, ffM0 73 (by decide) t_1441, tyM, nmX12, rfl, rfl⟩) (by decide) rfl rfl hd k
/-- stamp -/
theorem ffM_74 : FF RX12 236 12 74 98 := ⟨RX12, TX12, rfl, by decide, hiM, t_1442⟩
theorem m_g74 {z : Int} (hc : i.1.cls = RX12) (hd : decode i.2.1 pc = .ok (.getfield 236, 3)) (hz : P 0 74 = z) (k : Go WSM G d i (pc + 3) ls (vI z :: st) P Q) : Go WSM G d i pc ls (vR 0 :: st) P Q := by
  subst hz
  exact g_getI (f := 74) (hc ▸ ffM_74) (by decide) rfl rfl hd k
theorem m_p74 {x : Int} (hc : i.1.cls = RX12) (hd : decode i.2.1 pc = .ok (.putfield 236, 3)) (k : Go WSM G d i (pc + 3) ls st (up P 0 74 x) Q) : Go WSM G d i pc ls (vI x :: vR 0 :: st) P Q := g_putI (f := 74) (hc ▸ ⟨RX12, TX12, ffM0 74 (by decide) t_1442, tyM, nmX12, rfl, rfl⟩) (by decide) rfl rfl hd k
/-- chosen -/
theorem ffM_75 : FF RX12 240 12 75 98 := ⟨RX12, TX12, rfl, by decide, hiM, t_1443⟩
theorem m_g75 (hc : i.1.cls = RX12) (hd : decode i.2.1 pc = .ok (.getfield 240, 3)) (k : Go WSM G d i (pc + 3) ls (vR 49 :: st) P Q) : Go WSM G d i pc ls (vR 0 :: st) P Q := g_getC (f := 75) (hc ▸ ffM_75) (by decide) rfl rfl hd k
/-- ruleNow -/
theorem ffM_76 : FF RX12 243 12 76 98 := ⟨RX12, TX12, rfl, by decide, hiM, t_1444⟩
theorem m_g76 {z : Int} (hc : i.1.cls = RX12) (hd : decode i.2.1 pc = .ok (.getfield 243, 3)) (hz : P 0 76 = z) (k : Go WSM G d i (pc + 3) ls (vI z :: st) P Q) : Go WSM G d i pc ls (vR 0 :: st) P Q := by
  subst hz
  exact g_getI (f := 76) (hc ▸ ffM_76) (by decide) rfl rfl hd k
theorem m_p76 {x : Int} (hc : i.1.cls = RX12) (hd : decode i.2.1 pc = .ok (.putfield 243, 3)) (k : Go WSM G d i (pc + 3) ls st (up P 0 76 x) Q) : Go WSM G d i pc ls (vI x :: vR 0 :: st) P Q := g_putI (f := 76) (hc ▸ ⟨RX12, TX12, ffM0 76 (by decide) t_1444, tyM, nmX12, rfl, rfl⟩) (by decide) rfl rfl hd k
/-- metBy -/
theorem ffM_77 : FF RX12 246 12 77 98 := ⟨RX12, TX12, rfl, by decide, hiM, t_1445⟩
theorem m_g77 (hc : i.1.cls = RX12) (hd : decode i.2.1 pc = .ok (.getfield 246, 3)) (k : Go WSM G d i (pc + 3) ls (vR 50 :: st) P Q) : Go WSM G d i pc ls (vR 0 :: st) P Q := g_getC (f := 77) (hc ▸ ffM_77) (by decide) rfl rfl hd k
/-- meeting -/
theorem ffM_78 : FF RX12 249 12 78 98 := ⟨RX12, TX12, rfl, by decide, hiM, t_1446⟩
theorem m_g78 {z : Int} (hc : i.1.cls = RX12) (hd : decode i.2.1 pc = .ok (.getfield 249, 3)) (hz : P 0 78 = z) (k : Go WSM G d i (pc + 3) ls (vI z :: st) P Q) : Go WSM G d i pc ls (vR 0 :: st) P Q := by
  subst hz
  exact g_getI (f := 78) (hc ▸ ffM_78) (by decide) rfl rfl hd k
theorem m_p78 {x : Int} (hc : i.1.cls = RX12) (hd : decode i.2.1 pc = .ok (.putfield 249, 3)) (k : Go WSM G d i (pc + 3) ls st (up P 0 78 x) Q) : Go WSM G d i pc ls (vI x :: vR 0 :: st) P Q := g_putI (f := 78) (hc ▸ ⟨RX12, TX12, ffM0 78 (by decide) t_1446, tyM, nmX12, rfl, rfl⟩) (by decide) rfl rfl hd k
/-- reached -/
theorem ffM_79 : FF RX12 252 12 79 98 := ⟨RX12, TX12, rfl, by decide, hiM, t_1447⟩
theorem m_g79 (hc : i.1.cls = RX12) (hd : decode i.2.1 pc = .ok (.getfield 252, 3)) (k : Go WSM G d i (pc + 3) ls (vR 51 :: st) P Q) : Go WSM G d i pc ls (vR 0 :: st) P Q := g_getC (f := 79) (hc ▸ ffM_79) (by decide) rfl rfl hd k
/-- states -/
theorem ffM_80 : FF RX12 255 12 80 98 := ⟨RX12, TX12, rfl, by decide, hiM, t_1448⟩
theorem m_g80 (hc : i.1.cls = RX12) (hd : decode i.2.1 pc = .ok (.getfield 255, 3)) (k : Go WSM G d i (pc + 3) ls (vR 52 :: st) P Q) : Go WSM G d i pc ls (vR 0 :: st) P Q := g_getC (f := 80) (hc ▸ ffM_80) (by decide) rfl rfl hd k
/-- stateMany -/
theorem ffM_81 : FF RX12 258 12 81 98 := ⟨RX12, TX12, rfl, by decide, hiM, t_1449⟩
theorem m_g81 {z : Int} (hc : i.1.cls = RX12) (hd : decode i.2.1 pc = .ok (.getfield 258, 3)) (hz : P 0 81 = z) (k : Go WSM G d i (pc + 3) ls (vI z :: st) P Q) : Go WSM G d i pc ls (vR 0 :: st) P Q := by
  subst hz
  exact g_getI (f := 81) (hc ▸ ffM_81) (by decide) rfl rfl hd k
theorem m_p81 {x : Int} (hc : i.1.cls = RX12) (hd : decode i.2.1 pc = .ok (.putfield 258, 3)) (k : Go WSM G d i (pc + 3) ls st (up P 0 81 x) Q) : Go WSM G d i pc ls (vI x :: vR 0 :: st) P Q := g_putI (f := 81) (hc ▸ ⟨RX12, TX12, ffM0 81 (by decide) t_1449, tyM, nmX12, rfl, rfl⟩) (by decide) rfl rfl hd k
/-- below -/
theorem ffM_82 : FF RX12 261 12 82 98 := ⟨RX12, TX12, rfl, by decide, hiM, t_1450⟩
theorem m_g82 (hc : i.1.cls = RX12) (hd : decode i.2.1 pc = .ok (.getfield 261, 3)) (k : Go WSM G d i (pc + 3) ls (vR 53 :: st) P Q) : Go WSM G d i pc ls (vR 0 :: st) P Q := g_getC (f := 82) (hc ▸ ffM_82) (by decide) rfl rfl hd k
/-- openLeft -/
theorem ffM_83 : FF RX12 264 12 83 98 := ⟨RX12, TX12, rfl, by decide, hiM, t_1451⟩
theorem m_g83 (hc : i.1.cls = RX12) (hd : decode i.2.1 pc = .ok (.getfield 264, 3)) (k : Go WSM G d i (pc + 3) ls (vR 54 :: st) P Q) : Go WSM G d i pc ls (vR 0 :: st) P Q := g_getC (f := 83) (hc ▸ ffM_83) (by decide) rfl rfl hd k
/-- openNext -/
theorem ffM_84 : FF RX12 267 12 84 98 := ⟨RX12, TX12, rfl, by decide, hiM, t_1452⟩
theorem m_g84 (hc : i.1.cls = RX12) (hd : decode i.2.1 pc = .ok (.getfield 267, 3)) (k : Go WSM G d i (pc + 3) ls (vR 55 :: st) P Q) : Go WSM G d i pc ls (vR 0 :: st) P Q := g_getC (f := 84) (hc ▸ ffM_84) (by decide) rfl rfl hd k
/-- openScope -/
theorem ffM_85 : FF RX12 270 12 85 98 := ⟨RX12, TX12, rfl, by decide, hiM, t_1453⟩
theorem m_g85 (hc : i.1.cls = RX12) (hd : decode i.2.1 pc = .ok (.getfield 270, 3)) (k : Go WSM G d i (pc + 3) ls (vR 56 :: st) P Q) : Go WSM G d i pc ls (vR 0 :: st) P Q := g_getC (f := 85) (hc ▸ ffM_85) (by decide) rfl rfl hd k
/-- shut -/
theorem ffM_86 : FF RX12 273 12 86 98 := ⟨RX12, TX12, rfl, by decide, hiM, t_1454⟩
theorem m_g86 (hc : i.1.cls = RX12) (hd : decode i.2.1 pc = .ok (.getfield 273, 3)) (k : Go WSM G d i (pc + 3) ls (vR 57 :: st) P Q) : Go WSM G d i pc ls (vR 0 :: st) P Q := g_getC (f := 86) (hc ▸ ffM_86) (by decide) rfl rfl hd k
/-- scopeMany -/
theorem ffM_87 : FF RX12 276 12 87 98 := ⟨RX12, TX12, rfl, by decide, hiM, t_1455⟩
theorem m_g87 {z : Int} (hc : i.1.cls = RX12) (hd : decode i.2.1 pc = .ok (.getfield 276, 3)) (hz : P 0 87 = z) (k : Go WSM G d i (pc + 3) ls (vI z :: st) P Q) : Go WSM G d i pc ls (vR 0 :: st) P Q := by
  subst hz
  exact g_getI (f := 87) (hc ▸ ffM_87) (by decide) rfl rfl hd k
theorem m_p87 {x : Int} (hc : i.1.cls = RX12) (hd : decode i.2.1 pc = .ok (.putfield 276, 3)) (k : Go WSM G d i (pc + 3) ls st (up P 0 87 x) Q) : Go WSM G d i pc ls (vI x :: vR 0 :: st) P Q := g_putI (f := 87) (hc ▸ ⟨RX12, TX12, ffM0 87 (by decide) t_1455, tyM, nmX12, rfl, rfl⟩) (by decide) rfl rfl hd k
/-- shutMany -/
theorem ffM_88 : FF RX12 279 12 88 98 := ⟨RX12, TX12, rfl, by decide, hiM, t_1456⟩
theorem m_g88 {z : Int} (hc : i.1.cls = RX12) (hd : decode i.2.1 pc = .ok (.getfield 279, 3)) (hz : P 0 88 = z) (k : Go WSM G d i (pc + 3) ls (vI z :: st) P Q) : Go WSM G d i pc ls (vR 0 :: st) P Q := by
  subst hz
  exact g_getI (f := 88) (hc ▸ ffM_88) (by decide) rfl rfl hd k
theorem m_p88 {x : Int} (hc : i.1.cls = RX12) (hd : decode i.2.1 pc = .ok (.putfield 279, 3)) (k : Go WSM G d i (pc + 3) ls st (up P 0 88 x) Q) : Go WSM G d i pc ls (vI x :: vR 0 :: st) P Q := g_putI (f := 88) (hc ▸ ⟨RX12, TX12, ffM0 88 (by decide) t_1456, tyM, nmX12, rfl, rfl⟩) (by decide) rfl rfl hd k
/-- mostOpen -/
theorem ffM_89 : FF RX12 282 12 89 98 := ⟨RX12, TX12, rfl, by decide, hiM, t_1457⟩
theorem m_g89 {z : Int} (hc : i.1.cls = RX12) (hd : decode i.2.1 pc = .ok (.getfield 282, 3)) (hz : P 0 89 = z) (k : Go WSM G d i (pc + 3) ls (vI z :: st) P Q) : Go WSM G d i pc ls (vR 0 :: st) P Q := by
  subst hz
  exact g_getI (f := 89) (hc ▸ ffM_89) (by decide) rfl rfl hd k
theorem m_p89 {x : Int} (hc : i.1.cls = RX12) (hd : decode i.2.1 pc = .ok (.putfield 282, 3)) (k : Go WSM G d i (pc + 3) ls st (up P 0 89 x) Q) : Go WSM G d i pc ls (vI x :: vR 0 :: st) P Q := g_putI (f := 89) (hc ▸ ⟨RX12, TX12, ffM0 89 (by decide) t_1457, tyM, nmX12, rfl, rfl⟩) (by decide) rfl rfl hd k
/-- isStopped -/
theorem ffM_90 : FF RX12 285 12 90 98 := ⟨RX12, TX12, rfl, by decide, hiM, t_1458⟩
theorem m_g90 {z : Int} (hc : i.1.cls = RX12) (hd : decode i.2.1 pc = .ok (.getfield 285, 3)) (hz : P 0 90 = z) (k : Go WSM G d i (pc + 3) ls (vI z :: st) P Q) : Go WSM G d i pc ls (vR 0 :: st) P Q := by
  subst hz
  exact g_getI (f := 90) (hc ▸ ffM_90) (by decide) rfl rfl hd k
theorem m_p90 {x : Int} (hc : i.1.cls = RX12) (hd : decode i.2.1 pc = .ok (.putfield 285, 3)) (hz : x = 0 ∨ x = 1) (k : Go WSM G d i (pc + 3) ls st (up P 0 90 x) Q) : Go WSM G d i pc ls (vI x :: vR 0 :: st) P Q := g_putZ (f := 90) (hc ▸ ⟨RX12, TX12, ffM0 90 (by decide) t_1458, tyM, nmX12, rfl, rfl⟩) (by decide) rfl rfl hz hd k
/-- isFair -/
theorem ffM_91 : FF RX12 288 12 91 98 := ⟨RX12, TX12, rfl, by decide, hiM, t_1459⟩
theorem m_g91 (hc : i.1.cls = RX12) (hd : decode i.2.1 pc = .ok (.getfield 288, 3)) (k : Go WSM G d i (pc + 3) ls (vR 58 :: st) P Q) : Go WSM G d i pc ls (vR 0 :: st) P Q := g_getC (f := 91) (hc ▸ ffM_91) (by decide) rfl rfl hd k
/-- seenMany -/
theorem ffM_92 : FF RX12 291 12 92 98 := ⟨RX12, TX12, rfl, by decide, hiM, t_1460⟩
theorem m_g92 {z : Int} (hc : i.1.cls = RX12) (hd : decode i.2.1 pc = .ok (.getfield 291, 3)) (hz : P 0 92 = z) (k : Go WSM G d i (pc + 3) ls (vI z :: st) P Q) : Go WSM G d i pc ls (vR 0 :: st) P Q := by
  subst hz
  exact g_getI (f := 92) (hc ▸ ffM_92) (by decide) rfl rfl hd k
theorem m_p92 {x : Int} (hc : i.1.cls = RX12) (hd : decode i.2.1 pc = .ok (.putfield 291, 3)) (k : Go WSM G d i (pc + 3) ls st (up P 0 92 x) Q) : Go WSM G d i pc ls (vI x :: vR 0 :: st) P Q := g_putI (f := 92) (hc ▸ ⟨RX12, TX12, ffM0 92 (by decide) t_1460, tyM, nmX12, rfl, rfl⟩) (by decide) rfl rfl hd k
/-- seenRow -/
theorem ffM_93 : FF RX12 294 12 93 98 := ⟨RX12, TX12, rfl, by decide, hiM, t_1461⟩
theorem m_g93 (hc : i.1.cls = RX12) (hd : decode i.2.1 pc = .ok (.getfield 294, 3)) (k : Go WSM G d i (pc + 3) ls (vR 59 :: st) P Q) : Go WSM G d i pc ls (vR 0 :: st) P Q := g_getC (f := 93) (hc ▸ ffM_93) (by decide) rfl rfl hd k
/-- seenArm -/
theorem ffM_94 : FF RX12 297 12 94 98 := ⟨RX12, TX12, rfl, by decide, hiM, t_1462⟩
theorem m_g94 (hc : i.1.cls = RX12) (hd : decode i.2.1 pc = .ok (.getfield 297, 3)) (k : Go WSM G d i (pc + 3) ls (vR 60 :: st) P Q) : Go WSM G d i pc ls (vR 0 :: st) P Q := g_getC (f := 94) (hc ▸ ffM_94) (by decide) rfl rfl hd k
/-- isLeft -/
theorem ffM_95 : FF RX12 300 12 95 98 := ⟨RX12, TX12, rfl, by decide, hiM, t_1463⟩
theorem m_g95 (hc : i.1.cls = RX12) (hd : decode i.2.1 pc = .ok (.getfield 300, 3)) (k : Go WSM G d i (pc + 3) ls (vR 61 :: st) P Q) : Go WSM G d i pc ls (vR 0 :: st) P Q := g_getC (f := 95) (hc ▸ ffM_95) (by decide) rfl rfl hd k
/-- openOf -/
theorem ffM_96 : FF RX12 303 12 96 98 := ⟨RX12, TX12, rfl, by decide, hiM, t_1464⟩
theorem m_g96 (hc : i.1.cls = RX12) (hd : decode i.2.1 pc = .ok (.getfield 303, 3)) (k : Go WSM G d i (pc + 3) ls (vR 62 :: st) P Q) : Go WSM G d i pc ls (vR 0 :: st) P Q := g_getC (f := 96) (hc ▸ ffM_96) (by decide) rfl rfl hd k
/-- manyArm -/
theorem ffM_97 : FF RX12 306 12 97 98 := ⟨RX12, TX12, rfl, by decide, hiM, t_1465⟩
theorem m_g97 (hc : i.1.cls = RX12) (hd : decode i.2.1 pc = .ok (.getfield 306, 3)) (k : Go WSM G d i (pc + 3) ls (vR 63 :: st) P Q) : Go WSM G d i pc ls (vR 0 :: st) P Q := g_getC (f := 97) (hc ▸ ffM_97) (by decide) rfl rfl hd k
/-- tape -/
theorem m_l1 {x z : Int} (hd : decode i.2.1 pc = .ok (.iaload, 1)) (hx : 0 ≤ x ∧ x < 1800) (hz : P 1 x = z) (k : Go WSM G d i (pc + 1) ls (vI z :: st) P Q) : Go WSM G d i pc ls (vI x :: vR 1 :: st) P Q := by
  subst hz
  exact g_iald (o := 1) (n := 1800) (by decide) rfl rfl (by decide) hx hd k
theorem m_s1 {x z : Int} (hd : decode i.2.1 pc = .ok (.iastore, 1)) (hx : 0 ≤ x ∧ x < 1800) (k : Go WSM G d i (pc + 1) ls st (up P 1 x z) Q) : Go WSM G d i pc ls (vI z :: vI x :: vR 1 :: st) P Q := g_iast (o := 1) (n := 1800) (by decide) rfl rfl (by decide) hx hd k
/-- kindMany -/
theorem m_l2 {x z : Int} (hd : decode i.2.1 pc = .ok (.iaload, 1)) (hx : 0 ≤ x ∧ x < 2) (hz : P 2 x = z) (k : Go WSM G d i (pc + 1) ls (vI z :: st) P Q) : Go WSM G d i pc ls (vI x :: vR 2 :: st) P Q := by
  subst hz
  exact g_iald (o := 2) (n := 2) (by decide) rfl rfl (by decide) hx hd k
theorem m_s2 {x z : Int} (hd : decode i.2.1 pc = .ok (.iastore, 1)) (hx : 0 ≤ x ∧ x < 2) (k : Go WSM G d i (pc + 1) ls st (up P 2 x z) Q) : Go WSM G d i pc ls (vI z :: vI x :: vR 2 :: st) P Q := g_iast (o := 2) (n := 2) (by decide) rfl rfl (by decide) hx hd k
/-- kindValues -/
theorem m_l3 {x z : Int} (hd : decode i.2.1 pc = .ok (.iaload, 1)) (hx : 0 ≤ x ∧ x < 10) (hz : P 3 x = z) (k : Go WSM G d i (pc + 1) ls (vI z :: st) P Q) : Go WSM G d i pc ls (vI x :: vR 3 :: st) P Q := by
  subst hz
  exact g_iald (o := 3) (n := 10) (by decide) rfl rfl (by decide) hx hd k
theorem m_s3 {x z : Int} (hd : decode i.2.1 pc = .ok (.iastore, 1)) (hx : 0 ≤ x ∧ x < 10) (k : Go WSM G d i (pc + 1) ls st (up P 3 x z) Q) : Go WSM G d i pc ls (vI z :: vI x :: vR 3 :: st) P Q := g_iast (o := 3) (n := 10) (by decide) rfl rfl (by decide) hx hd k
/-- kindCons -/
theorem m_l4 {x z : Int} (hd : decode i.2.1 pc = .ok (.iaload, 1)) (hx : 0 ≤ x ∧ x < 10) (hz : P 4 x = z) (k : Go WSM G d i (pc + 1) ls (vI z :: st) P Q) : Go WSM G d i pc ls (vI x :: vR 4 :: st) P Q := by
  subst hz
  exact g_iald (o := 4) (n := 10) (by decide) rfl rfl (by decide) hx hd k
theorem m_s4 {x z : Int} (hd : decode i.2.1 pc = .ok (.iastore, 1)) (hx : 0 ≤ x ∧ x < 10) (k : Go WSM G d i (pc + 1) ls st (up P 4 x z) Q) : Go WSM G d i pc ls (vI z :: vI x :: vR 4 :: st) P Q := g_iast (o := 4) (n := 10) (by decide) rfl rfl (by decide) hx hd k
/-- conMany -/
theorem m_l5 {x z : Int} (hd : decode i.2.1 pc = .ok (.iaload, 1)) (hx : 0 ≤ x ∧ x < 2) (hz : P 5 x = z) (k : Go WSM G d i (pc + 1) ls (vI z :: st) P Q) : Go WSM G d i pc ls (vI x :: vR 5 :: st) P Q := by
  subst hz
  exact g_iald (o := 5) (n := 2) (by decide) rfl rfl (by decide) hx hd k
theorem m_s5 {x z : Int} (hd : decode i.2.1 pc = .ok (.iastore, 1)) (hx : 0 ≤ x ∧ x < 2) (k : Go WSM G d i (pc + 1) ls st (up P 5 x z) Q) : Go WSM G d i pc ls (vI z :: vI x :: vR 5 :: st) P Q := g_iast (o := 5) (n := 2) (by decide) rfl rfl (by decide) hx hd k
/-- conKind -/
theorem m_l6 {x z : Int} (hd : decode i.2.1 pc = .ok (.iaload, 1)) (hx : 0 ≤ x ∧ x < 48) (hz : P 6 x = z) (k : Go WSM G d i (pc + 1) ls (vI z :: st) P Q) : Go WSM G d i pc ls (vI x :: vR 6 :: st) P Q := by
  subst hz
  exact g_iald (o := 6) (n := 48) (by decide) rfl rfl (by decide) hx hd k
theorem m_s6 {x z : Int} (hd : decode i.2.1 pc = .ok (.iastore, 1)) (hx : 0 ≤ x ∧ x < 48) (k : Go WSM G d i (pc + 1) ls st (up P 6 x z) Q) : Go WSM G d i pc ls (vI z :: vI x :: vR 6 :: st) P Q := g_iast (o := 6) (n := 48) (by decide) rfl rfl (by decide) hx hd k
/-- conFields -/
theorem m_l7 {x z : Int} (hd : decode i.2.1 pc = .ok (.iaload, 1)) (hx : 0 ≤ x ∧ x < 48) (hz : P 7 x = z) (k : Go WSM G d i (pc + 1) ls (vI z :: st) P Q) : Go WSM G d i pc ls (vI x :: vR 7 :: st) P Q := by
  subst hz
  exact g_iald (o := 7) (n := 48) (by decide) rfl rfl (by decide) hx hd k
theorem m_s7 {x z : Int} (hd : decode i.2.1 pc = .ok (.iastore, 1)) (hx : 0 ≤ x ∧ x < 48) (k : Go WSM G d i (pc + 1) ls st (up P 7 x z) Q) : Go WSM G d i pc ls (vI z :: vI x :: vR 7 :: st) P Q := g_iast (o := 7) (n := 48) (by decide) rfl rfl (by decide) hx hd k
/-- conField -/
theorem m_l8 {x z : Int} (hd : decode i.2.1 pc = .ok (.iaload, 1)) (hx : 0 ≤ x ∧ x < 96) (hz : P 8 x = z) (k : Go WSM G d i (pc + 1) ls (vI z :: st) P Q) : Go WSM G d i pc ls (vI x :: vR 8 :: st) P Q := by
  subst hz
  exact g_iald (o := 8) (n := 96) (by decide) rfl rfl (by decide) hx hd k
theorem m_s8 {x z : Int} (hd : decode i.2.1 pc = .ok (.iastore, 1)) (hx : 0 ≤ x ∧ x < 96) (k : Go WSM G d i (pc + 1) ls st (up P 8 x z) Q) : Go WSM G d i pc ls (vI z :: vI x :: vR 8 :: st) P Q := g_iast (o := 8) (n := 96) (by decide) rfl rfl (by decide) hx hd k
/-- conFrom -/
theorem m_l9 {x z : Int} (hd : decode i.2.1 pc = .ok (.iaload, 1)) (hx : 0 ≤ x ∧ x < 48) (hz : P 9 x = z) (k : Go WSM G d i (pc + 1) ls (vI z :: st) P Q) : Go WSM G d i pc ls (vI x :: vR 9 :: st) P Q := by
  subst hz
  exact g_iald (o := 9) (n := 48) (by decide) rfl rfl (by decide) hx hd k
theorem m_s9 {x z : Int} (hd : decode i.2.1 pc = .ok (.iastore, 1)) (hx : 0 ≤ x ∧ x < 48) (k : Go WSM G d i (pc + 1) ls st (up P 9 x z) Q) : Go WSM G d i pc ls (vI z :: vI x :: vR 9 :: st) P Q := g_iast (o := 9) (n := 48) (by decide) rfl rfl (by decide) hx hd k
/-- conValues -/
theorem m_l10 {x z : Int} (hd : decode i.2.1 pc = .ok (.iaload, 1)) (hx : 0 ≤ x ∧ x < 48) (hz : P 10 x = z) (k : Go WSM G d i (pc + 1) ls (vI z :: st) P Q) : Go WSM G d i pc ls (vI x :: vR 10 :: st) P Q := by
  subst hz
  exact g_iald (o := 10) (n := 48) (by decide) rfl rfl (by decide) hx hd k
theorem m_s10 {x z : Int} (hd : decode i.2.1 pc = .ok (.iastore, 1)) (hx : 0 ≤ x ∧ x < 48) (k : Go WSM G d i (pc + 1) ls st (up P 10 x z) Q) : Go WSM G d i pc ls (vI z :: vI x :: vR 10 :: st) P Q := g_iast (o := 10) (n := 48) (by decide) rfl rfl (by decide) hx hd k
/-- columnMany -/
theorem m_l11 {x z : Int} (hd : decode i.2.1 pc = .ok (.iaload, 1)) (hx : 0 ≤ x ∧ x < 2) (hz : P 11 x = z) (k : Go WSM G d i (pc + 1) ls (vI z :: st) P Q) : Go WSM G d i pc ls (vI x :: vR 11 :: st) P Q := by
  subst hz
  exact g_iald (o := 11) (n := 2) (by decide) rfl rfl (by decide) hx hd k
theorem m_s11 {x z : Int} (hd : decode i.2.1 pc = .ok (.iastore, 1)) (hx : 0 ≤ x ∧ x < 2) (k : Go WSM G d i (pc + 1) ls st (up P 11 x z) Q) : Go WSM G d i pc ls (vI z :: vI x :: vR 11 :: st) P Q := g_iast (o := 11) (n := 2) (by decide) rfl rfl (by decide) hx hd k
/-- columnKind -/
theorem m_l12 {x z : Int} (hd : decode i.2.1 pc = .ok (.iaload, 1)) (hx : 0 ≤ x ∧ x < 8) (hz : P 12 x = z) (k : Go WSM G d i (pc + 1) ls (vI z :: st) P Q) : Go WSM G d i pc ls (vI x :: vR 12 :: st) P Q := by
  subst hz
  exact g_iald (o := 12) (n := 8) (by decide) rfl rfl (by decide) hx hd k
theorem m_s12 {x z : Int} (hd : decode i.2.1 pc = .ok (.iastore, 1)) (hx : 0 ≤ x ∧ x < 8) (k : Go WSM G d i (pc + 1) ls st (up P 12 x z) Q) : Go WSM G d i pc ls (vI z :: vI x :: vR 12 :: st) P Q := g_iast (o := 12) (n := 8) (by decide) rfl rfl (by decide) hx hd k
/-- armMany -/
theorem m_l13 {x z : Int} (hd : decode i.2.1 pc = .ok (.iaload, 1)) (hx : 0 ≤ x ∧ x < 2) (hz : P 13 x = z) (k : Go WSM G d i (pc + 1) ls (vI z :: st) P Q) : Go WSM G d i pc ls (vI x :: vR 13 :: st) P Q := by
  subst hz
  exact g_iald (o := 13) (n := 2) (by decide) rfl rfl (by decide) hx hd k
theorem m_s13 {x z : Int} (hd : decode i.2.1 pc = .ok (.iastore, 1)) (hx : 0 ≤ x ∧ x < 2) (k : Go WSM G d i (pc + 1) ls st (up P 13 x z) Q) : Go WSM G d i pc ls (vI z :: vI x :: vR 13 :: st) P Q := g_iast (o := 13) (n := 2) (by decide) rfl rfl (by decide) hx hd k
/-- armGuard -/
theorem m_l14 {x z : Int} (hd : decode i.2.1 pc = .ok (.iaload, 1)) (hx : 0 ≤ x ∧ x < 24) (hz : P 14 x = z) (k : Go WSM G d i (pc + 1) ls (vI z :: st) P Q) : Go WSM G d i pc ls (vI x :: vR 14 :: st) P Q := by
  subst hz
  exact g_iald (o := 14) (n := 24) (by decide) rfl rfl (by decide) hx hd k
theorem m_s14 {x z : Int} (hd : decode i.2.1 pc = .ok (.iastore, 1)) (hx : 0 ≤ x ∧ x < 24) (k : Go WSM G d i (pc + 1) ls st (up P 14 x z) Q) : Go WSM G d i pc ls (vI z :: vI x :: vR 14 :: st) P Q := g_iast (o := 14) (n := 24) (by decide) rfl rfl (by decide) hx hd k
/-- ruleTold -/
theorem m_l15 {x z : Int} (hd : decode i.2.1 pc = .ok (.iaload, 1)) (hx : 0 ≤ x ∧ x < 2) (hz : P 15 x = z) (k : Go WSM G d i (pc + 1) ls (vI z :: st) P Q) : Go WSM G d i pc ls (vI x :: vR 15 :: st) P Q := by
  subst hz
  exact g_iald (o := 15) (n := 2) (by decide) rfl rfl (by decide) hx hd k
theorem m_s15 {x z : Int} (hd : decode i.2.1 pc = .ok (.iastore, 1)) (hx : 0 ≤ x ∧ x < 2) (k : Go WSM G d i (pc + 1) ls st (up P 15 x z) Q) : Go WSM G d i pc ls (vI z :: vI x :: vR 15 :: st) P Q := g_iast (o := 15) (n := 2) (by decide) rfl rfl (by decide) hx hd k
/-- budgetTold -/
theorem m_l16 {x z : Int} (hd : decode i.2.1 pc = .ok (.iaload, 1)) (hx : 0 ≤ x ∧ x < 2) (hz : P 16 x = z) (k : Go WSM G d i (pc + 1) ls (vI z :: st) P Q) : Go WSM G d i pc ls (vI x :: vR 16 :: st) P Q := by
  subst hz
  exact g_iald (o := 16) (n := 2) (by decide) rfl rfl (by decide) hx hd k
theorem m_s16 {x z : Int} (hd : decode i.2.1 pc = .ok (.iastore, 1)) (hx : 0 ≤ x ∧ x < 2) (k : Go WSM G d i (pc + 1) ls st (up P 16 x z) Q) : Go WSM G d i pc ls (vI z :: vI x :: vR 16 :: st) P Q := g_iast (o := 16) (n := 2) (by decide) rfl rfl (by decide) hx hd k
/-- patFrom -/
theorem m_l17 {x z : Int} (hd : decode i.2.1 pc = .ok (.iaload, 1)) (hx : 0 ≤ x ∧ x < 96) (hz : P 17 x = z) (k : Go WSM G d i (pc + 1) ls (vI z :: st) P Q) : Go WSM G d i pc ls (vI x :: vR 17 :: st) P Q := by
  subst hz
  exact g_iald (o := 17) (n := 96) (by decide) rfl rfl (by decide) hx hd k
theorem m_s17 {x z : Int} (hd : decode i.2.1 pc = .ok (.iastore, 1)) (hx : 0 ≤ x ∧ x < 96) (k : Go WSM G d i (pc + 1) ls st (up P 17 x z) Q) : Go WSM G d i pc ls (vI z :: vI x :: vR 17 :: st) P Q := g_iast (o := 17) (n := 96) (by decide) rfl rfl (by decide) hx hd k
/-- patBehind -/
theorem m_l18 {x z : Int} (hd : decode i.2.1 pc = .ok (.iaload, 1)) (hx : 0 ≤ x ∧ x < 96) (hz : P 18 x = z) (k : Go WSM G d i (pc + 1) ls (vI z :: st) P Q) : Go WSM G d i pc ls (vI x :: vR 18 :: st) P Q := by
  subst hz
  exact g_iald (o := 18) (n := 96) (by decide) rfl rfl (by decide) hx hd k
theorem m_s18 {x z : Int} (hd : decode i.2.1 pc = .ok (.iastore, 1)) (hx : 0 ≤ x ∧ x < 96) (k : Go WSM G d i (pc + 1) ls st (up P 18 x z) Q) : Go WSM G d i pc ls (vI z :: vI x :: vR 18 :: st) P Q := g_iast (o := 18) (n := 96) (by decide) rfl rfl (by decide) hx hd k
/-- codeOp -/
theorem m_l19 {x z : Int} (hd : decode i.2.1 pc = .ok (.iaload, 1)) (hx : 0 ≤ x ∧ x < 5600) (hz : P 19 x = z) (k : Go WSM G d i (pc + 1) ls (vI z :: st) P Q) : Go WSM G d i pc ls (vI x :: vR 19 :: st) P Q := by
  subst hz
  exact g_iald (o := 19) (n := 5600) (by decide) rfl rfl (by decide) hx hd k
theorem m_s19 {x z : Int} (hd : decode i.2.1 pc = .ok (.iastore, 1)) (hx : 0 ≤ x ∧ x < 5600) (k : Go WSM G d i (pc + 1) ls st (up P 19 x z) Q) : Go WSM G d i pc ls (vI z :: vI x :: vR 19 :: st) P Q := g_iast (o := 19) (n := 5600) (by decide) rfl rfl (by decide) hx hd k
/-- codeA -/
theorem m_l20 {x z : Int} (hd : decode i.2.1 pc = .ok (.iaload, 1)) (hx : 0 ≤ x ∧ x < 5600) (hz : P 20 x = z) (k : Go WSM G d i (pc + 1) ls (vI z :: st) P Q) : Go WSM G d i pc ls (vI x :: vR 20 :: st) P Q := by
  subst hz
  exact g_iald (o := 20) (n := 5600) (by decide) rfl rfl (by decide) hx hd k
theorem m_s20 {x z : Int} (hd : decode i.2.1 pc = .ok (.iastore, 1)) (hx : 0 ≤ x ∧ x < 5600) (k : Go WSM G d i (pc + 1) ls st (up P 20 x z) Q) : Go WSM G d i pc ls (vI z :: vI x :: vR 20 :: st) P Q := g_iast (o := 20) (n := 5600) (by decide) rfl rfl (by decide) hx hd k
/-- codeB -/
theorem m_l21 {x z : Int} (hd : decode i.2.1 pc = .ok (.iaload, 1)) (hx : 0 ≤ x ∧ x < 5600) (hz : P 21 x = z) (k : Go WSM G d i (pc + 1) ls (vI z :: st) P Q) : Go WSM G d i pc ls (vI x :: vR 21 :: st) P Q := by
  subst hz
  exact g_iald (o := 21) (n := 5600) (by decide) rfl rfl (by decide) hx hd k
theorem m_s21 {x z : Int} (hd : decode i.2.1 pc = .ok (.iastore, 1)) (hx : 0 ≤ x ∧ x < 5600) (k : Go WSM G d i (pc + 1) ls st (up P 21 x z) Q) : Go WSM G d i pc ls (vI z :: vI x :: vR 21 :: st) P Q := g_iast (o := 21) (n := 5600) (by decide) rfl rfl (by decide) hx hd k
/-- kindName -/
theorem m_l22 {x z : Int} (hd : decode i.2.1 pc = .ok (.laload, 1)) (hx : 0 ≤ x ∧ x < 8) (hz : P 22 x = z) (k : Go WSM G d i (pc + 1) ls (vL z :: st) P Q) : Go WSM G d i pc ls (vI x :: vR 22 :: st) P Q := by
  subst hz
  exact g_lald (o := 22) (n := 8) (by decide) rfl rfl (by decide) hx hd k
theorem m_s22 {x z : Int} (hd : decode i.2.1 pc = .ok (.lastore, 1)) (hx : 0 ≤ x ∧ x < 8) (k : Go WSM G d i (pc + 1) ls st (up P 22 x z) Q) : Go WSM G d i pc ls (vL z :: vI x :: vR 22 :: st) P Q := g_last (o := 22) (n := 8) (by decide) rfl rfl (by decide) hx hd k
/-- conName -/
theorem m_l23 {x z : Int} (hd : decode i.2.1 pc = .ok (.laload, 1)) (hx : 0 ≤ x ∧ x < 48) (hz : P 23 x = z) (k : Go WSM G d i (pc + 1) ls (vL z :: st) P Q) : Go WSM G d i pc ls (vI x :: vR 23 :: st) P Q := by
  subst hz
  exact g_lald (o := 23) (n := 48) (by decide) rfl rfl (by decide) hx hd k
theorem m_s23 {x z : Int} (hd : decode i.2.1 pc = .ok (.lastore, 1)) (hx : 0 ≤ x ∧ x < 48) (k : Go WSM G d i (pc + 1) ls st (up P 23 x z) Q) : Go WSM G d i pc ls (vL z :: vI x :: vR 23 :: st) P Q := g_last (o := 23) (n := 48) (by decide) rfl rfl (by decide) hx hd k
/-- openKind -/
theorem m_l24 {x z : Int} (hd : decode i.2.1 pc = .ok (.iaload, 1)) (hx : 0 ≤ x ∧ x < 10) (hz : P 24 x = z) (k : Go WSM G d i (pc + 1) ls (vI z :: st) P Q) : Go WSM G d i pc ls (vI x :: vR 24 :: st) P Q := by
  subst hz
  exact g_iald (o := 24) (n := 10) (by decide) rfl rfl (by decide) hx hd k
theorem m_s24 {x z : Int} (hd : decode i.2.1 pc = .ok (.iastore, 1)) (hx : 0 ≤ x ∧ x < 10) (k : Go WSM G d i (pc + 1) ls st (up P 24 x z) Q) : Go WSM G d i pc ls (vI z :: vI x :: vR 24 :: st) P Q := g_iast (o := 24) (n := 10) (by decide) rfl rfl (by decide) hx hd k
/-- openAlts -/
theorem m_l25 {x z : Int} (hd : decode i.2.1 pc = .ok (.iaload, 1)) (hx : 0 ≤ x ∧ x < 10) (hz : P 25 x = z) (k : Go WSM G d i (pc + 1) ls (vI z :: st) P Q) : Go WSM G d i pc ls (vI x :: vR 25 :: st) P Q := by
  subst hz
  exact g_iald (o := 25) (n := 10) (by decide) rfl rfl (by decide) hx hd k
theorem m_s25 {x z : Int} (hd : decode i.2.1 pc = .ok (.iastore, 1)) (hx : 0 ≤ x ∧ x < 10) (k : Go WSM G d i (pc + 1) ls st (up P 25 x z) Q) : Go WSM G d i pc ls (vI z :: vI x :: vR 25 :: st) P Q := g_iast (o := 25) (n := 10) (by decide) rfl rfl (by decide) hx hd k
/-- openCon -/
theorem m_l26 {x z : Int} (hd : decode i.2.1 pc = .ok (.iaload, 1)) (hx : 0 ≤ x ∧ x < 10) (hz : P 26 x = z) (k : Go WSM G d i (pc + 1) ls (vI z :: st) P Q) : Go WSM G d i pc ls (vI x :: vR 26 :: st) P Q := by
  subst hz
  exact g_iald (o := 26) (n := 10) (by decide) rfl rfl (by decide) hx hd k
theorem m_s26 {x z : Int} (hd : decode i.2.1 pc = .ok (.iastore, 1)) (hx : 0 ≤ x ∧ x < 10) (k : Go WSM G d i (pc + 1) ls st (up P 26 x z) Q) : Go WSM G d i pc ls (vI z :: vI x :: vR 26 :: st) P Q := g_iast (o := 26) (n := 10) (by decide) rfl rfl (by decide) hx hd k
/-- openField -/
theorem m_l27 {x z : Int} (hd : decode i.2.1 pc = .ok (.iaload, 1)) (hx : 0 ≤ x ∧ x < 10) (hz : P 27 x = z) (k : Go WSM G d i (pc + 1) ls (vI z :: st) P Q) : Go WSM G d i pc ls (vI x :: vR 27 :: st) P Q := by
  subst hz
  exact g_iald (o := 27) (n := 10) (by decide) rfl rfl (by decide) hx hd k
theorem m_s27 {x z : Int} (hd : decode i.2.1 pc = .ok (.iastore, 1)) (hx : 0 ≤ x ∧ x < 10) (k : Go WSM G d i (pc + 1) ls st (up P 27 x z) Q) : Go WSM G d i pc ls (vI z :: vI x :: vR 27 :: st) P Q := g_iast (o := 27) (n := 10) (by decide) rfl rfl (by decide) hx hd k
/-- refused -/
theorem m_l28 {x z : Int} (hd : decode i.2.1 pc = .ok (.iaload, 1)) (hx : 0 ≤ x ∧ x < 6) (hz : P 28 x = z) (k : Go WSM G d i (pc + 1) ls (vI z :: st) P Q) : Go WSM G d i pc ls (vI x :: vR 28 :: st) P Q := by
  subst hz
  exact g_iald (o := 28) (n := 6) (by decide) rfl rfl (by decide) hx hd k
theorem m_s28 {x z : Int} (hd : decode i.2.1 pc = .ok (.iastore, 1)) (hx : 0 ≤ x ∧ x < 6) (k : Go WSM G d i (pc + 1) ls st (up P 28 x z) Q) : Go WSM G d i pc ls (vI z :: vI x :: vR 28 :: st) P Q := g_iast (o := 28) (n := 6) (by decide) rfl rfl (by decide) hx hd k
/-- gone -/
theorem m_l29 {x z : Int} (hd : decode i.2.1 pc = .ok (.iaload, 1)) (hx : 0 ≤ x ∧ x < 12) (hz : P 29 x = z) (k : Go WSM G d i (pc + 1) ls (vI z :: st) P Q) : Go WSM G d i pc ls (vI x :: vR 29 :: st) P Q := by
  subst hz
  exact g_iald (o := 29) (n := 12) (by decide) rfl rfl (by decide) hx hd k
theorem m_s29 {x z : Int} (hd : decode i.2.1 pc = .ok (.iastore, 1)) (hx : 0 ≤ x ∧ x < 12) (k : Go WSM G d i (pc + 1) ls st (up P 29 x z) Q) : Go WSM G d i pc ls (vI z :: vI x :: vR 29 :: st) P Q := g_iast (o := 29) (n := 12) (by decide) rfl rfl (by decide) hx hd k
/-- truth -/
theorem m_l30 {x z : Int} (hd : decode i.2.1 pc = .ok (.iaload, 1)) (hx : 0 ≤ x ∧ x < 900) (hz : P 30 x = z) (k : Go WSM G d i (pc + 1) ls (vI z :: st) P Q) : Go WSM G d i pc ls (vI x :: vR 30 :: st) P Q := by
  subst hz
  exact g_iald (o := 30) (n := 900) (by decide) rfl rfl (by decide) hx hd k
theorem m_s30 {x z : Int} (hd : decode i.2.1 pc = .ok (.iastore, 1)) (hx : 0 ≤ x ∧ x < 900) (k : Go WSM G d i (pc + 1) ls st (up P 30 x z) Q) : Go WSM G d i pc ls (vI z :: vI x :: vR 30 :: st) P Q := g_iast (o := 30) (n := 900) (by decide) rfl rfl (by decide) hx hd k
/-- setOf -/
theorem m_l31 {x z : Int} (hd : decode i.2.1 pc = .ok (.iaload, 1)) (hx : 0 ≤ x ∧ x < 8040) (hz : P 31 x = z) (k : Go WSM G d i (pc + 1) ls (vI z :: st) P Q) : Go WSM G d i pc ls (vI x :: vR 31 :: st) P Q := by
  subst hz
  exact g_iald (o := 31) (n := 8040) (by decide) rfl rfl (by decide) hx hd k
theorem m_s31 {x z : Int} (hd : decode i.2.1 pc = .ok (.iastore, 1)) (hx : 0 ≤ x ∧ x < 8040) (k : Go WSM G d i (pc + 1) ls st (up P 31 x z) Q) : Go WSM G d i pc ls (vI z :: vI x :: vR 31 :: st) P Q := g_iast (o := 31) (n := 8040) (by decide) rfl rfl (by decide) hx hd k
/-- toldSet -/
theorem m_l32 {x z : Int} (hd : decode i.2.1 pc = .ok (.iaload, 1)) (hx : 0 ≤ x ∧ x < 8040) (hz : P 32 x = z) (k : Go WSM G d i (pc + 1) ls (vI z :: st) P Q) : Go WSM G d i pc ls (vI x :: vR 32 :: st) P Q := by
  subst hz
  exact g_iald (o := 32) (n := 8040) (by decide) rfl rfl (by decide) hx hd k
theorem m_s32 {x z : Int} (hd : decode i.2.1 pc = .ok (.iastore, 1)) (hx : 0 ≤ x ∧ x < 8040) (k : Go WSM G d i (pc + 1) ls st (up P 32 x z) Q) : Go WSM G d i pc ls (vI z :: vI x :: vR 32 :: st) P Q := g_iast (o := 32) (n := 8040) (by decide) rfl rfl (by decide) hx hd k
/-- setMany -/
theorem m_l33 {x z : Int} (hd : decode i.2.1 pc = .ok (.iaload, 1)) (hx : 0 ≤ x ∧ x < 4) (hz : P 33 x = z) (k : Go WSM G d i (pc + 1) ls (vI z :: st) P Q) : Go WSM G d i pc ls (vI x :: vR 33 :: st) P Q := by
  subst hz
  exact g_iald (o := 33) (n := 4) (by decide) rfl rfl (by decide) hx hd k
theorem m_s33 {x z : Int} (hd : decode i.2.1 pc = .ok (.iastore, 1)) (hx : 0 ≤ x ∧ x < 4) (k : Go WSM G d i (pc + 1) ls st (up P 33 x z) Q) : Go WSM G d i pc ls (vI z :: vI x :: vR 33 :: st) P Q := g_iast (o := 33) (n := 4) (by decide) rfl rfl (by decide) hx hd k
/-- setNumber -/
theorem m_l34 {x z : Int} (hd : decode i.2.1 pc = .ok (.iaload, 1)) (hx : 0 ≤ x ∧ x < 4096) (hz : P 34 x = z) (k : Go WSM G d i (pc + 1) ls (vI z :: st) P Q) : Go WSM G d i pc ls (vI x :: vR 34 :: st) P Q := by
  subst hz
  exact g_iald (o := 34) (n := 4096) (by decide) rfl rfl (by decide) hx hd k
theorem m_s34 {x z : Int} (hd : decode i.2.1 pc = .ok (.iastore, 1)) (hx : 0 ≤ x ∧ x < 4096) (k : Go WSM G d i (pc + 1) ls st (up P 34 x z) Q) : Go WSM G d i pc ls (vI z :: vI x :: vR 34 :: st) P Q := g_iast (o := 34) (n := 4096) (by decide) rfl rfl (by decide) hx hd k
/-- armsOf -/
theorem m_l35 {x z : Int} (hd : decode i.2.1 pc = .ok (.iaload, 1)) (hx : 0 ≤ x ∧ x < 22) (hz : P 35 x = z) (k : Go WSM G d i (pc + 1) ls (vI z :: st) P Q) : Go WSM G d i pc ls (vI x :: vR 35 :: st) P Q := by
  subst hz
  exact g_iald (o := 35) (n := 22) (by decide) rfl rfl (by decide) hx hd k
theorem m_s35 {x z : Int} (hd : decode i.2.1 pc = .ok (.iastore, 1)) (hx : 0 ≤ x ∧ x < 22) (k : Go WSM G d i (pc + 1) ls st (up P 35 x z) Q) : Go WSM G d i pc ls (vI z :: vI x :: vR 35 :: st) P Q := g_iast (o := 35) (n := 22) (by decide) rfl rfl (by decide) hx hd k
/-- orderOf -/
theorem m_l36 {x z : Int} (hd : decode i.2.1 pc = .ok (.iaload, 1)) (hx : 0 ≤ x ∧ x < 264) (hz : P 36 x = z) (k : Go WSM G d i (pc + 1) ls (vI z :: st) P Q) : Go WSM G d i pc ls (vI x :: vR 36 :: st) P Q := by
  subst hz
  exact g_iald (o := 36) (n := 264) (by decide) rfl rfl (by decide) hx hd k
theorem m_s36 {x z : Int} (hd : decode i.2.1 pc = .ok (.iastore, 1)) (hx : 0 ≤ x ∧ x < 264) (k : Go WSM G d i (pc + 1) ls st (up P 36 x z) Q) : Go WSM G d i pc ls (vI z :: vI x :: vR 36 :: st) P Q := g_iast (o := 36) (n := 264) (by decide) rfl rfl (by decide) hx hd k
/-- guardsOf -/
theorem m_l37 {x z : Int} (hd : decode i.2.1 pc = .ok (.iaload, 1)) (hx : 0 ≤ x ∧ x < 22) (hz : P 37 x = z) (k : Go WSM G d i (pc + 1) ls (vI z :: st) P Q) : Go WSM G d i pc ls (vI x :: vR 37 :: st) P Q := by
  subst hz
  exact g_iald (o := 37) (n := 22) (by decide) rfl rfl (by decide) hx hd k
theorem m_s37 {x z : Int} (hd : decode i.2.1 pc = .ok (.iastore, 1)) (hx : 0 ≤ x ∧ x < 22) (k : Go WSM G d i (pc + 1) ls st (up P 37 x z) Q) : Go WSM G d i pc ls (vI z :: vI x :: vR 37 :: st) P Q := g_iast (o := 37) (n := 22) (by decide) rfl rfl (by decide) hx hd k
/-- ruleOf -/
theorem m_l38 {x z : Int} (hd : decode i.2.1 pc = .ok (.iaload, 1)) (hx : 0 ≤ x ∧ x < 22) (hz : P 38 x = z) (k : Go WSM G d i (pc + 1) ls (vI z :: st) P Q) : Go WSM G d i pc ls (vI x :: vR 38 :: st) P Q := by
  subst hz
  exact g_iald (o := 38) (n := 22) (by decide) rfl rfl (by decide) hx hd k
theorem m_s38 {x z : Int} (hd : decode i.2.1 pc = .ok (.iastore, 1)) (hx : 0 ≤ x ∧ x < 22) (k : Go WSM G d i (pc + 1) ls st (up P 38 x z) Q) : Go WSM G d i pc ls (vI z :: vI x :: vR 38 :: st) P Q := g_iast (o := 38) (n := 22) (by decide) rfl rfl (by decide) hx hd k
/-- keptMany -/
theorem m_l39 {x z : Int} (hd : decode i.2.1 pc = .ok (.iaload, 1)) (hx : 0 ≤ x ∧ x < 22) (hz : P 39 x = z) (k : Go WSM G d i (pc + 1) ls (vI z :: st) P Q) : Go WSM G d i pc ls (vI x :: vR 39 :: st) P Q := by
  subst hz
  exact g_iald (o := 39) (n := 22) (by decide) rfl rfl (by decide) hx hd k
theorem m_s39 {x z : Int} (hd : decode i.2.1 pc = .ok (.iastore, 1)) (hx : 0 ≤ x ∧ x < 22) (k : Go WSM G d i (pc + 1) ls st (up P 39 x z) Q) : Go WSM G d i pc ls (vI z :: vI x :: vR 39 :: st) P Q := g_iast (o := 39) (n := 22) (by decide) rfl rfl (by decide) hx hd k
/-- keptRow -/
theorem m_l40 {x z : Int} (hd : decode i.2.1 pc = .ok (.iaload, 1)) (hx : 0 ≤ x ∧ x < 2640) (hz : P 40 x = z) (k : Go WSM G d i (pc + 1) ls (vI z :: st) P Q) : Go WSM G d i pc ls (vI x :: vR 40 :: st) P Q := by
  subst hz
  exact g_iald (o := 40) (n := 2640) (by decide) rfl rfl (by decide) hx hd k
theorem m_s40 {x z : Int} (hd : decode i.2.1 pc = .ok (.iastore, 1)) (hx : 0 ≤ x ∧ x < 2640) (k : Go WSM G d i (pc + 1) ls st (up P 40 x z) Q) : Go WSM G d i pc ls (vI z :: vI x :: vR 40 :: st) P Q := g_iast (o := 40) (n := 2640) (by decide) rfl rfl (by decide) hx hd k
/-- placeSet -/
theorem m_l41 {x z : Int} (hd : decode i.2.1 pc = .ok (.iaload, 1)) (hx : 0 ≤ x ∧ x < 8040) (hz : P 41 x = z) (k : Go WSM G d i (pc + 1) ls (vI z :: st) P Q) : Go WSM G d i pc ls (vI x :: vR 41 :: st) P Q := by
  subst hz
  exact g_iald (o := 41) (n := 8040) (by decide) rfl rfl (by decide) hx hd k
theorem m_s41 {x z : Int} (hd : decode i.2.1 pc = .ok (.iastore, 1)) (hx : 0 ≤ x ∧ x < 8040) (k : Go WSM G d i (pc + 1) ls st (up P 41 x z) Q) : Go WSM G d i pc ls (vI z :: vI x :: vR 41 :: st) P Q := g_iast (o := 41) (n := 8040) (by decide) rfl rfl (by decide) hx hd k
/-- fullIn -/
theorem m_l42 {x z : Int} (hd : decode i.2.1 pc = .ok (.iaload, 1)) (hx : 0 ≤ x ∧ x < 4) (hz : P 42 x = z) (k : Go WSM G d i (pc + 1) ls (vI z :: st) P Q) : Go WSM G d i pc ls (vI x :: vR 42 :: st) P Q := by
  subst hz
  exact g_iald (o := 42) (n := 4) (by decide) rfl rfl (by decide) hx hd k
theorem m_s42 {x z : Int} (hd : decode i.2.1 pc = .ok (.iastore, 1)) (hx : 0 ≤ x ∧ x < 4) (k : Go WSM G d i (pc + 1) ls st (up P 42 x z) Q) : Go WSM G d i pc ls (vI z :: vI x :: vR 42 :: st) P Q := g_iast (o := 42) (n := 4) (by decide) rfl rfl (by decide) hx hd k
/-- guardAt -/
theorem m_l43 {x z : Int} (hd : decode i.2.1 pc = .ok (.iaload, 1)) (hx : 0 ≤ x ∧ x < 12) (hz : P 43 x = z) (k : Go WSM G d i (pc + 1) ls (vI z :: st) P Q) : Go WSM G d i pc ls (vI x :: vR 43 :: st) P Q := by
  subst hz
  exact g_iald (o := 43) (n := 12) (by decide) rfl rfl (by decide) hx hd k
theorem m_s43 {x z : Int} (hd : decode i.2.1 pc = .ok (.iastore, 1)) (hx : 0 ≤ x ∧ x < 12) (k : Go WSM G d i (pc + 1) ls st (up P 43 x z) Q) : Go WSM G d i pc ls (vI z :: vI x :: vR 43 :: st) P Q := g_iast (o := 43) (n := 12) (by decide) rfl rfl (by decide) hx hd k
/-- valueAt -/
theorem m_l44 {x z : Int} (hd : decode i.2.1 pc = .ok (.iaload, 1)) (hx : 0 ≤ x ∧ x < 4) (hz : P 44 x = z) (k : Go WSM G d i (pc + 1) ls (vI z :: st) P Q) : Go WSM G d i pc ls (vI x :: vR 44 :: st) P Q := by
  subst hz
  exact g_iald (o := 44) (n := 4) (by decide) rfl rfl (by decide) hx hd k
theorem m_s44 {x z : Int} (hd : decode i.2.1 pc = .ok (.iastore, 1)) (hx : 0 ≤ x ∧ x < 4) (k : Go WSM G d i (pc + 1) ls st (up P 44 x z) Q) : Go WSM G d i pc ls (vI z :: vI x :: vR 44 :: st) P Q := g_iast (o := 44) (n := 4) (by decide) rfl rfl (by decide) hx hd k
/-- manyBy -/
theorem m_l45 {x z : Int} (hd : decode i.2.1 pc = .ok (.iaload, 1)) (hx : 0 ≤ x ∧ x < 4096) (hz : P 45 x = z) (k : Go WSM G d i (pc + 1) ls (vI z :: st) P Q) : Go WSM G d i pc ls (vI x :: vR 45 :: st) P Q := by
  subst hz
  exact g_iald (o := 45) (n := 4096) (by decide) rfl rfl (by decide) hx hd k
theorem m_s45 {x z : Int} (hd : decode i.2.1 pc = .ok (.iastore, 1)) (hx : 0 ≤ x ∧ x < 4096) (k : Go WSM G d i (pc + 1) ls st (up P 45 x z) Q) : Go WSM G d i pc ls (vI z :: vI x :: vR 45 :: st) P Q := g_iast (o := 45) (n := 4096) (by decide) rfl rfl (by decide) hx hd k
/-- out -/
theorem m_l46 {x z : Int} (hd : decode i.2.1 pc = .ok (.iaload, 1)) (hx : 0 ≤ x ∧ x < 1800) (hz : P 46 x = z) (k : Go WSM G d i (pc + 1) ls (vI z :: st) P Q) : Go WSM G d i pc ls (vI x :: vR 46 :: st) P Q := by
  subst hz
  exact g_iald (o := 46) (n := 1800) (by decide) rfl rfl (by decide) hx hd k
theorem m_s46 {x z : Int} (hd : decode i.2.1 pc = .ok (.iastore, 1)) (hx : 0 ≤ x ∧ x < 1800) (k : Go WSM G d i (pc + 1) ls st (up P 46 x z) Q) : Go WSM G d i pc ls (vI z :: vI x :: vR 46 :: st) P Q := g_iast (o := 46) (n := 1800) (by decide) rfl rfl (by decide) hx hd k
/-- todoKind -/
theorem m_l47 {x z : Int} (hd : decode i.2.1 pc = .ok (.iaload, 1)) (hx : 0 ≤ x ∧ x < 40) (hz : P 47 x = z) (k : Go WSM G d i (pc + 1) ls (vI z :: st) P Q) : Go WSM G d i pc ls (vI x :: vR 47 :: st) P Q := by
  subst hz
  exact g_iald (o := 47) (n := 40) (by decide) rfl rfl (by decide) hx hd k
theorem m_s47 {x z : Int} (hd : decode i.2.1 pc = .ok (.iastore, 1)) (hx : 0 ≤ x ∧ x < 40) (k : Go WSM G d i (pc + 1) ls st (up P 47 x z) Q) : Go WSM G d i pc ls (vI z :: vI x :: vR 47 :: st) P Q := g_iast (o := 47) (n := 40) (by decide) rfl rfl (by decide) hx hd k
/-- todo -/
theorem m_l48 {x z : Int} (hd : decode i.2.1 pc = .ok (.iaload, 1)) (hx : 0 ≤ x ∧ x < 40) (hz : P 48 x = z) (k : Go WSM G d i (pc + 1) ls (vI z :: st) P Q) : Go WSM G d i pc ls (vI x :: vR 48 :: st) P Q := by
  subst hz
  exact g_iald (o := 48) (n := 40) (by decide) rfl rfl (by decide) hx hd k
theorem m_s48 {x z : Int} (hd : decode i.2.1 pc = .ok (.iastore, 1)) (hx : 0 ≤ x ∧ x < 40) (k : Go WSM G d i (pc + 1) ls st (up P 48 x z) Q) : Go WSM G d i pc ls (vI z :: vI x :: vR 48 :: st) P Q := g_iast (o := 48) (n := 40) (by decide) rfl rfl (by decide) hx hd k
/-- chosen -/
theorem m_l49 {x z : Int} (hd : decode i.2.1 pc = .ok (.iaload, 1)) (hx : 0 ≤ x ∧ x < 65536) (hz : P 49 x = z) (k : Go WSM G d i (pc + 1) ls (vI z :: st) P Q) : Go WSM G d i pc ls (vI x :: vR 49 :: st) P Q := by
  subst hz
  exact g_iald (o := 49) (n := 65536) (by decide) rfl rfl (by decide) hx hd k
theorem m_s49 {x z : Int} (hd : decode i.2.1 pc = .ok (.iastore, 1)) (hx : 0 ≤ x ∧ x < 65536) (k : Go WSM G d i (pc + 1) ls st (up P 49 x z) Q) : Go WSM G d i pc ls (vI z :: vI x :: vR 49 :: st) P Q := g_iast (o := 49) (n := 65536) (by decide) rfl rfl (by decide) hx hd k
/-- metBy -/
theorem m_l50 {x z : Int} (hd : decode i.2.1 pc = .ok (.iaload, 1)) (hx : 0 ≤ x ∧ x < 4096) (hz : P 50 x = z) (k : Go WSM G d i (pc + 1) ls (vI z :: st) P Q) : Go WSM G d i pc ls (vI x :: vR 50 :: st) P Q := by
  subst hz
  exact g_iald (o := 50) (n := 4096) (by decide) rfl rfl (by decide) hx hd k
theorem m_s50 {x z : Int} (hd : decode i.2.1 pc = .ok (.iastore, 1)) (hx : 0 ≤ x ∧ x < 4096) (k : Go WSM G d i (pc + 1) ls st (up P 50 x z) Q) : Go WSM G d i pc ls (vI z :: vI x :: vR 50 :: st) P Q := g_iast (o := 50) (n := 4096) (by decide) rfl rfl (by decide) hx hd k
/-- reached -/
theorem m_l51 {x z : Int} (hd : decode i.2.1 pc = .ok (.iaload, 1)) (hx : 0 ≤ x ∧ x < 65536) (hz : P 51 x = z) (k : Go WSM G d i (pc + 1) ls (vI z :: st) P Q) : Go WSM G d i pc ls (vI x :: vR 51 :: st) P Q := by
  subst hz
  exact g_iald (o := 51) (n := 65536) (by decide) rfl rfl (by decide) hx hd k
theorem m_s51 {x z : Int} (hd : decode i.2.1 pc = .ok (.iastore, 1)) (hx : 0 ≤ x ∧ x < 65536) (k : Go WSM G d i (pc + 1) ls st (up P 51 x z) Q) : Go WSM G d i pc ls (vI z :: vI x :: vR 51 :: st) P Q := g_iast (o := 51) (n := 65536) (by decide) rfl rfl (by decide) hx hd k
/-- states -/
theorem m_l52 {x z : Int} (hd : decode i.2.1 pc = .ok (.iaload, 1)) (hx : 0 ≤ x ∧ x < 65536) (hz : P 52 x = z) (k : Go WSM G d i (pc + 1) ls (vI z :: st) P Q) : Go WSM G d i pc ls (vI x :: vR 52 :: st) P Q := by
  subst hz
  exact g_iald (o := 52) (n := 65536) (by decide) rfl rfl (by decide) hx hd k
theorem m_s52 {x z : Int} (hd : decode i.2.1 pc = .ok (.iastore, 1)) (hx : 0 ≤ x ∧ x < 65536) (k : Go WSM G d i (pc + 1) ls st (up P 52 x z) Q) : Go WSM G d i pc ls (vI z :: vI x :: vR 52 :: st) P Q := g_iast (o := 52) (n := 65536) (by decide) rfl rfl (by decide) hx hd k
/-- below -/
theorem m_l53 {x z : Int} (hd : decode i.2.1 pc = .ok (.iaload, 1)) (hx : 0 ≤ x ∧ x < 65536) (hz : P 53 x = z) (k : Go WSM G d i (pc + 1) ls (vI z :: st) P Q) : Go WSM G d i pc ls (vI x :: vR 53 :: st) P Q := by
  subst hz
  exact g_iald (o := 53) (n := 65536) (by decide) rfl rfl (by decide) hx hd k
theorem m_s53 {x z : Int} (hd : decode i.2.1 pc = .ok (.iastore, 1)) (hx : 0 ≤ x ∧ x < 65536) (k : Go WSM G d i (pc + 1) ls st (up P 53 x z) Q) : Go WSM G d i pc ls (vI z :: vI x :: vR 53 :: st) P Q := g_iast (o := 53) (n := 65536) (by decide) rfl rfl (by decide) hx hd k
/-- openLeft -/
theorem m_l54 {x z : Int} (hd : decode i.2.1 pc = .ok (.iaload, 1)) (hx : 0 ≤ x ∧ x < 40) (hz : P 54 x = z) (k : Go WSM G d i (pc + 1) ls (vI z :: st) P Q) : Go WSM G d i pc ls (vI x :: vR 54 :: st) P Q := by
  subst hz
  exact g_iald (o := 54) (n := 40) (by decide) rfl rfl (by decide) hx hd k
theorem m_s54 {x z : Int} (hd : decode i.2.1 pc = .ok (.iastore, 1)) (hx : 0 ≤ x ∧ x < 40) (k : Go WSM G d i (pc + 1) ls st (up P 54 x z) Q) : Go WSM G d i pc ls (vI z :: vI x :: vR 54 :: st) P Q := g_iast (o := 54) (n := 40) (by decide) rfl rfl (by decide) hx hd k
/-- openNext -/
theorem m_l55 {x z : Int} (hd : decode i.2.1 pc = .ok (.iaload, 1)) (hx : 0 ≤ x ∧ x < 40) (hz : P 55 x = z) (k : Go WSM G d i (pc + 1) ls (vI z :: st) P Q) : Go WSM G d i pc ls (vI x :: vR 55 :: st) P Q := by
  subst hz
  exact g_iald (o := 55) (n := 40) (by decide) rfl rfl (by decide) hx hd k
theorem m_s55 {x z : Int} (hd : decode i.2.1 pc = .ok (.iastore, 1)) (hx : 0 ≤ x ∧ x < 40) (k : Go WSM G d i (pc + 1) ls st (up P 55 x z) Q) : Go WSM G d i pc ls (vI z :: vI x :: vR 55 :: st) P Q := g_iast (o := 55) (n := 40) (by decide) rfl rfl (by decide) hx hd k
/-- openScope -/
theorem m_l56 {x z : Int} (hd : decode i.2.1 pc = .ok (.iaload, 1)) (hx : 0 ≤ x ∧ x < 40) (hz : P 56 x = z) (k : Go WSM G d i (pc + 1) ls (vI z :: st) P Q) : Go WSM G d i pc ls (vI x :: vR 56 :: st) P Q := by
  subst hz
  exact g_iald (o := 56) (n := 40) (by decide) rfl rfl (by decide) hx hd k
theorem m_s56 {x z : Int} (hd : decode i.2.1 pc = .ok (.iastore, 1)) (hx : 0 ≤ x ∧ x < 40) (k : Go WSM G d i (pc + 1) ls st (up P 56 x z) Q) : Go WSM G d i pc ls (vI z :: vI x :: vR 56 :: st) P Q := g_iast (o := 56) (n := 40) (by decide) rfl rfl (by decide) hx hd k
/-- shut -/
theorem m_l57 {x z : Int} (hd : decode i.2.1 pc = .ok (.iaload, 1)) (hx : 0 ≤ x ∧ x < 1000) (hz : P 57 x = z) (k : Go WSM G d i (pc + 1) ls (vI z :: st) P Q) : Go WSM G d i pc ls (vI x :: vR 57 :: st) P Q := by
  subst hz
  exact g_iald (o := 57) (n := 1000) (by decide) rfl rfl (by decide) hx hd k
theorem m_s57 {x z : Int} (hd : decode i.2.1 pc = .ok (.iastore, 1)) (hx : 0 ≤ x ∧ x < 1000) (k : Go WSM G d i (pc + 1) ls st (up P 57 x z) Q) : Go WSM G d i pc ls (vI z :: vI x :: vR 57 :: st) P Q := g_iast (o := 57) (n := 1000) (by decide) rfl rfl (by decide) hx hd k
/-- isFair -/
theorem m_l58 {x z : Int} (hd : decode i.2.1 pc = .ok (.iaload, 1)) (hx : 0 ≤ x ∧ x < 12) (hz : P 58 x = z) (k : Go WSM G d i (pc + 1) ls (vI z :: st) P Q) : Go WSM G d i pc ls (vI x :: vR 58 :: st) P Q := by
  subst hz
  exact g_iald (o := 58) (n := 12) (by decide) rfl rfl (by decide) hx hd k
theorem m_s58 {x z : Int} (hd : decode i.2.1 pc = .ok (.iastore, 1)) (hx : 0 ≤ x ∧ x < 12) (k : Go WSM G d i (pc + 1) ls st (up P 58 x z) Q) : Go WSM G d i pc ls (vI z :: vI x :: vR 58 :: st) P Q := g_iast (o := 58) (n := 12) (by decide) rfl rfl (by decide) hx hd k
/-- seenRow -/
theorem m_l59 {x z : Int} (hd : decode i.2.1 pc = .ok (.iaload, 1)) (hx : 0 ≤ x ∧ x < 16) (hz : P 59 x = z) (k : Go WSM G d i (pc + 1) ls (vI z :: st) P Q) : Go WSM G d i pc ls (vI x :: vR 59 :: st) P Q := by
  subst hz
  exact g_iald (o := 59) (n := 16) (by decide) rfl rfl (by decide) hx hd k
theorem m_s59 {x z : Int} (hd : decode i.2.1 pc = .ok (.iastore, 1)) (hx : 0 ≤ x ∧ x < 16) (k : Go WSM G d i (pc + 1) ls st (up P 59 x z) Q) : Go WSM G d i pc ls (vI z :: vI x :: vR 59 :: st) P Q := g_iast (o := 59) (n := 16) (by decide) rfl rfl (by decide) hx hd k
/-- seenArm -/
theorem m_l60 {x z : Int} (hd : decode i.2.1 pc = .ok (.iaload, 1)) (hx : 0 ≤ x ∧ x < 16) (hz : P 60 x = z) (k : Go WSM G d i (pc + 1) ls (vI z :: st) P Q) : Go WSM G d i pc ls (vI x :: vR 60 :: st) P Q := by
  subst hz
  exact g_iald (o := 60) (n := 16) (by decide) rfl rfl (by decide) hx hd k
theorem m_s60 {x z : Int} (hd : decode i.2.1 pc = .ok (.iastore, 1)) (hx : 0 ≤ x ∧ x < 16) (k : Go WSM G d i (pc + 1) ls st (up P 60 x z) Q) : Go WSM G d i pc ls (vI z :: vI x :: vR 60 :: st) P Q := g_iast (o := 60) (n := 16) (by decide) rfl rfl (by decide) hx hd k
/-- isLeft -/
theorem m_l61 {x z : Int} (hd : decode i.2.1 pc = .ok (.iaload, 1)) (hx : 0 ≤ x ∧ x < 256) (hz : P 61 x = z) (k : Go WSM G d i (pc + 1) ls (vI z :: st) P Q) : Go WSM G d i pc ls (vI x :: vR 61 :: st) P Q := by
  subst hz
  exact g_iald (o := 61) (n := 256) (by decide) rfl rfl (by decide) hx hd k
theorem m_s61 {x z : Int} (hd : decode i.2.1 pc = .ok (.iastore, 1)) (hx : 0 ≤ x ∧ x < 256) (k : Go WSM G d i (pc + 1) ls st (up P 61 x z) Q) : Go WSM G d i pc ls (vI z :: vI x :: vR 61 :: st) P Q := g_iast (o := 61) (n := 256) (by decide) rfl rfl (by decide) hx hd k
/-- openOf -/
theorem m_l62 {x z : Int} (hd : decode i.2.1 pc = .ok (.iaload, 1)) (hx : 0 ≤ x ∧ x < 256) (hz : P 62 x = z) (k : Go WSM G d i (pc + 1) ls (vI z :: st) P Q) : Go WSM G d i pc ls (vI x :: vR 62 :: st) P Q := by
  subst hz
  exact g_iald (o := 62) (n := 256) (by decide) rfl rfl (by decide) hx hd k
theorem m_s62 {x z : Int} (hd : decode i.2.1 pc = .ok (.iastore, 1)) (hx : 0 ≤ x ∧ x < 256) (k : Go WSM G d i (pc + 1) ls st (up P 62 x z) Q) : Go WSM G d i pc ls (vI z :: vI x :: vR 62 :: st) P Q := g_iast (o := 62) (n := 256) (by decide) rfl rfl (by decide) hx hd k
/-- manyArm -/
theorem m_l63 {x z : Int} (hd : decode i.2.1 pc = .ok (.iaload, 1)) (hx : 0 ≤ x ∧ x < 13) (hz : P 63 x = z) (k : Go WSM G d i (pc + 1) ls (vI z :: st) P Q) : Go WSM G d i pc ls (vI x :: vR 63 :: st) P Q := by
  subst hz
  exact g_iald (o := 63) (n := 13) (by decide) rfl rfl (by decide) hx hd k
theorem m_s63 {x z : Int} (hd : decode i.2.1 pc = .ok (.iastore, 1)) (hx : 0 ≤ x ∧ x < 13) (k : Go WSM G d i (pc + 1) ls st (up P 63 x z) Q) : Go WSM G d i pc ls (vI z :: vI x :: vR 63 :: st) P Q := g_iast (o := 63) (n := 13) (by decide) rfl rfl (by decide) hx hd k
end MR
/-! The bounds that hold in the reference at every moment. -/
def lo0 : Nat → Int := fun k => match k with
  | 1 => 0
  | 2 => 0
  | 3 => 0
  | 4 => 0
  | 5 => 0
  | 6 => -2147483648
  | 7 => -9223372036854775808
  | 8 => 0
  | 9 => -1
  | 10 => 0
  | 11 => -1
  | 12 => -1
  | 13 => 0
  | 36 => 0
  | 37 => 0
  | 38 => 0
  | 43 => 0
  | 44 => 0
  | 52 => 0
  | 59 => 0
  | 60 => 0
  | 61 => 0
  | 62 => 0
  | 66 => 0
  | 70 => 0
  | 73 => 0
  | 74 => 0
  | 76 => -2147483648
  | 78 => -2147483648
  | 81 => 0
  | 87 => 0
  | 88 => 0
  | 89 => -2147483648
  | 90 => 0
  | 92 => 0
  | _ => 0
def hi0 : Nat → Int := fun k => match k with
  | 1 => 1600
  | 2 => 1600
  | 3 => 3
  | 4 => 1600
  | 5 => 1600
  | 6 => 2147483647
  | 7 => 9223372036854775807
  | 8 => 6
  | 9 => 1600
  | 10 => 6
  | 11 => 1600
  | 12 => 1600
  | 13 => 1
  | 36 => 2800
  | 37 => 1
  | 38 => 1
  | 43 => 9
  | 44 => 1
  | 52 => 20000
  | 59 => 19
  | 60 => 20
  | 61 => 2147483647
  | 62 => 12
  | 66 => 4095
  | 70 => 1800
  | 73 => 40
  | 74 => 200000000
  | 76 => 2147483647
  | 78 => 2147483647
  | 81 => 65536
  | 87 => 1000
  | 88 => 1000
  | 89 => 2147483647
  | 90 => 1
  | 92 => 16
  | _ => 0
def loA : Nat → Int := fun k => match k with
  | 1 => 0
  | 2 => 0
  | 3 => 0
  | 4 => 0
  | 5 => 0
  | 6 => 0
  | 7 => 0
  | 8 => 0
  | 9 => 0
  | 10 => 0
  | 11 => 0
  | 12 => 0
  | 13 => 0
  | 14 => -2147483648
  | 15 => -2147483648
  | 16 => -2147483648
  | 17 => 0
  | 18 => 0
  | 19 => 0
  | 20 => 0
  | 21 => 0
  | 22 => -9223372036854775808
  | 23 => -9223372036854775808
  | 24 => 0
  | 25 => -2147483648
  | 26 => 0
  | 27 => 0
  | 28 => -2147483648
  | 29 => -2147483648
  | 30 => 0
  | 31 => 0
  | 32 => 0
  | 33 => 0
  | 34 => -1
  | 35 => 0
  | 36 => 0
  | 37 => 0
  | 38 => -2147483648
  | 39 => 0
  | 40 => -2147483648
  | 41 => 0
  | 42 => 0
  | 43 => -2147483648
  | 44 => 0
  | 45 => -2147483648
  | 46 => 0
  | 47 => 0
  | 48 => -2147483648
  | 49 => -2147483648
  | 50 => -2147483648
  | 51 => -2147483648
  | 52 => 0
  | 53 => -2147483648
  | 54 => 0
  | 55 => -2147483648
  | 56 => -2147483648
  | 57 => -2147483648
  | 58 => 0
  | 59 => 0
  | 60 => -2147483648
  | 61 => 0
  | 62 => -2147483648
  | 63 => -2147483648
  | _ => 0
def hiA : Nat → Int := fun k => match k with
  | 1 => 255
  | 2 => 4
  | 3 => 2006
  | 4 => 6
  | 5 => 24
  | 6 => 3
  | 7 => 2
  | 8 => 4
  | 9 => 2006
  | 10 => 5000000
  | 11 => 4
  | 12 => 4
  | 13 => 12
  | 14 => 2147483647
  | 15 => 2147483647
  | 16 => 2147483647
  | 17 => 2800
  | 18 => 2800
  | 19 => 6
  | 20 => 23
  | 21 => 19
  | 22 => 9223372036854775807
  | 23 => 9223372036854775807
  | 24 => 4
  | 25 => 2147483647
  | 26 => 23
  | 27 => 1
  | 28 => 2147483647
  | 29 => 2147483647
  | 30 => 1
  | 31 => 2009
  | 32 => 4095
  | 33 => 2009
  | 34 => 2009
  | 35 => 12
  | 36 => 11
  | 37 => 255
  | 38 => 2147483647
  | 39 => 40
  | 40 => 2147483647
  | 41 => 4095
  | 42 => 4095
  | 43 => 2147483647
  | 44 => 2009
  | 45 => 2147483647
  | 46 => 255
  | 47 => 5
  | 48 => 2147483647
  | 49 => 2147483647
  | 50 => 2147483647
  | 51 => 2147483647
  | 52 => 65535
  | 53 => 2147483647
  | 54 => 65535
  | 55 => 2147483647
  | 56 => 2147483647
  | 57 => 2147483647
  | 58 => 1
  | 59 => 65535
  | 60 => 2147483647
  | 61 => 1
  | 62 => 2147483647
  | 63 => 2147483647
  | _ => 0
def BdM (P : PH) : Prop := (∀ j : Nat, j < 98 → ftM0 j ≠ 3 → lo0 j ≤ P 0 (j : Int) ∧ P 0 (j : Int) ≤ hi0 j) ∧ ∀ o : Nat, 0 < o → o < 64 → ∀ k : Int, loA o ≤ P o k ∧ P o k ≤ hiA o
theorem bsM {P : PH} {z : Int} (k : Nat) (h : BdM P) (hz : lo0 k ≤ z ∧ z ≤ hi0 k) : BdM (up P 0 (k : Int) z) := by
  refine ⟨fun j hj ht => ?_, fun o ho hn q => ?_⟩
  · by_cases e : j = k
    · subst e; rw [up_same]; exact hz
    · rw [up_k (fun q => e (by omega))]; exact h.1 j hj ht
  · rw [up_o (by omega)]; exact h.2 o ho hn q
theorem baM {P : PH} {k z : Int} (a : Nat) (ha : 0 < a) (h : BdM P) (hz : loA a ≤ z ∧ z ≤ hiA a) : BdM (up P a k z) := by
  refine ⟨fun j hj ht => ?_, fun o ho hn q => ?_⟩
  · rw [up_o (by omega)]; exact h.1 j hj ht
  · by_cases e : o = a
    · subst e
      by_cases e2 : q = k
      · subst e2; rw [up_same]; exact hz
      · rw [up_k e2]; exact h.2 o ho hn q
    · rw [up_o e]; exact h.2 o ho hn q
/-- what a method leaves: fields but these, arrays but these -/
abbrev FS : Type := List Int × List Nat
def FrM (F : FS) (P P1 : PH) : Prop := (∀ k : Int, F.1.contains k = false → P1 0 k = P 0 k) ∧ ∀ o : Nat, (o == 0) = false → F.2.contains o = false → P1 o = P o
theorem FrM.rf {F : FS} {P : PH} : FrM F P P := ⟨fun _ _ => rfl, fun _ _ _ => rfl⟩
theorem FrM.s {F : FS} {P P1 : PH} {k z : Int} (h : FrM F P P1) (hk : F.1.contains k = true) : FrM F P (up P1 0 k z) := by
  refine ⟨fun j hj => ?_, fun o h0 ho => ?_⟩
  · rw [up_k (fun e => by rw [e, hk] at hj; cases hj)]; exact h.1 j hj
  · rw [up_row (fun e => by rw [e] at h0; cases h0)]; exact h.2 o h0 ho
theorem FrM.a {F : FS} {P P1 : PH} {a : Nat} {k z : Int} (h : FrM F P P1) (ha : F.2.contains a = true) (h0 : (a == 0) = false) : FrM F P (up P1 a k z) := by
  refine ⟨fun j hj => ?_, fun o ho hn => ?_⟩
  · rw [up_o (fun e => by rw [← e] at h0; cases h0)]; exact h.1 j hj
  · rw [up_row (fun e => by rw [e, ha] at hn; cases hn)]; exact h.2 o ho hn
def subF (F1 F2 : FS) : Bool := F1.1.all (F2.1.contains ·) && F1.2.all (F2.2.contains ·)
theorem nsub {α : Type} [BEq α] [LawfulBEq α] {l1 l2 : List α} (h : l1.all (l2.contains ·) = true) {x : α} (hx : l2.contains x = false) : l1.contains x = false := by
  cases h1 : l1.contains x with
  | false => rfl
  | true =>
    have h2 := List.all_eq_true.mp h x (List.contains_iff_mem.mp h1)
    rw [hx] at h2
    cases h2
theorem FrM.mono {F1 F2 : FS} {P P1 : PH} (h : FrM F1 P P1) (hs : subF F1 F2 = true) : FrM F2 P P1 := by
  unfold subF at hs
  rw [Bool.and_eq_true] at hs
  exact ⟨fun k hk => h.1 k (nsub hs.1 hk), fun o h0 ho => h.2 o h0 (nsub hs.2 ho)⟩
theorem FrM.c {F1 F2 : FS} {P P1 P2 : PH} (h : FrM F2 P P1) (hc : FrM F1 P1 P2) (hs : subF F1 F2 = true) : FrM F2 P P2 := by
  have hc := hc.mono hs
  exact ⟨fun k hk => (hc.1 k hk).trans (h.1 k hk), fun o h0 ho => (hc.2 o h0 ho).trans (h.2 o h0 ho)⟩
theorem b0_1 {P : PH} (h : BdM P) : 0 ≤ P 0 1 ∧ P 0 1 ≤ 1600 := h.1 1 (by decide) (by decide)
theorem bs_1 {P : PH} {z : Int} (h : BdM P) (hz : 0 ≤ z ∧ z ≤ 1600) : BdM (up P 0 1 z) := bsM 1 h hz
theorem b0_2 {P : PH} (h : BdM P) : 0 ≤ P 0 2 ∧ P 0 2 ≤ 1600 := h.1 2 (by decide) (by decide)
theorem bs_2 {P : PH} {z : Int} (h : BdM P) (hz : 0 ≤ z ∧ z ≤ 1600) : BdM (up P 0 2 z) := bsM 2 h hz
theorem b0_3 {P : PH} (h : BdM P) : 0 ≤ P 0 3 ∧ P 0 3 ≤ 3 := h.1 3 (by decide) (by decide)
theorem bs_3 {P : PH} {z : Int} (h : BdM P) (hz : 0 ≤ z ∧ z ≤ 3) : BdM (up P 0 3 z) := bsM 3 h hz
theorem b0_4 {P : PH} (h : BdM P) : 0 ≤ P 0 4 ∧ P 0 4 ≤ 1600 := h.1 4 (by decide) (by decide)
theorem bs_4 {P : PH} {z : Int} (h : BdM P) (hz : 0 ≤ z ∧ z ≤ 1600) : BdM (up P 0 4 z) := bsM 4 h hz
theorem b0_5 {P : PH} (h : BdM P) : 0 ≤ P 0 5 ∧ P 0 5 ≤ 1600 := h.1 5 (by decide) (by decide)
theorem bs_5 {P : PH} {z : Int} (h : BdM P) (hz : 0 ≤ z ∧ z ≤ 1600) : BdM (up P 0 5 z) := bsM 5 h hz
theorem b0_6 {P : PH} (h : BdM P) : (-2147483648) ≤ P 0 6 ∧ P 0 6 ≤ 2147483647 := h.1 6 (by decide) (by decide)
theorem bs_6 {P : PH} {z : Int} (h : BdM P) (hz : (-2147483648) ≤ z ∧ z ≤ 2147483647) : BdM (up P 0 6 z) := bsM 6 h hz
theorem b0_7 {P : PH} (h : BdM P) : (-9223372036854775808) ≤ P 0 7 ∧ P 0 7 ≤ 9223372036854775807 := h.1 7 (by decide) (by decide)
theorem bs_7 {P : PH} {z : Int} (h : BdM P) (hz : (-9223372036854775808) ≤ z ∧ z ≤ 9223372036854775807) : BdM (up P 0 7 z) := bsM 7 h hz
theorem b0_8 {P : PH} (h : BdM P) : 0 ≤ P 0 8 ∧ P 0 8 ≤ 6 := h.1 8 (by decide) (by decide)
theorem bs_8 {P : PH} {z : Int} (h : BdM P) (hz : 0 ≤ z ∧ z ≤ 6) : BdM (up P 0 8 z) := bsM 8 h hz
theorem b0_9 {P : PH} (h : BdM P) : (-1) ≤ P 0 9 ∧ P 0 9 ≤ 1600 := h.1 9 (by decide) (by decide)
theorem bs_9 {P : PH} {z : Int} (h : BdM P) (hz : (-1) ≤ z ∧ z ≤ 1600) : BdM (up P 0 9 z) := bsM 9 h hz
theorem b0_10 {P : PH} (h : BdM P) : 0 ≤ P 0 10 ∧ P 0 10 ≤ 6 := h.1 10 (by decide) (by decide)
theorem bs_10 {P : PH} {z : Int} (h : BdM P) (hz : 0 ≤ z ∧ z ≤ 6) : BdM (up P 0 10 z) := bsM 10 h hz
theorem b0_11 {P : PH} (h : BdM P) : (-1) ≤ P 0 11 ∧ P 0 11 ≤ 1600 := h.1 11 (by decide) (by decide)
theorem bs_11 {P : PH} {z : Int} (h : BdM P) (hz : (-1) ≤ z ∧ z ≤ 1600) : BdM (up P 0 11 z) := bsM 11 h hz
theorem b0_12 {P : PH} (h : BdM P) : (-1) ≤ P 0 12 ∧ P 0 12 ≤ 1600 := h.1 12 (by decide) (by decide)
theorem bs_12 {P : PH} {z : Int} (h : BdM P) (hz : (-1) ≤ z ∧ z ≤ 1600) : BdM (up P 0 12 z) := bsM 12 h hz
theorem b0_13 {P : PH} (h : BdM P) : 0 ≤ P 0 13 ∧ P 0 13 ≤ 1 := h.1 13 (by decide) (by decide)
theorem bs_13 {P : PH} {z : Int} (h : BdM P) (hz : 0 ≤ z ∧ z ≤ 1) : BdM (up P 0 13 z) := bsM 13 h hz
theorem b0_36 {P : PH} (h : BdM P) : 0 ≤ P 0 36 ∧ P 0 36 ≤ 2800 := h.1 36 (by decide) (by decide)
theorem bs_36 {P : PH} {z : Int} (h : BdM P) (hz : 0 ≤ z ∧ z ≤ 2800) : BdM (up P 0 36 z) := bsM 36 h hz
theorem b0_37 {P : PH} (h : BdM P) : 0 ≤ P 0 37 ∧ P 0 37 ≤ 1 := h.1 37 (by decide) (by decide)
theorem bs_37 {P : PH} {z : Int} (h : BdM P) (hz : 0 ≤ z ∧ z ≤ 1) : BdM (up P 0 37 z) := bsM 37 h hz
theorem b0_38 {P : PH} (h : BdM P) : 0 ≤ P 0 38 ∧ P 0 38 ≤ 1 := h.1 38 (by decide) (by decide)
theorem bs_38 {P : PH} {z : Int} (h : BdM P) (hz : 0 ≤ z ∧ z ≤ 1) : BdM (up P 0 38 z) := bsM 38 h hz
theorem b0_43 {P : PH} (h : BdM P) : 0 ≤ P 0 43 ∧ P 0 43 ≤ 9 := h.1 43 (by decide) (by decide)
theorem bs_43 {P : PH} {z : Int} (h : BdM P) (hz : 0 ≤ z ∧ z ≤ 9) : BdM (up P 0 43 z) := bsM 43 h hz
theorem b0_44 {P : PH} (h : BdM P) : 0 ≤ P 0 44 ∧ P 0 44 ≤ 1 := h.1 44 (by decide) (by decide)
theorem bs_44 {P : PH} {z : Int} (h : BdM P) (hz : 0 ≤ z ∧ z ≤ 1) : BdM (up P 0 44 z) := bsM 44 h hz
theorem b0_52 {P : PH} (h : BdM P) : 0 ≤ P 0 52 ∧ P 0 52 ≤ 20000 := h.1 52 (by decide) (by decide)
theorem bs_52 {P : PH} {z : Int} (h : BdM P) (hz : 0 ≤ z ∧ z ≤ 20000) : BdM (up P 0 52 z) := bsM 52 h hz
theorem b0_59 {P : PH} (h : BdM P) : 0 ≤ P 0 59 ∧ P 0 59 ≤ 19 := h.1 59 (by decide) (by decide)
theorem bs_59 {P : PH} {z : Int} (h : BdM P) (hz : 0 ≤ z ∧ z ≤ 19) : BdM (up P 0 59 z) := bsM 59 h hz
theorem b0_60 {P : PH} (h : BdM P) : 0 ≤ P 0 60 ∧ P 0 60 ≤ 20 := h.1 60 (by decide) (by decide)
theorem bs_60 {P : PH} {z : Int} (h : BdM P) (hz : 0 ≤ z ∧ z ≤ 20) : BdM (up P 0 60 z) := bsM 60 h hz
theorem b0_61 {P : PH} (h : BdM P) : 0 ≤ P 0 61 ∧ P 0 61 ≤ 2147483647 := h.1 61 (by decide) (by decide)
theorem bs_61 {P : PH} {z : Int} (h : BdM P) (hz : 0 ≤ z ∧ z ≤ 2147483647) : BdM (up P 0 61 z) := bsM 61 h hz
theorem b0_62 {P : PH} (h : BdM P) : 0 ≤ P 0 62 ∧ P 0 62 ≤ 12 := h.1 62 (by decide) (by decide)
theorem bs_62 {P : PH} {z : Int} (h : BdM P) (hz : 0 ≤ z ∧ z ≤ 12) : BdM (up P 0 62 z) := bsM 62 h hz
theorem b0_66 {P : PH} (h : BdM P) : 0 ≤ P 0 66 ∧ P 0 66 ≤ 4095 := h.1 66 (by decide) (by decide)
theorem bs_66 {P : PH} {z : Int} (h : BdM P) (hz : 0 ≤ z ∧ z ≤ 4095) : BdM (up P 0 66 z) := bsM 66 h hz
theorem b0_70 {P : PH} (h : BdM P) : 0 ≤ P 0 70 ∧ P 0 70 ≤ 1800 := h.1 70 (by decide) (by decide)
theorem bs_70 {P : PH} {z : Int} (h : BdM P) (hz : 0 ≤ z ∧ z ≤ 1800) : BdM (up P 0 70 z) := bsM 70 h hz
theorem b0_73 {P : PH} (h : BdM P) : 0 ≤ P 0 73 ∧ P 0 73 ≤ 40 := h.1 73 (by decide) (by decide)
theorem bs_73 {P : PH} {z : Int} (h : BdM P) (hz : 0 ≤ z ∧ z ≤ 40) : BdM (up P 0 73 z) := bsM 73 h hz
theorem b0_74 {P : PH} (h : BdM P) : 0 ≤ P 0 74 ∧ P 0 74 ≤ 200000000 := h.1 74 (by decide) (by decide)
theorem bs_74 {P : PH} {z : Int} (h : BdM P) (hz : 0 ≤ z ∧ z ≤ 200000000) : BdM (up P 0 74 z) := bsM 74 h hz
theorem b0_76 {P : PH} (h : BdM P) : (-2147483648) ≤ P 0 76 ∧ P 0 76 ≤ 2147483647 := h.1 76 (by decide) (by decide)
theorem bs_76 {P : PH} {z : Int} (h : BdM P) (hz : (-2147483648) ≤ z ∧ z ≤ 2147483647) : BdM (up P 0 76 z) := bsM 76 h hz
theorem bs_78 {P : PH} {z : Int} (h : BdM P) (hz : (-2147483648) ≤ z ∧ z ≤ 2147483647) : BdM (up P 0 78 z) := bsM 78 h hz
theorem b0_81 {P : PH} (h : BdM P) : 0 ≤ P 0 81 ∧ P 0 81 ≤ 65536 := h.1 81 (by decide) (by decide)
theorem bs_81 {P : PH} {z : Int} (h : BdM P) (hz : 0 ≤ z ∧ z ≤ 65536) : BdM (up P 0 81 z) := bsM 81 h hz
theorem b0_87 {P : PH} (h : BdM P) : 0 ≤ P 0 87 ∧ P 0 87 ≤ 1000 := h.1 87 (by decide) (by decide)
theorem bs_87 {P : PH} {z : Int} (h : BdM P) (hz : 0 ≤ z ∧ z ≤ 1000) : BdM (up P 0 87 z) := bsM 87 h hz
theorem b0_88 {P : PH} (h : BdM P) : 0 ≤ P 0 88 ∧ P 0 88 ≤ 1000 := h.1 88 (by decide) (by decide)
theorem bs_88 {P : PH} {z : Int} (h : BdM P) (hz : 0 ≤ z ∧ z ≤ 1000) : BdM (up P 0 88 z) := bsM 88 h hz
theorem b0_89 {P : PH} (h : BdM P) : (-2147483648) ≤ P 0 89 ∧ P 0 89 ≤ 2147483647 := h.1 89 (by decide) (by decide)
theorem bs_89 {P : PH} {z : Int} (h : BdM P) (hz : (-2147483648) ≤ z ∧ z ≤ 2147483647) : BdM (up P 0 89 z) := bsM 89 h hz
theorem b0_90 {P : PH} (h : BdM P) : 0 ≤ P 0 90 ∧ P 0 90 ≤ 1 := h.1 90 (by decide) (by decide)
theorem bs_90 {P : PH} {z : Int} (h : BdM P) (hz : 0 ≤ z ∧ z ≤ 1) : BdM (up P 0 90 z) := bsM 90 h hz
theorem b0_92 {P : PH} (h : BdM P) : 0 ≤ P 0 92 ∧ P 0 92 ≤ 16 := h.1 92 (by decide) (by decide)
theorem bs_92 {P : PH} {z : Int} (h : BdM P) (hz : 0 ≤ z ∧ z ≤ 16) : BdM (up P 0 92 z) := bsM 92 h hz
theorem bl_1 {P : PH} {k : Int} (h : BdM P) : 0 ≤ P 1 k ∧ P 1 k ≤ 255 := h.2 1 (by decide) (by decide) k
theorem ba_1 {P : PH} {k z : Int} (h : BdM P) (hz : 0 ≤ z ∧ z ≤ 255) : BdM (up P 1 k z) := baM 1 (by decide) h hz
theorem bl_2 {P : PH} {k : Int} (h : BdM P) : 0 ≤ P 2 k ∧ P 2 k ≤ 4 := h.2 2 (by decide) (by decide) k
theorem ba_2 {P : PH} {k z : Int} (h : BdM P) (hz : 0 ≤ z ∧ z ≤ 4) : BdM (up P 2 k z) := baM 2 (by decide) h hz
theorem bl_3 {P : PH} {k : Int} (h : BdM P) : 0 ≤ P 3 k ∧ P 3 k ≤ 2006 := h.2 3 (by decide) (by decide) k
theorem ba_3 {P : PH} {k z : Int} (h : BdM P) (hz : 0 ≤ z ∧ z ≤ 2006) : BdM (up P 3 k z) := baM 3 (by decide) h hz
theorem bl_4 {P : PH} {k : Int} (h : BdM P) : 0 ≤ P 4 k ∧ P 4 k ≤ 6 := h.2 4 (by decide) (by decide) k
theorem ba_4 {P : PH} {k z : Int} (h : BdM P) (hz : 0 ≤ z ∧ z ≤ 6) : BdM (up P 4 k z) := baM 4 (by decide) h hz
theorem bl_5 {P : PH} {k : Int} (h : BdM P) : 0 ≤ P 5 k ∧ P 5 k ≤ 24 := h.2 5 (by decide) (by decide) k
theorem ba_5 {P : PH} {k z : Int} (h : BdM P) (hz : 0 ≤ z ∧ z ≤ 24) : BdM (up P 5 k z) := baM 5 (by decide) h hz
theorem bl_6 {P : PH} {k : Int} (h : BdM P) : 0 ≤ P 6 k ∧ P 6 k ≤ 3 := h.2 6 (by decide) (by decide) k
theorem ba_6 {P : PH} {k z : Int} (h : BdM P) (hz : 0 ≤ z ∧ z ≤ 3) : BdM (up P 6 k z) := baM 6 (by decide) h hz
theorem bl_7 {P : PH} {k : Int} (h : BdM P) : 0 ≤ P 7 k ∧ P 7 k ≤ 2 := h.2 7 (by decide) (by decide) k
theorem ba_7 {P : PH} {k z : Int} (h : BdM P) (hz : 0 ≤ z ∧ z ≤ 2) : BdM (up P 7 k z) := baM 7 (by decide) h hz
theorem bl_8 {P : PH} {k : Int} (h : BdM P) : 0 ≤ P 8 k ∧ P 8 k ≤ 4 := h.2 8 (by decide) (by decide) k
theorem ba_8 {P : PH} {k z : Int} (h : BdM P) (hz : 0 ≤ z ∧ z ≤ 4) : BdM (up P 8 k z) := baM 8 (by decide) h hz
theorem bl_9 {P : PH} {k : Int} (h : BdM P) : 0 ≤ P 9 k ∧ P 9 k ≤ 2006 := h.2 9 (by decide) (by decide) k
theorem ba_9 {P : PH} {k z : Int} (h : BdM P) (hz : 0 ≤ z ∧ z ≤ 2006) : BdM (up P 9 k z) := baM 9 (by decide) h hz
theorem bl_10 {P : PH} {k : Int} (h : BdM P) : 0 ≤ P 10 k ∧ P 10 k ≤ 5000000 := h.2 10 (by decide) (by decide) k
theorem ba_10 {P : PH} {k z : Int} (h : BdM P) (hz : 0 ≤ z ∧ z ≤ 5000000) : BdM (up P 10 k z) := baM 10 (by decide) h hz
theorem bl_11 {P : PH} {k : Int} (h : BdM P) : 0 ≤ P 11 k ∧ P 11 k ≤ 4 := h.2 11 (by decide) (by decide) k
theorem ba_11 {P : PH} {k z : Int} (h : BdM P) (hz : 0 ≤ z ∧ z ≤ 4) : BdM (up P 11 k z) := baM 11 (by decide) h hz
theorem bl_12 {P : PH} {k : Int} (h : BdM P) : 0 ≤ P 12 k ∧ P 12 k ≤ 4 := h.2 12 (by decide) (by decide) k
theorem ba_12 {P : PH} {k z : Int} (h : BdM P) (hz : 0 ≤ z ∧ z ≤ 4) : BdM (up P 12 k z) := baM 12 (by decide) h hz
theorem bl_13 {P : PH} {k : Int} (h : BdM P) : 0 ≤ P 13 k ∧ P 13 k ≤ 12 := h.2 13 (by decide) (by decide) k
theorem ba_13 {P : PH} {k z : Int} (h : BdM P) (hz : 0 ≤ z ∧ z ≤ 12) : BdM (up P 13 k z) := baM 13 (by decide) h hz
theorem bl_14 {P : PH} {k : Int} (h : BdM P) : (-2147483648) ≤ P 14 k ∧ P 14 k ≤ 2147483647 := h.2 14 (by decide) (by decide) k
theorem ba_14 {P : PH} {k z : Int} (h : BdM P) (hz : (-2147483648) ≤ z ∧ z ≤ 2147483647) : BdM (up P 14 k z) := baM 14 (by decide) h hz
theorem bl_15 {P : PH} {k : Int} (h : BdM P) : (-2147483648) ≤ P 15 k ∧ P 15 k ≤ 2147483647 := h.2 15 (by decide) (by decide) k
theorem ba_15 {P : PH} {k z : Int} (h : BdM P) (hz : (-2147483648) ≤ z ∧ z ≤ 2147483647) : BdM (up P 15 k z) := baM 15 (by decide) h hz
theorem bl_16 {P : PH} {k : Int} (h : BdM P) : (-2147483648) ≤ P 16 k ∧ P 16 k ≤ 2147483647 := h.2 16 (by decide) (by decide) k
theorem ba_16 {P : PH} {k z : Int} (h : BdM P) (hz : (-2147483648) ≤ z ∧ z ≤ 2147483647) : BdM (up P 16 k z) := baM 16 (by decide) h hz
theorem bl_17 {P : PH} {k : Int} (h : BdM P) : 0 ≤ P 17 k ∧ P 17 k ≤ 2800 := h.2 17 (by decide) (by decide) k
theorem ba_17 {P : PH} {k z : Int} (h : BdM P) (hz : 0 ≤ z ∧ z ≤ 2800) : BdM (up P 17 k z) := baM 17 (by decide) h hz
theorem bl_18 {P : PH} {k : Int} (h : BdM P) : 0 ≤ P 18 k ∧ P 18 k ≤ 2800 := h.2 18 (by decide) (by decide) k
theorem ba_18 {P : PH} {k z : Int} (h : BdM P) (hz : 0 ≤ z ∧ z ≤ 2800) : BdM (up P 18 k z) := baM 18 (by decide) h hz
theorem bl_19 {P : PH} {k : Int} (h : BdM P) : 0 ≤ P 19 k ∧ P 19 k ≤ 6 := h.2 19 (by decide) (by decide) k
theorem ba_19 {P : PH} {k z : Int} (h : BdM P) (hz : 0 ≤ z ∧ z ≤ 6) : BdM (up P 19 k z) := baM 19 (by decide) h hz
theorem bl_20 {P : PH} {k : Int} (h : BdM P) : 0 ≤ P 20 k ∧ P 20 k ≤ 23 := h.2 20 (by decide) (by decide) k
theorem ba_20 {P : PH} {k z : Int} (h : BdM P) (hz : 0 ≤ z ∧ z ≤ 23) : BdM (up P 20 k z) := baM 20 (by decide) h hz
theorem bl_21 {P : PH} {k : Int} (h : BdM P) : 0 ≤ P 21 k ∧ P 21 k ≤ 19 := h.2 21 (by decide) (by decide) k
theorem ba_21 {P : PH} {k z : Int} (h : BdM P) (hz : 0 ≤ z ∧ z ≤ 19) : BdM (up P 21 k z) := baM 21 (by decide) h hz
theorem bl_22 {P : PH} {k : Int} (h : BdM P) : (-9223372036854775808) ≤ P 22 k ∧ P 22 k ≤ 9223372036854775807 := h.2 22 (by decide) (by decide) k
theorem ba_22 {P : PH} {k z : Int} (h : BdM P) (hz : (-9223372036854775808) ≤ z ∧ z ≤ 9223372036854775807) : BdM (up P 22 k z) := baM 22 (by decide) h hz
theorem bl_23 {P : PH} {k : Int} (h : BdM P) : (-9223372036854775808) ≤ P 23 k ∧ P 23 k ≤ 9223372036854775807 := h.2 23 (by decide) (by decide) k
theorem ba_23 {P : PH} {k z : Int} (h : BdM P) (hz : (-9223372036854775808) ≤ z ∧ z ≤ 9223372036854775807) : BdM (up P 23 k z) := baM 23 (by decide) h hz
theorem bl_24 {P : PH} {k : Int} (h : BdM P) : 0 ≤ P 24 k ∧ P 24 k ≤ 4 := h.2 24 (by decide) (by decide) k
theorem ba_24 {P : PH} {k z : Int} (h : BdM P) (hz : 0 ≤ z ∧ z ≤ 4) : BdM (up P 24 k z) := baM 24 (by decide) h hz
theorem bl_25 {P : PH} {k : Int} (h : BdM P) : (-2147483648) ≤ P 25 k ∧ P 25 k ≤ 2147483647 := h.2 25 (by decide) (by decide) k
theorem ba_25 {P : PH} {k z : Int} (h : BdM P) (hz : (-2147483648) ≤ z ∧ z ≤ 2147483647) : BdM (up P 25 k z) := baM 25 (by decide) h hz
theorem bl_26 {P : PH} {k : Int} (h : BdM P) : 0 ≤ P 26 k ∧ P 26 k ≤ 23 := h.2 26 (by decide) (by decide) k
theorem ba_26 {P : PH} {k z : Int} (h : BdM P) (hz : 0 ≤ z ∧ z ≤ 23) : BdM (up P 26 k z) := baM 26 (by decide) h hz
theorem bl_27 {P : PH} {k : Int} (h : BdM P) : 0 ≤ P 27 k ∧ P 27 k ≤ 1 := h.2 27 (by decide) (by decide) k
theorem ba_27 {P : PH} {k z : Int} (h : BdM P) (hz : 0 ≤ z ∧ z ≤ 1) : BdM (up P 27 k z) := baM 27 (by decide) h hz
theorem bl_28 {P : PH} {k : Int} (h : BdM P) : (-2147483648) ≤ P 28 k ∧ P 28 k ≤ 2147483647 := h.2 28 (by decide) (by decide) k
theorem ba_28 {P : PH} {k z : Int} (h : BdM P) (hz : (-2147483648) ≤ z ∧ z ≤ 2147483647) : BdM (up P 28 k z) := baM 28 (by decide) h hz
theorem bl_29 {P : PH} {k : Int} (h : BdM P) : (-2147483648) ≤ P 29 k ∧ P 29 k ≤ 2147483647 := h.2 29 (by decide) (by decide) k
theorem ba_29 {P : PH} {k z : Int} (h : BdM P) (hz : (-2147483648) ≤ z ∧ z ≤ 2147483647) : BdM (up P 29 k z) := baM 29 (by decide) h hz
theorem bl_30 {P : PH} {k : Int} (h : BdM P) : 0 ≤ P 30 k ∧ P 30 k ≤ 1 := h.2 30 (by decide) (by decide) k
theorem ba_30 {P : PH} {k z : Int} (h : BdM P) (hz : 0 ≤ z ∧ z ≤ 1) : BdM (up P 30 k z) := baM 30 (by decide) h hz
theorem bl_31 {P : PH} {k : Int} (h : BdM P) : 0 ≤ P 31 k ∧ P 31 k ≤ 2009 := h.2 31 (by decide) (by decide) k
theorem ba_31 {P : PH} {k z : Int} (h : BdM P) (hz : 0 ≤ z ∧ z ≤ 2009) : BdM (up P 31 k z) := baM 31 (by decide) h hz
theorem bl_32 {P : PH} {k : Int} (h : BdM P) : 0 ≤ P 32 k ∧ P 32 k ≤ 4095 := h.2 32 (by decide) (by decide) k
theorem ba_32 {P : PH} {k z : Int} (h : BdM P) (hz : 0 ≤ z ∧ z ≤ 4095) : BdM (up P 32 k z) := baM 32 (by decide) h hz
theorem bl_33 {P : PH} {k : Int} (h : BdM P) : 0 ≤ P 33 k ∧ P 33 k ≤ 2009 := h.2 33 (by decide) (by decide) k
theorem ba_33 {P : PH} {k z : Int} (h : BdM P) (hz : 0 ≤ z ∧ z ≤ 2009) : BdM (up P 33 k z) := baM 33 (by decide) h hz
theorem bl_34 {P : PH} {k : Int} (h : BdM P) : (-1) ≤ P 34 k ∧ P 34 k ≤ 2009 := h.2 34 (by decide) (by decide) k
theorem ba_34 {P : PH} {k z : Int} (h : BdM P) (hz : (-1) ≤ z ∧ z ≤ 2009) : BdM (up P 34 k z) := baM 34 (by decide) h hz
theorem bl_35 {P : PH} {k : Int} (h : BdM P) : 0 ≤ P 35 k ∧ P 35 k ≤ 12 := h.2 35 (by decide) (by decide) k
theorem ba_35 {P : PH} {k z : Int} (h : BdM P) (hz : 0 ≤ z ∧ z ≤ 12) : BdM (up P 35 k z) := baM 35 (by decide) h hz
theorem bl_36 {P : PH} {k : Int} (h : BdM P) : 0 ≤ P 36 k ∧ P 36 k ≤ 11 := h.2 36 (by decide) (by decide) k
theorem ba_36 {P : PH} {k z : Int} (h : BdM P) (hz : 0 ≤ z ∧ z ≤ 11) : BdM (up P 36 k z) := baM 36 (by decide) h hz
theorem bl_37 {P : PH} {k : Int} (h : BdM P) : 0 ≤ P 37 k ∧ P 37 k ≤ 255 := h.2 37 (by decide) (by decide) k
theorem ba_37 {P : PH} {k z : Int} (h : BdM P) (hz : 0 ≤ z ∧ z ≤ 255) : BdM (up P 37 k z) := baM 37 (by decide) h hz
theorem bl_38 {P : PH} {k : Int} (h : BdM P) : (-2147483648) ≤ P 38 k ∧ P 38 k ≤ 2147483647 := h.2 38 (by decide) (by decide) k
theorem ba_38 {P : PH} {k z : Int} (h : BdM P) (hz : (-2147483648) ≤ z ∧ z ≤ 2147483647) : BdM (up P 38 k z) := baM 38 (by decide) h hz
theorem bl_39 {P : PH} {k : Int} (h : BdM P) : 0 ≤ P 39 k ∧ P 39 k ≤ 40 := h.2 39 (by decide) (by decide) k
theorem ba_39 {P : PH} {k z : Int} (h : BdM P) (hz : 0 ≤ z ∧ z ≤ 40) : BdM (up P 39 k z) := baM 39 (by decide) h hz
theorem bl_40 {P : PH} {k : Int} (h : BdM P) : (-2147483648) ≤ P 40 k ∧ P 40 k ≤ 2147483647 := h.2 40 (by decide) (by decide) k
theorem ba_40 {P : PH} {k z : Int} (h : BdM P) (hz : (-2147483648) ≤ z ∧ z ≤ 2147483647) : BdM (up P 40 k z) := baM 40 (by decide) h hz
theorem bl_41 {P : PH} {k : Int} (h : BdM P) : 0 ≤ P 41 k ∧ P 41 k ≤ 4095 := h.2 41 (by decide) (by decide) k
theorem ba_41 {P : PH} {k z : Int} (h : BdM P) (hz : 0 ≤ z ∧ z ≤ 4095) : BdM (up P 41 k z) := baM 41 (by decide) h hz
theorem bl_42 {P : PH} {k : Int} (h : BdM P) : 0 ≤ P 42 k ∧ P 42 k ≤ 4095 := h.2 42 (by decide) (by decide) k
theorem ba_42 {P : PH} {k z : Int} (h : BdM P) (hz : 0 ≤ z ∧ z ≤ 4095) : BdM (up P 42 k z) := baM 42 (by decide) h hz
theorem bl_43 {P : PH} {k : Int} (h : BdM P) : (-2147483648) ≤ P 43 k ∧ P 43 k ≤ 2147483647 := h.2 43 (by decide) (by decide) k
theorem ba_43 {P : PH} {k z : Int} (h : BdM P) (hz : (-2147483648) ≤ z ∧ z ≤ 2147483647) : BdM (up P 43 k z) := baM 43 (by decide) h hz
theorem bl_44 {P : PH} {k : Int} (h : BdM P) : 0 ≤ P 44 k ∧ P 44 k ≤ 2009 := h.2 44 (by decide) (by decide) k
theorem ba_44 {P : PH} {k z : Int} (h : BdM P) (hz : 0 ≤ z ∧ z ≤ 2009) : BdM (up P 44 k z) := baM 44 (by decide) h hz
theorem bl_45 {P : PH} {k : Int} (h : BdM P) : (-2147483648) ≤ P 45 k ∧ P 45 k ≤ 2147483647 := h.2 45 (by decide) (by decide) k
theorem ba_45 {P : PH} {k z : Int} (h : BdM P) (hz : (-2147483648) ≤ z ∧ z ≤ 2147483647) : BdM (up P 45 k z) := baM 45 (by decide) h hz
theorem bl_46 {P : PH} {k : Int} (h : BdM P) : 0 ≤ P 46 k ∧ P 46 k ≤ 255 := h.2 46 (by decide) (by decide) k
theorem ba_46 {P : PH} {k z : Int} (h : BdM P) (hz : 0 ≤ z ∧ z ≤ 255) : BdM (up P 46 k z) := baM 46 (by decide) h hz
theorem bl_47 {P : PH} {k : Int} (h : BdM P) : 0 ≤ P 47 k ∧ P 47 k ≤ 5 := h.2 47 (by decide) (by decide) k
theorem ba_47 {P : PH} {k z : Int} (h : BdM P) (hz : 0 ≤ z ∧ z ≤ 5) : BdM (up P 47 k z) := baM 47 (by decide) h hz
theorem bl_48 {P : PH} {k : Int} (h : BdM P) : (-2147483648) ≤ P 48 k ∧ P 48 k ≤ 2147483647 := h.2 48 (by decide) (by decide) k
theorem ba_48 {P : PH} {k z : Int} (h : BdM P) (hz : (-2147483648) ≤ z ∧ z ≤ 2147483647) : BdM (up P 48 k z) := baM 48 (by decide) h hz
theorem bl_49 {P : PH} {k : Int} (h : BdM P) : (-2147483648) ≤ P 49 k ∧ P 49 k ≤ 2147483647 := h.2 49 (by decide) (by decide) k
theorem ba_49 {P : PH} {k z : Int} (h : BdM P) (hz : (-2147483648) ≤ z ∧ z ≤ 2147483647) : BdM (up P 49 k z) := baM 49 (by decide) h hz
theorem bl_50 {P : PH} {k : Int} (h : BdM P) : (-2147483648) ≤ P 50 k ∧ P 50 k ≤ 2147483647 := h.2 50 (by decide) (by decide) k
theorem ba_50 {P : PH} {k z : Int} (h : BdM P) (hz : (-2147483648) ≤ z ∧ z ≤ 2147483647) : BdM (up P 50 k z) := baM 50 (by decide) h hz
theorem bl_51 {P : PH} {k : Int} (h : BdM P) : (-2147483648) ≤ P 51 k ∧ P 51 k ≤ 2147483647 := h.2 51 (by decide) (by decide) k
theorem ba_51 {P : PH} {k z : Int} (h : BdM P) (hz : (-2147483648) ≤ z ∧ z ≤ 2147483647) : BdM (up P 51 k z) := baM 51 (by decide) h hz
theorem bl_52 {P : PH} {k : Int} (h : BdM P) : 0 ≤ P 52 k ∧ P 52 k ≤ 65535 := h.2 52 (by decide) (by decide) k
theorem ba_52 {P : PH} {k z : Int} (h : BdM P) (hz : 0 ≤ z ∧ z ≤ 65535) : BdM (up P 52 k z) := baM 52 (by decide) h hz
theorem bl_53 {P : PH} {k : Int} (h : BdM P) : (-2147483648) ≤ P 53 k ∧ P 53 k ≤ 2147483647 := h.2 53 (by decide) (by decide) k
theorem ba_53 {P : PH} {k z : Int} (h : BdM P) (hz : (-2147483648) ≤ z ∧ z ≤ 2147483647) : BdM (up P 53 k z) := baM 53 (by decide) h hz
theorem bl_54 {P : PH} {k : Int} (h : BdM P) : 0 ≤ P 54 k ∧ P 54 k ≤ 65535 := h.2 54 (by decide) (by decide) k
theorem ba_54 {P : PH} {k z : Int} (h : BdM P) (hz : 0 ≤ z ∧ z ≤ 65535) : BdM (up P 54 k z) := baM 54 (by decide) h hz
theorem bl_55 {P : PH} {k : Int} (h : BdM P) : (-2147483648) ≤ P 55 k ∧ P 55 k ≤ 2147483647 := h.2 55 (by decide) (by decide) k
theorem ba_55 {P : PH} {k z : Int} (h : BdM P) (hz : (-2147483648) ≤ z ∧ z ≤ 2147483647) : BdM (up P 55 k z) := baM 55 (by decide) h hz
theorem bl_56 {P : PH} {k : Int} (h : BdM P) : (-2147483648) ≤ P 56 k ∧ P 56 k ≤ 2147483647 := h.2 56 (by decide) (by decide) k
theorem ba_56 {P : PH} {k z : Int} (h : BdM P) (hz : (-2147483648) ≤ z ∧ z ≤ 2147483647) : BdM (up P 56 k z) := baM 56 (by decide) h hz
theorem bl_57 {P : PH} {k : Int} (h : BdM P) : (-2147483648) ≤ P 57 k ∧ P 57 k ≤ 2147483647 := h.2 57 (by decide) (by decide) k
theorem ba_57 {P : PH} {k z : Int} (h : BdM P) (hz : (-2147483648) ≤ z ∧ z ≤ 2147483647) : BdM (up P 57 k z) := baM 57 (by decide) h hz
theorem bl_58 {P : PH} {k : Int} (h : BdM P) : 0 ≤ P 58 k ∧ P 58 k ≤ 1 := h.2 58 (by decide) (by decide) k
theorem ba_58 {P : PH} {k z : Int} (h : BdM P) (hz : 0 ≤ z ∧ z ≤ 1) : BdM (up P 58 k z) := baM 58 (by decide) h hz
theorem bl_59 {P : PH} {k : Int} (h : BdM P) : 0 ≤ P 59 k ∧ P 59 k ≤ 65535 := h.2 59 (by decide) (by decide) k
theorem ba_59 {P : PH} {k z : Int} (h : BdM P) (hz : 0 ≤ z ∧ z ≤ 65535) : BdM (up P 59 k z) := baM 59 (by decide) h hz
theorem bl_60 {P : PH} {k : Int} (h : BdM P) : (-2147483648) ≤ P 60 k ∧ P 60 k ≤ 2147483647 := h.2 60 (by decide) (by decide) k
theorem ba_60 {P : PH} {k z : Int} (h : BdM P) (hz : (-2147483648) ≤ z ∧ z ≤ 2147483647) : BdM (up P 60 k z) := baM 60 (by decide) h hz
theorem bl_61 {P : PH} {k : Int} (h : BdM P) : 0 ≤ P 61 k ∧ P 61 k ≤ 1 := h.2 61 (by decide) (by decide) k
theorem ba_61 {P : PH} {k z : Int} (h : BdM P) (hz : 0 ≤ z ∧ z ≤ 1) : BdM (up P 61 k z) := baM 61 (by decide) h hz
theorem ba_62 {P : PH} {k z : Int} (h : BdM P) (hz : (-2147483648) ≤ z ∧ z ≤ 2147483647) : BdM (up P 62 k z) := baM 62 (by decide) h hz
theorem ba_63 {P : PH} {k z : Int} (h : BdM P) (hz : (-2147483648) ≤ z ∧ z ≤ 2147483647) : BdM (up P 63 k z) := baM 63 (by decide) h hz
/-! The methods of the reference. -/
abbrev iX12_is : MI := (yX12_is, cX12_is, 3, (some .boolean))
theorem cf_X12_is : CFS iX12_is 3 := ⟨t_1801, t_147, t_1802, by decide +kernel, by decide⟩
abbrev iX12_put : MI := (yX12_put, cX12_put, 3, none)
theorem cf_X12_put : CFV iX12_put 1 := ⟨t_1673, s_48, t_147, t_1674, by decide +kernel, by decide⟩
abbrev iX12_feed : MI := (yX12_feed, cX12_feed, 6, (some .int))
theorem cf_X12_feed : CFV iX12_feed 5 := ⟨t_1664, t_1665, t_147, t_1666, by decide +kernel, by decide⟩
abbrev iX12_end : MI := (yX12_end, cX12_end, 2, (some .boolean))
theorem cf_X12_end : CFV iX12_end 1 := ⟨t_1676, t_1677, t_147, t_1678, by decide +kernel, by decide⟩
abbrev iX12_blame : MI := (yX12_blame, cX12_blame, 3, none)
theorem cf_X12_blame : CFV iX12_blame 2 := ⟨t_1703, s_52, t_147, t_1704, by decide +kernel, by decide⟩
abbrev iX12_isLetter : MI := (yX12_isLetter, cX12_isLetter, 1, (some .boolean))
theorem cf_X12_isLetter : CFS iX12_isLetter 1 := ⟨t_1688, t_147, t_1689, by decide +kernel, by decide⟩
abbrev iX12_isDigit : MI := (yX12_isDigit, cX12_isDigit, 1, (some .boolean))
theorem cf_X12_isDigit : CFS iX12_isDigit 1 := ⟨t_1691, t_147, t_1692, by decide +kernel, by decide⟩
abbrev iX12_lex : MI := (yX12_lex, cX12_lex, 1, none)
theorem cf_X12_lex : CFV iX12_lex 0 := ⟨t_1699, s_51, t_147, t_1700, by decide +kernel, by decide⟩
abbrev iX12_ahead : MI := (yX12_ahead, cX12_ahead, 6, none)
theorem cf_X12_ahead : CFV iX12_ahead 0 := ⟨t_1685, s_49, t_147, t_1686, by decide +kernel, by decide⟩
abbrev iX12_isSign : MI := (yX12_isSign, cX12_isSign, 2, (some .boolean))
theorem cf_X12_isSign : CFV iX12_isSign 1 := ⟨t_1774, s_67, t_147, t_1775, by decide +kernel, by decide⟩
abbrev iX12_isWord : MI := (yX12_isWord, cX12_isWord, 3, (some .boolean))
theorem cf_X12_isWord : CFV iX12_isWord 1 := ⟨t_1708, s_53, t_147, t_1709, by decide +kernel, by decide⟩
abbrev iX12_must : MI := (yX12_must, cX12_must, 2, none)
theorem cf_X12_must : CFV iX12_must 1 := ⟨t_1770, s_66, t_147, t_1771, by decide +kernel, by decide⟩
abbrev iX12_isOwn : MI := (yX12_isOwn, cX12_isOwn, 3, (some .boolean))
theorem cf_X12_isOwn : CFV iX12_isOwn 1 := ⟨t_1724, s_57, t_147, t_1725, by decide +kernel, by decide⟩
abbrev iX12_number : MI := (yX12_number, cX12_number, 4, (some .int))
theorem cf_X12_number : CFV iX12_number 2 := ⟨t_1798, s_73, t_147, t_1799, by decide +kernel, by decide⟩
abbrev iX12_isCounted : MI := (yX12_isCounted, cX12_isCounted, 2, (some .boolean))
theorem cf_X12_isCounted : CFV iX12_isCounted 1 := ⟨t_1716, s_55, t_147, t_1717, by decide +kernel, by decide⟩
abbrev iX12_kindNamed : MI := (yX12_kindNamed, cX12_kindNamed, 4, (some .int))
theorem cf_X12_kindNamed : CFV iX12_kindNamed 1 := ⟨t_1738, s_58, t_147, t_1739, by decide +kernel, by decide⟩
abbrev iX12_conNamed : MI := (yX12_conNamed, cX12_conNamed, 5, (some .int))
theorem cf_X12_conNamed : CFV iX12_conNamed 2 := ⟨t_1742, s_59, t_147, t_1743, by decide +kernel, by decide⟩
abbrev iX12_valuesOf : MI := (yX12_valuesOf, cX12_valuesOf, 3, (some .int))
theorem cf_X12_valuesOf : CFV iX12_valuesOf 2 := ⟨t_1758, s_63, t_147, t_1759, by decide +kernel, by decide⟩
abbrev iX12_fresh : MI := (yX12_fresh, cX12_fresh, 3, (some .long))
theorem cf_X12_fresh : CFV iX12_fresh 0 := ⟨t_1720, s_56, t_147, t_1721, by decide +kernel, by decide⟩
abbrev iX12_kindIs : MI := (yX12_kindIs, cX12_kindIs, 4, none)
theorem cf_X12_kindIs : CFV iX12_kindIs 0 := ⟨t_1712, s_54, t_147, t_1713, by decide +kernel, by decide⟩
abbrev iX12_known : MI := (yX12_known, cX12_known, 4, (some .int))
theorem cf_X12_known : CFV iX12_known 1 := ⟨t_1754, s_62, t_147, t_1755, by decide +kernel, by decide⟩
abbrev iX12_isKindHere : MI := (yX12_isKindHere, cX12_isKindHere, 1, (some .boolean))
theorem cf_X12_isKindHere : CFV iX12_isKindHere 0 := ⟨t_1750, s_61, t_147, t_1751, by decide +kernel, by decide⟩
abbrev iX12_conIs : MI := (yX12_conIs, cX12_conIs, 7, none)
theorem cf_X12_conIs : CFV iX12_conIs 0 := ⟨t_1746, s_60, t_147, t_1747, by decide +kernel, by decide⟩
abbrev iX12_matchIs : MI := (yX12_matchIs, cX12_matchIs, 3, none)
theorem cf_X12_matchIs : CFV iX12_matchIs 0 := ⟨t_1762, s_64, t_147, t_1763, by decide +kernel, by decide⟩
abbrev iX12_emits : MI := (yX12_emits, cX12_emits, 5, none)
theorem cf_X12_emits : CFV iX12_emits 3 := ⟨t_1790, s_71, t_147, t_1791, by decide +kernel, by decide⟩
abbrev iX12_opensPattern : MI := (yX12_opensPattern, cX12_opensPattern, 2, none)
theorem cf_X12_opensPattern : CFV iX12_opensPattern 1 := ⟨t_1782, s_69, t_147, t_1783, by decide +kernel, by decide⟩
abbrev iX12_fieldBegins : MI := (yX12_fieldBegins, cX12_fieldBegins, 3, none)
theorem cf_X12_fieldBegins : CFV iX12_fieldBegins 2 := ⟨t_1805, s_74, t_147, t_1806, by decide +kernel, by decide⟩
abbrev iX12_range : MI := (yX12_range, cX12_range, 3, none)
theorem cf_X12_range : CFV iX12_range 0 := ⟨t_1794, s_72, t_147, t_1795, by decide +kernel, by decide⟩
abbrev iX12_alternative : MI := (yX12_alternative, cX12_alternative, 3, (some .boolean))
theorem cf_X12_alternative : CFV iX12_alternative 0 := ⟨t_1786, s_70, t_147, t_1787, by decide +kernel, by decide⟩
abbrev iX12_goesOn : MI := (yX12_goesOn, cX12_goesOn, 3, (some .boolean))
theorem cf_X12_goesOn : CFV iX12_goesOn 1 := ⟨t_1809, s_75, t_147, t_1810, by decide +kernel, by decide⟩
abbrev iX12_pattern : MI := (yX12_pattern, cX12_pattern, 3, none)
theorem cf_X12_pattern : CFV iX12_pattern 1 := ⟨t_1778, s_68, t_147, t_1779, by decide +kernel, by decide⟩
abbrev iX12_armIs : MI := (yX12_armIs, cX12_armIs, 3, none)
theorem cf_X12_armIs : CFV iX12_armIs 0 := ⟨t_1766, s_65, t_147, t_1767, by decide +kernel, by decide⟩
abbrev iX12_ruleIs : MI := (yX12_ruleIs, cX12_ruleIs, 1, none)
theorem cf_X12_ruleIs : CFV iX12_ruleIs 0 := ⟨t_1813, s_76, t_147, t_1814, by decide +kernel, by decide⟩
abbrev iX12_budgetIs : MI := (yX12_budgetIs, cX12_budgetIs, 1, none)
theorem cf_X12_budgetIs : CFV iX12_budgetIs 0 := ⟨t_1817, s_77, t_147, t_1818, by decide +kernel, by decide⟩
abbrev iX12_statement : MI := (yX12_statement, cX12_statement, 1, none)
theorem cf_X12_statement : CFV iX12_statement 0 := ⟨t_1695, s_50, t_147, t_1696, by decide +kernel, by decide⟩
abbrev iX12_finishes : MI := (yX12_finishes, cX12_finishes, 3, none)
theorem cf_X12_finishes : CFV iX12_finishes 1 := ⟨t_1821, s_78, t_147, t_1822, by decide +kernel, by decide⟩
abbrev iX12_match : MI := (yX12_match, cX12_match, 2, (some .int))
theorem cf_X12_match : CFV iX12_match 0 := ⟨t_1680, t_1681, t_147, t_1682, by decide +kernel, by decide⟩
abbrev iX12_fault : MI := (yX12_fault, cX12_fault, 2, (some .int))
theorem cf_X12_fault : CFV iX12_fault 1 := ⟨t_1844, t_1845, t_147, t_1846, by decide +kernel, by decide⟩
abbrev iX12_refuses : MI := (yX12_refuses, cX12_refuses, 2, (some .int))
theorem cf_X12_refuses : CFV iX12_refuses 1 := ⟨t_1669, s_47, t_147, t_1670, by decide +kernel, by decide⟩
abbrev iX12_status : MI := (yX12_status, cX12_status, 2, (some .int))
theorem cf_X12_status : CFV iX12_status 1 := ⟨t_1848, t_1849, t_147, t_1850, by decide +kernel, by decide⟩
abbrev iX12_fieldOf : MI := (yX12_fieldOf, cX12_fieldOf, 7, (some .int))
theorem cf_X12_fieldOf : CFV iX12_fieldOf 3 := ⟨t_1841, s_83, t_147, t_1842, by decide +kernel, by decide⟩
abbrev iX12_isFitting : MI := (yX12_isFitting, cX12_isFitting, 9, (some .boolean))
theorem cf_X12_isFitting : CFV iX12_isFitting 3 := ⟨t_1837, s_82, t_147, t_1838, by decide +kernel, by decide⟩
abbrev iX12_columns : MI := (yX12_columns, cX12_columns, 1, (some .int))
theorem cf_X12_columns : CFV iX12_columns 0 := ⟨t_1829, s_80, t_147, t_1830, by decide +kernel, by decide⟩
abbrev iX12_columnValues : MI := (yX12_columnValues, cX12_columnValues, 2, (some .int))
theorem cf_X12_columnValues : CFV iX12_columnValues 1 := ⟨t_1833, s_81, t_147, t_1834, by decide +kernel, by decide⟩
abbrev iX12_lays : MI := (yX12_lays, cX12_lays, 5, none)
theorem cf_X12_lays : CFV iX12_lays 0 := ⟨t_1825, s_79, t_147, t_1826, by decide +kernel, by decide⟩
abbrev iX12_copies : MI := (yX12_copies, cX12_copies, 4, none)
theorem cf_X12_copies : CFV iX12_copies 2 := ⟨t_1861, s_85, t_147, t_1862, by decide +kernel, by decide⟩
abbrev iX12_begin : MI := (yX12_begin, cX12_begin, 2, none)
theorem cf_X12_begin : CFV iX12_begin 0 := ⟨t_1366, s_46, t_147, t_1367, by decide +kernel, by decide⟩
abbrev iX12_slot : MI := (yX12_slot, cX12_slot, 2, (some .int))
theorem cf_X12_slot : CFV iX12_slot 1 := ⟨t_1857, s_84, t_147, t_1858, by decide +kernel, by decide⟩
abbrev iX12_keeps : MI := (yX12_keeps, cX12_keeps, 1, none)
theorem cf_X12_keeps : CFV iX12_keeps 0 := ⟨t_2134, s_125, t_147, t_2135, by decide +kernel, by decide⟩
abbrev iX12_undo : MI := (yX12_undo, cX12_undo, 1, (some .boolean))
theorem cf_X12_undo : CFV iX12_undo 0 := ⟨t_1852, t_1853, t_147, t_1854, by decide +kernel, by decide⟩
abbrev iX12_placed : MI := (yX12_placed, cX12_placed, 5, (some .int))
theorem cf_X12_placed : CFV iX12_placed 2 := ⟨t_1893, s_88, t_147, t_1894, by decide +kernel, by decide⟩
abbrev iX12_arranges : MI := (yX12_arranges, cX12_arranges, 4, none)
theorem cf_X12_arranges : CFV iX12_arranges 1 := ⟨t_1889, s_87, t_147, t_1890, by decide +kernel, by decide⟩
abbrev iX12_openBy : MI := (yX12_openBy, cX12_openBy, 4, (some .int))
theorem cf_X12_openBy : CFV iX12_openBy 1 := ⟨t_1925, s_96, t_147, t_1926, by decide +kernel, by decide⟩
abbrev iX12_lowest : MI := (yX12_lowest, cX12_lowest, 2, (some .int))
theorem cf_X12_lowest : CFS iX12_lowest 1 := ⟨t_1928, t_147, t_1929, by decide +kernel, by decide⟩
abbrev iX12_bitsOf : MI := (yX12_bitsOf, cX12_bitsOf, 3, (some .int))
theorem cf_X12_bitsOf : CFS iX12_bitsOf 1 := ⟨t_2032, t_147, t_2033, by decide +kernel, by decide⟩
abbrev iX12_valuesIn : MI := (yX12_valuesIn, cX12_valuesIn, 4, none)
theorem cf_X12_valuesIn : CFV iX12_valuesIn 1 := ⟨t_1905, s_91, t_147, t_1906, by decide +kernel, by decide⟩
abbrev iX12_setIn : MI := (yX12_setIn, cX12_setIn, 3, (some .int))
theorem cf_X12_setIn : CFV iX12_setIn 2 := ⟨t_1909, s_92, t_147, t_1910, by decide +kernel, by decide⟩
abbrev iX12_fitting : MI := (yX12_fitting, cX12_fitting, 4, (some .int))
theorem cf_X12_fitting : CFV iX12_fitting 1 := ⟨t_1901, s_90, t_147, t_1902, by decide +kernel, by decide⟩
abbrev iX12_countsRows : MI := (yX12_countsRows, cX12_countsRows, 2, none)
theorem cf_X12_countsRows : CFV iX12_countsRows 0 := ⟨t_1897, s_89, t_147, t_1898, by decide +kernel, by decide⟩
abbrev iX12_has : MI := (yX12_has, cX12_has, 2, (some .int))
theorem cf_X12_has : CFV iX12_has 1 := ⟨t_1864, t_1865, t_147, t_1866, by decide +kernel, by decide⟩
abbrev iX12_lettersOf : MI := (yX12_lettersOf, cX12_lettersOf, 5, (some .int))
theorem cf_X12_lettersOf : CFS iX12_lettersOf 1 := ⟨t_1872, t_147, t_1873, by decide +kernel, by decide⟩
abbrev iX12_letter : MI := (yX12_letter, cX12_letter, 7, (some .int))
theorem cf_X12_letter : CFV iX12_letter 3 := ⟨t_1868, t_1869, t_147, t_1870, by decide +kernel, by decide⟩
abbrev iX12_values : MI := (yX12_values, cX12_values, 2, (some .int))
theorem cf_X12_values : CFV iX12_values 1 := ⟨t_1876, t_1877, t_147, t_1878, by decide +kernel, by decide⟩
abbrev iX12_isPlace : MI := (yX12_isPlace, cX12_isPlace, 2, (some .boolean))
theorem cf_X12_isPlace : CFV iX12_isPlace 1 := ⟨t_1885, s_86, t_147, t_1886, by decide +kernel, by decide⟩
abbrev iX12_fittingRows : MI := (yX12_fittingRows, cX12_fittingRows, 4, (some .int))
theorem cf_X12_fittingRows : CFV iX12_fittingRows 1 := ⟨t_1917, s_94, t_147, t_1918, by decide +kernel, by decide⟩
abbrev iX12_isUseful : MI := (yX12_isUseful, cX12_isUseful, 4, (some .int))
theorem cf_X12_isUseful : CFV iX12_isUseful 1 := ⟨t_1913, s_93, t_147, t_1914, by decide +kernel, by decide⟩
abbrev iX12_takenRows : MI := (yX12_takenRows, cX12_takenRows, 5, (some .int))
theorem cf_X12_takenRows : CFV iX12_takenRows 1 := ⟨t_1921, s_95, t_147, t_1922, by decide +kernel, by decide⟩
abbrev iX12_arm : MI := (yX12_arm, cX12_arm, 3, (some .int))
theorem cf_X12_arm : CFV iX12_arm 2 := ⟨t_1880, t_1881, t_147, t_1882, by decide +kernel, by decide⟩
abbrev iX12_fits : MI := (yX12_fits, cX12_fits, 4, (some .int))
theorem cf_X12_fits : CFV iX12_fits 3 := ⟨t_1931, t_1932, t_147, t_1933, by decide +kernel, by decide⟩
abbrev iX12_holds : MI := (yX12_holds, cX12_holds, 4, (some .int))
theorem cf_X12_holds : CFV iX12_holds 2 := ⟨t_1935, t_1936, t_147, t_1937, by decide +kernel, by decide⟩
abbrev iX12_missing : MI := (yX12_missing, cX12_missing, 4, (some .int))
theorem cf_X12_missing : CFV iX12_missing 1 := ⟨t_1939, t_1940, t_147, t_1941, by decide +kernel, by decide⟩
abbrev iX12_isRow : MI := (yX12_isRow, cX12_isRow, 2, (some .boolean))
theorem cf_X12_isRow : CFV iX12_isRow 1 := ⟨t_1948, s_97, t_147, t_1949, by decide +kernel, by decide⟩
abbrev iX12_taken : MI := (yX12_taken, cX12_taken, 2, (some .int))
theorem cf_X12_taken : CFV iX12_taken 1 := ⟨t_1943, t_1944, t_147, t_1945, by decide +kernel, by decide⟩
abbrev iX12_valueRead : MI := (yX12_valueRead, cX12_valueRead, 5, (some .int))
theorem cf_X12_valueRead : CFV iX12_valueRead 1 := ⟨t_1956, s_98, t_147, t_1957, by decide +kernel, by decide⟩
abbrev iX12_conRead : MI := (yX12_conRead, cX12_conRead, 3, (some .int))
theorem cf_X12_conRead : CFV iX12_conRead 1 := ⟨t_1964, s_100, t_147, t_1965, by decide +kernel, by decide⟩
abbrev iX12_isMoreOf : MI := (yX12_isMoreOf, cX12_isMoreOf, 5, (some .boolean))
theorem cf_X12_isMoreOf : CFV iX12_isMoreOf 1 := ⟨t_1960, s_99, t_147, t_1961, by decide +kernel, by decide⟩
abbrev iX12_row : MI := (yX12_row, cX12_row, 3, (some .int))
theorem cf_X12_row : CFV iX12_row 0 := ⟨t_1951, t_1952, t_147, t_1953, by decide +kernel, by decide⟩
abbrev iX12_writes : MI := (yX12_writes, cX12_writes, 2, none)
theorem cf_X12_writes : CFV iX12_writes 1 := ⟨t_1976, s_102, t_147, t_1977, by decide +kernel, by decide⟩
abbrev iX12_writesName : MI := (yX12_writesName, cX12_writesName, 4, none)
theorem cf_X12_writesName : CFV iX12_writesName 1 := ⟨t_1988, s_105, t_147, t_1989, by decide +kernel, by decide⟩
abbrev iX12_later : MI := (yX12_later, cX12_later, 3, none)
theorem cf_X12_later : CFV iX12_later 2 := ⟨t_1972, s_101, t_147, t_1973, by decide +kernel, by decide⟩
abbrev iX12_conOf : MI := (yX12_conOf, cX12_conOf, 5, (some .int))
theorem cf_X12_conOf : CFV iX12_conOf 2 := ⟨t_1984, s_104, t_147, t_1985, by decide +kernel, by decide⟩
abbrev iX12_writesValue : MI := (yX12_writesValue, cX12_writesValue, 6, none)
theorem cf_X12_writesValue : CFV iX12_writesValue 2 := ⟨t_1980, s_103, t_147, t_1981, by decide +kernel, by decide⟩
abbrev iX12_text : MI := (yX12_text, cX12_text, 4, (some .int))
theorem cf_X12_text : CFV iX12_text 1 := ⟨t_1967, t_1968, t_147, t_1969, by decide +kernel, by decide⟩
abbrev iX12_octet : MI := (yX12_octet, cX12_octet, 2, (some .int))
theorem cf_X12_octet : CFV iX12_octet 1 := ⟨t_1991, t_1992, t_147, t_1993, by decide +kernel, by decide⟩
abbrev iX12_leftOf : MI := (yX12_leftOf, cX12_leftOf, 2, (some .int))
theorem cf_X12_leftOf : CFS iX12_leftOf 2 := ⟨t_2015, t_147, t_2016, by decide +kernel, by decide⟩
abbrev iX12_armsIn : MI := (yX12_armsIn, cX12_armsIn, 1, (some .int))
theorem cf_X12_armsIn : CFS iX12_armsIn 1 := ⟨t_2018, t_147, t_2019, by decide +kernel, by decide⟩
abbrev iX12_columnsIn : MI := (yX12_columnsIn, cX12_columnsIn, 1, (some .int))
theorem cf_X12_columnsIn : CFS iX12_columnsIn 1 := ⟨t_2025, t_147, t_2026, by decide +kernel, by decide⟩
abbrev iX12_worthOf : MI := (yX12_worthOf, cX12_worthOf, 7, (some .int))
theorem cf_X12_worthOf : CFV iX12_worthOf 2 := ⟨t_2029, s_111, t_147, t_2030, by decide +kernel, by decide⟩
abbrev iX12_asksFor : MI := (yX12_asksFor, cX12_asksFor, 8, (some .int))
theorem cf_X12_asksFor : CFV iX12_asksFor 1 := ⟨t_2022, s_110, t_147, t_2023, by decide +kernel, by decide⟩
abbrev iX12_isDoor : MI := (yX12_isDoor, cX12_isDoor, 2, (some .boolean))
theorem cf_X12_isDoor : CFV iX12_isDoor 1 := ⟨t_2051, s_115, t_147, t_2052, by decide +kernel, by decide⟩
abbrev iX12_throughDoor : MI := (yX12_throughDoor, cX12_throughDoor, 1, (some .int))
theorem cf_X12_throughDoor : CFS iX12_throughDoor 1 := ⟨t_2035, t_147, t_2036, by decide +kernel, by decide⟩
abbrev iX12_branchOf : MI := (yX12_branchOf, cX12_branchOf, 4, (some .int))
theorem cf_X12_branchOf : CFV iX12_branchOf 3 := ⟨t_2039, s_112, t_147, t_2040, by decide +kernel, by decide⟩
abbrev iX12_root : MI := (yX12_root, cX12_root, 1, (some .int))
theorem cf_X12_root : CFV iX12_root 0 := ⟨t_2012, s_109, t_147, t_2013, by decide +kernel, by decide⟩
abbrev iX12_plants : MI := (yX12_plants, cX12_plants, 3, none)
theorem cf_X12_plants : CFV iX12_plants 2 := ⟨t_2000, s_106, t_147, t_2001, by decide +kernel, by decide⟩
abbrev iX12_testsFor : MI := (yX12_testsFor, cX12_testsFor, 6, (some .int))
theorem cf_X12_testsFor : CFV iX12_testsFor 2 := ⟨t_2008, s_108, t_147, t_2009, by decide +kernel, by decide⟩
abbrev iX12_allTests : MI := (yX12_allTests, cX12_allTests, 5, (some .int))
theorem cf_X12_allTests : CFV iX12_allTests 1 := ⟨t_2004, s_107, t_147, t_2005, by decide +kernel, by decide⟩
abbrev iX12_reaches : MI := (yX12_reaches, cX12_reaches, 2, none)
theorem cf_X12_reaches : CFV iX12_reaches 1 := ⟨t_2047, s_114, t_147, t_2048, by decide +kernel, by decide⟩
abbrev iX12_grows : MI := (yX12_grows, cX12_grows, 5, none)
theorem cf_X12_grows : CFV iX12_grows 0 := ⟨t_2043, s_113, t_147, t_2044, by decide +kernel, by decide⟩
abbrev iX12_weighs : MI := (yX12_weighs, cX12_weighs, 8, none)
theorem cf_X12_weighs : CFV iX12_weighs 1 := ⟨t_2058, s_116, t_147, t_2059, by decide +kernel, by decide⟩
abbrev iX12_sizeOf : MI := (yX12_sizeOf, cX12_sizeOf, 1, (some .int))
theorem cf_X12_sizeOf : CFS iX12_sizeOf 1 := ⟨t_2054, t_147, t_2055, by decide +kernel, by decide⟩
abbrev iX12_tree : MI := (yX12_tree, cX12_tree, 5, (some .int))
theorem cf_X12_tree : CFV iX12_tree 2 := ⟨t_1995, t_1996, t_147, t_1997, by decide +kernel, by decide⟩
abbrev iX12_first : MI := (yX12_first, cX12_first, 4, (some .int))
theorem cf_X12_first : CFV iX12_first 1 := ⟨t_2062, t_2063, t_147, t_2064, by decide +kernel, by decide⟩
abbrev iX12_isNewSet : MI := (yX12_isNewSet, cX12_isNewSet, 5, (some .boolean))
theorem cf_X12_isNewSet : CFV iX12_isNewSet 3 := ⟨t_2083, s_120, t_147, t_2084, by decide +kernel, by decide⟩
abbrev iX12_nextBranch : MI := (yX12_nextBranch, cX12_nextBranch, 5, (some .int))
theorem cf_X12_nextBranch : CFV iX12_nextBranch 1 := ⟨t_2079, s_119, t_147, t_2080, by decide +kernel, by decide⟩
abbrev iX12_opensScope : MI := (yX12_opensScope, cX12_opensScope, 3, none)
theorem cf_X12_opensScope : CFV iX12_opensScope 2 := ⟨t_2075, s_118, t_147, t_2076, by decide +kernel, by decide⟩
abbrev iX12_builds : MI := (yX12_builds, cX12_builds, 3, none)
theorem cf_X12_builds : CFV iX12_builds 0 := ⟨t_2071, s_117, t_147, t_2072, by decide +kernel, by decide⟩
abbrev iX12_scopes : MI := (yX12_scopes, cX12_scopes, 4, (some .int))
theorem cf_X12_scopes : CFV iX12_scopes 3 := ⟨t_2066, t_2067, t_147, t_2068, by decide +kernel, by decide⟩
abbrev iX12_swapped : MI := (yX12_swapped, cX12_swapped, 3, (some .int))
theorem cf_X12_swapped : CFS iX12_swapped 3 := ⟨t_2094, t_147, t_2095, by decide +kernel, by decide⟩
abbrev iX12_moved : MI := (yX12_moved, cX12_moved, 3, (some .int))
theorem cf_X12_moved : CFS iX12_moved 3 := ⟨t_2097, t_147, t_2098, by decide +kernel, by decide⟩
abbrev iX12_isSafe : MI := (yX12_isSafe, cX12_isSafe, 8, (some .boolean))
theorem cf_X12_isSafe : CFV iX12_isSafe 2 := ⟨t_2091, s_121, t_147, t_2092, by decide +kernel, by decide⟩
abbrev iX12_safe : MI := (yX12_safe, cX12_safe, 3, (some .int))
theorem cf_X12_safe : CFV iX12_safe 2 := ⟨t_2086, t_2087, t_147, t_2088, by decide +kernel, by decide⟩
abbrev iX12_exchanges : MI := (yX12_exchanges, cX12_exchanges, 5, none)
theorem cf_X12_exchanges : CFV iX12_exchanges 3 := ⟨t_2105, s_122, t_147, t_2106, by decide +kernel, by decide⟩
abbrev iX12_best : MI := (yX12_best, cX12_best, 6, (some .int))
theorem cf_X12_best : CFV iX12_best 1 := ⟨t_2100, t_2101, t_147, t_2102, by decide +kernel, by decide⟩
abbrev iX12_see : MI := (yX12_see, cX12_see, 4, (some .int))
theorem cf_X12_see : CFV iX12_see 0 := ⟨t_2108, t_2109, t_147, t_2110, by decide +kernel, by decide⟩
abbrev iX12_leaves : MI := (yX12_leaves, cX12_leaves, 5, (some .int))
theorem cf_X12_leaves : CFV iX12_leaves 0 := ⟨t_2117, s_123, t_147, t_2118, by decide +kernel, by decide⟩
abbrev iX12_sets : MI := (yX12_sets, cX12_sets, 5, (some .int))
theorem cf_X12_sets : CFV iX12_sets 1 := ⟨t_2112, t_2113, t_147, t_2114, by decide +kernel, by decide⟩
abbrev iX12_mostBy : MI := (yX12_mostBy, cX12_mostBy, 6, (some .int))
theorem cf_X12_mostBy : CFV iX12_mostBy 1 := ⟨t_2126, s_124, t_147, t_2127, by decide +kernel, by decide⟩
abbrev iX12_tells : MI := (yX12_tells, cX12_tells, 7, (some .int))
theorem cf_X12_tells : CFV iX12_tells 1 := ⟨t_2120, t_2121, t_147, t_2122, by decide +kernel, by decide⟩
abbrev iX12_runs : MI := (yX12_runs, cX12_runs, 6, (some .int))
theorem cf_X12_runs : CFV iX12_runs 1 := ⟨t_2138, s_126, t_147, t_2139, by decide +kernel, by decide⟩
abbrev iX12_run : MI := (yX12_run, cX12_run, 2, (some .int))
theorem cf_X12_run : CFV iX12_run 1 := ⟨t_2129, t_2130, t_147, t_2131, by decide +kernel, by decide⟩
abbrev iX12_draw : MI := (yX12_draw, cX12_draw, 2, (some .int))
theorem cf_X12_draw : CFV iX12_draw 1 := ⟨t_2146, s_127, t_147, t_2147, by decide +kernel, by decide⟩
abbrev iX12_chance : MI := (yX12_chance, cX12_chance, 4, (some .int))
theorem cf_X12_chance : CFV iX12_chance 1 := ⟨t_2141, t_2142, t_147, t_2143, by decide +kernel, by decide⟩
abbrev iX12_swap : MI := (yX12_swap, cX12_swap, 3, (some .boolean))
theorem cf_X12_swap : CFV iX12_swap 2 := ⟨t_2153, t_2154, t_147, t_2155, by decide +kernel, by decide⟩
abbrev iX12_drop : MI := (yX12_drop, cX12_drop, 3, (some .boolean))
theorem cf_X12_drop : CFV iX12_drop 1 := ⟨t_2157, t_2158, t_147, t_2159, by decide +kernel, by decide⟩
abbrev iX12_turn : MI := (yX12_turn, cX12_turn, 2, (some .int))
theorem cf_X12_turn : CFV iX12_turn 1 := ⟨t_2161, t_2162, t_147, t_2163, by decide +kernel, by decide⟩
abbrev iX12_choose : MI := (yX12_choose, cX12_choose, 2, (some .boolean))
theorem cf_X12_choose : CFV iX12_choose 1 := ⟨t_2165, t_2166, t_147, t_2167, by decide +kernel, by decide⟩
abbrev iX12_seed : MI := (yX12_seed, cX12_seed, 2, (some .boolean))
theorem cf_X12_seed : CFV iX12_seed 1 := ⟨t_2169, t_2170, t_147, t_2171, by decide +kernel, by decide⟩
abbrev iX12_kept : MI := (yX12_kept, cX12_kept, 3, (some .int))
theorem cf_X12_kept : CFV iX12_kept 2 := ⟨t_2173, t_2174, t_147, t_2175, by decide +kernel, by decide⟩
abbrev iX12_image : MI := (yX12_image, cX12_image, 3, (some .int))
theorem cf_X12_image : CFV iX12_image 0 := ⟨t_2177, t_2178, t_147, t_2179, by decide +kernel, by decide⟩
abbrev iX12_comesOn : MI := (yX12_comesOn, cX12_comesOn, 6, (some .boolean))
theorem cf_X12_comesOn : CFV iX12_comesOn 1 := ⟨t_2186, s_128, t_147, t_2187, by decide +kernel, by decide⟩
abbrev iX12_on : MI := (yX12_on, cX12_on, 2, (some .boolean))
theorem cf_X12_on : CFV iX12_on 0 := ⟨t_2181, t_2182, t_147, t_2183, by decide +kernel, by decide⟩
end
end
section
section
/-! Calls in the layer Go, by what comes back; a name for a value. -/
section GC
variable {S : WS} {G : GT} {d : Nat} {i : MI} {pc : Nat} {ls : List (Nat × PV)} {st : List PV} {P : PH} {Q : Option PV → PH → Prop}
theorem g_nm {z : Int} {t : Nat} (k : ∀ x : Int, x = z → Go S G d i pc ls ((t, x) :: st) P Q) : Go S G d i pc ls ((t, z) :: st) P Q := k z rfl
theorem g_vI {j : MI} {av st0 : List PV} {o n d1 idx ci N : Nat} {C1 : String} {T1 : u_T} (hC : Ct S G d1 j (vR o :: av) P (fun v P1 => ∃ r : Int, v = some (vI r) ∧ Go S G d i (pc + 3) ls (vI r :: st) P1 Q)) (hF : CFV j n) (hw : Cond.methodLink i.1.cls idx j.1 ∈ WT) (hn : av.length = n) (ho : o < S.1) (hsh : S.2.2.1 (S.2.1 o) = (0, ci, N)) (hcl : vwCl[ci]? = some (C1, T1, N)) (hC1 : j.1.cls = C1) (hcat : (st.map fun v => if v.1 == 1 then 2 else 1).sum ≤ 8) (hdp : d1 + 1 ≤ d) (hst : st0 = av.reverse ++ vR o :: st) (hd : decode i.2.1 pc = .ok (.invokevirtual idx, 3)) : Go S G d i pc ls st0 P Q :=
  g_callV hC hF hw hn ho hsh hcl hC1 hcat hdp hst hd (fun v P1 h => by obtain ⟨r, rfl, h⟩ := h; exact h)
theorem g_vL {j : MI} {av st0 : List PV} {o n d1 idx ci N : Nat} {C1 : String} {T1 : u_T} (hC : Ct S G d1 j (vR o :: av) P (fun v P1 => ∃ r : Int, v = some (vL r) ∧ Go S G d i (pc + 3) ls (vL r :: st) P1 Q)) (hF : CFV j n) (hw : Cond.methodLink i.1.cls idx j.1 ∈ WT) (hn : av.length = n) (ho : o < S.1) (hsh : S.2.2.1 (S.2.1 o) = (0, ci, N)) (hcl : vwCl[ci]? = some (C1, T1, N)) (hC1 : j.1.cls = C1) (hcat : (st.map fun v => if v.1 == 1 then 2 else 1).sum ≤ 8) (hdp : d1 + 1 ≤ d) (hst : st0 = av.reverse ++ vR o :: st) (hd : decode i.2.1 pc = .ok (.invokevirtual idx, 3)) : Go S G d i pc ls st0 P Q :=
  g_callV hC hF hw hn ho hsh hcl hC1 hcat hdp hst hd (fun v P1 h => by obtain ⟨r, rfl, h⟩ := h; exact h)
theorem g_vR {j : MI} {av st0 : List PV} {o n d1 idx ci N : Nat} {C1 : String} {T1 : u_T} (hC : Ct S G d1 j (vR o :: av) P (fun v P1 => ∃ r : Nat, v = some (vR r) ∧ Go S G d i (pc + 3) ls (vR r :: st) P1 Q)) (hF : CFV j n) (hw : Cond.methodLink i.1.cls idx j.1 ∈ WT) (hn : av.length = n) (ho : o < S.1) (hsh : S.2.2.1 (S.2.1 o) = (0, ci, N)) (hcl : vwCl[ci]? = some (C1, T1, N)) (hC1 : j.1.cls = C1) (hcat : (st.map fun v => if v.1 == 1 then 2 else 1).sum ≤ 8) (hdp : d1 + 1 ≤ d) (hst : st0 = av.reverse ++ vR o :: st) (hd : decode i.2.1 pc = .ok (.invokevirtual idx, 3)) : Go S G d i pc ls st0 P Q :=
  g_callV hC hF hw hn ho hsh hcl hC1 hcat hdp hst hd (fun v P1 h => by obtain ⟨r, rfl, h⟩ := h; exact h)
theorem g_vV {j : MI} {av st0 : List PV} {o n d1 idx ci N : Nat} {C1 : String} {T1 : u_T} (hC : Ct S G d1 j (vR o :: av) P (fun v P1 => v = none ∧ Go S G d i (pc + 3) ls st P1 Q)) (hF : CFV j n) (hw : Cond.methodLink i.1.cls idx j.1 ∈ WT) (hn : av.length = n) (ho : o < S.1) (hsh : S.2.2.1 (S.2.1 o) = (0, ci, N)) (hcl : vwCl[ci]? = some (C1, T1, N)) (hC1 : j.1.cls = C1) (hcat : (st.map fun v => if v.1 == 1 then 2 else 1).sum ≤ 8) (hdp : d1 + 1 ≤ d) (hst : st0 = av.reverse ++ vR o :: st) (hd : decode i.2.1 pc = .ok (.invokevirtual idx, 3)) : Go S G d i pc ls st0 P Q :=
  g_callV hC hF hw hn ho hsh hcl hC1 hcat hdp hst hd (fun v P1 h => by obtain ⟨rfl, h⟩ := h; exact h)
theorem g_sI {j : MI} {av st0 : List PV} {n d1 idx : Nat} (hC : Ct S G d1 j av P (fun v P1 => ∃ r : Int, v = some (vI r) ∧ Go S G d i (pc + 3) ls (vI r :: st) P1 Q)) (hF : CFS j n) (hw : Cond.methodLink i.1.cls idx j.1 ∈ WT) (hn : av.length = n) (hcat : (st.map fun v => if v.1 == 1 then 2 else 1).sum ≤ 8) (hdp : d1 + 1 ≤ d) (hst : st0 = av.reverse ++ st) (hd : decode i.2.1 pc = .ok (.invokestatic idx, 3)) : Go S G d i pc ls st0 P Q :=
  g_callS hC hF hw hn hcat hdp hst hd (fun v P1 h => by obtain ⟨r, rfl, h⟩ := h; exact h)
theorem g_sL {j : MI} {av st0 : List PV} {n d1 idx : Nat} (hC : Ct S G d1 j av P (fun v P1 => ∃ r : Int, v = some (vL r) ∧ Go S G d i (pc + 3) ls (vL r :: st) P1 Q)) (hF : CFS j n) (hw : Cond.methodLink i.1.cls idx j.1 ∈ WT) (hn : av.length = n) (hcat : (st.map fun v => if v.1 == 1 then 2 else 1).sum ≤ 8) (hdp : d1 + 1 ≤ d) (hst : st0 = av.reverse ++ st) (hd : decode i.2.1 pc = .ok (.invokestatic idx, 3)) : Go S G d i pc ls st0 P Q :=
  g_callS hC hF hw hn hcat hdp hst hd (fun v P1 h => by obtain ⟨r, rfl, h⟩ := h; exact h)
theorem g_sV {j : MI} {av st0 : List PV} {n d1 idx : Nat} (hC : Ct S G d1 j av P (fun v P1 => v = none ∧ Go S G d i (pc + 3) ls st P1 Q)) (hF : CFS j n) (hw : Cond.methodLink i.1.cls idx j.1 ∈ WT) (hn : av.length = n) (hcat : (st.map fun v => if v.1 == 1 then 2 else 1).sum ≤ 8) (hdp : d1 + 1 ≤ d) (hst : st0 = av.reverse ++ st) (hd : decode i.2.1 pc = .ok (.invokestatic idx, 3)) : Go S G d i pc ls st0 P Q :=
  g_callS hC hF hw hn hcat hdp hst hd (fun v P1 h => by obtain ⟨rfl, h⟩ := h; exact h)
theorem g_nI {j : MI} {av st0 : List PV} {n d1 idx : Nat} {host : String} (hC : Ct S G d1 j av P (fun v P1 => ∃ r : Int, v = some (vI r) ∧ Go S G d i (pc + 3) ls (vI r :: st) P1 Q)) (hF : CFS j n) (hw : ∀ U : State, nX U → va_Nw (.methodLinkNest i.1.cls idx j.1 host) U) (hn : av.length = n) (hcat : (st.map fun v => if v.1 == 1 then 2 else 1).sum ≤ 8) (hdp : d1 + 1 ≤ d) (hst : st0 = av.reverse ++ st) (hd : decode i.2.1 pc = .ok (.invokestatic idx, 3)) : Go S G d i pc ls st0 P Q :=
  g_callSN hC hF hw hn hcat hdp hst hd (fun v P1 h => by obtain ⟨r, rfl, h⟩ := h; exact h)
end GC
end
section
/-! More of bits: longs above 0; a bit that is shifted. -/
theorem ishl01_all : ∀ y : Nat, y < 31 → ishl 0 (y : Int) = 0 := by decide +kernel
theorem ishl01 (n : Nat) (hn : n ≤ 30) {x y : Int} (hx : 0 ≤ x ∧ x ≤ 1) (h : 0 ≤ y ∧ y ≤ (n : Int)) : 0 ≤ ishl x y ∧ ishl x y ≤ ((2 ^ n : Nat) : Int) := by
  rcases (show x = 0 ∨ x = 1 by omega) with rfl | rfl
  · have e : ((y.toNat : Nat) : Int) = y := Int.toNat_of_nonneg h.1
    have h1 := ishl01_all y.toNat (by omega)
    rw [e] at h1
    rw [h1]
    exact ⟨by decide, Int.natCast_nonneg _⟩
  · have h1 := ishl1 n hn h
    exact ⟨by omega, h1.2.2⟩
theorem lldiv_p {x y : Int} (hx : 0 ≤ x ∧ x ≤ 9223372036854775807) (hy : 0 < y ∧ y ≤ 9223372036854775807) : lldiv x y = x / y := by
  unfold lldiv
  rw [Int64.toInt_div_of_ne_right _ _ (fun q => by have := congrArg Int64.toInt q; rw [oL ⟨by omega, hy.2⟩] at this; have e : (-1 : Int64).toInt = -1 := by decide
                                                   omega), oL ⟨by omega, hx.2⟩, oL ⟨by omega, hy.2⟩, Int.tdiv_eq_ediv_of_nonneg hx.1]
theorem llrem_p {x y : Int} (hx : 0 ≤ x ∧ x ≤ 9223372036854775807) (hy : 0 < y ∧ y ≤ 9223372036854775807) : llrem x y = x % y := by
  have hd := lldiv_p hx hy
  have e1 : Int64.ofInt x / Int64.ofInt y = Int64.ofInt (x / y) := by rw [← hd]; exact (Int64.ofInt_toInt _).symm
  unfold llrem
  rw [e1, ← Int64.ofInt_mul, ← Int64.ofInt_sub]
  have h1 := Int.emod_nonneg x (show y ≠ 0 by omega)
  have h2 := Int.emod_lt_of_pos x hy.1
  have h3 : x - x / y * y = x % y := by have := Int.mul_ediv_add_emod x y; rw [Int.mul_comm] at this; omega
  rw [h3, oL ⟨by omega, by omega⟩]
theorem llrem_b {x y : Int} (hx : 0 ≤ x ∧ x ≤ 9223372036854775807) (hy : 0 < y ∧ y ≤ 9223372036854775807) : 0 ≤ llrem x y ∧ llrem x y < y := by
  rw [llrem_p hx hy]
  exact ⟨Int.emod_nonneg x (by omega), Int.emod_lt_of_pos x hy.1⟩
theorem i64_and_r {a b : Int64} (h : 0 ≤ b.toInt) : 0 ≤ (a &&& b).toInt ∧ (a &&& b).toInt ≤ b.toInt := by
  have e : ∀ x : Int64, x.toInt = x.toBitVec.toInt := fun _ => rfl
  rw [e] at h
  rw [e, e, Int64.toBitVec_and]
  have hb : b.toBitVec.msb = false := by
    rw [BitVec.msb_eq_toInt]
    simpa using h
  have hab : (a.toBitVec &&& b.toBitVec).msb = false := by rw [BitVec.msb_and, hb, Bool.and_false]
  rw [BitVec.toInt_eq_toNat_of_msb hb, BitVec.toInt_eq_toNat_of_msb hab, BitVec.toNat_and]
  have := @Nat.and_le_right a.toBitVec.toNat b.toBitVec.toNat
  omega
theorem lland_r {x y : Int} (hy : 0 ≤ y ∧ y ≤ 9223372036854775807) : 0 ≤ lland x y ∧ lland x y ≤ y := by
  unfold lland
  have e : (Int64.ofInt y).toInt = y := oL ⟨by omega, hy.2⟩
  have h := i64_and_r (a := Int64.ofInt x) (b := Int64.ofInt y) (by rw [e]; exact hy.1)
  rw [e] at h
  exact h
theorem l64_smod {c : Nat} (hc : c ≤ 31) : ((((Int32.ofInt (c : Int)).toInt64 &&& 63).toBitVec.smod 64)).toNat = c := by
  have : ∀ c : Nat, c < 32 → ((((Int32.ofInt (c : Int)).toInt64 &&& 63).toBitVec.smod 64)).toNat = c := by decide
  exact this c (by omega)
/-- a shift of a long to the right by a number that is known -/
theorem llshr_c (c : Nat) (hc : c ≤ 31) {x : Int} (h : LR x) : llshr x (c : Int) = x / ((2 ^ c : Nat) : Int) := by
  unfold llshr
  have e0 : ∀ y : Int64, y.toInt = y.toBitVec.toInt := fun _ => rfl
  rw [e0, Int64.toBitVec_shiftRight, BitVec.toInt_sshiftRight', l64_smod hc]
  have h1 : (Int64.ofInt x).toBitVec.toInt = x := oL h
  rw [h1, Int.shiftRight_eq_div_pow]
/-- the lowest bit of a set of twelve -/
theorem low12a : ∀ a : Nat, a < 64 → ∀ b : Nat, b < 64 → (∀ q : Nat, q < 12 → iand (ishr ((64 * a + b : Nat) : Int) (q : Int)) 1 = 0) → 64 * a + b = 0 := by decide +kernel
theorem low12 (x : Nat) (hx : x < 4096) (h : ∀ q : Nat, q < 12 → iand (ishr (x : Int) (q : Int)) 1 = 0) : x = 0 := by
  have e : 64 * (x / 64) + x % 64 = x := Nat.div_add_mod x 64
  have := low12a (x / 64) (by omega) (x % 64) (by omega) (by rw [e]; exact h)
  omega
theorem low12' {x : Int} (hx : 0 ≤ x ∧ x ≤ 4095) (h : ∀ q : Nat, q < 12 → iand (ishr x (q : Int)) 1 = 0) : x = 0 := by
  have e : ((x.toNat : Nat) : Int) = x := Int.toNat_of_nonneg hx.1
  have := low12 x.toNat (by omega) (by rw [e]; exact h)
  omega
theorem up_cs {P : PH} {o : Nat} {k k1 z : Int} : (k1 = k ∧ up P o k z o k1 = z) ∨ (k1 ≠ k ∧ up P o k z o k1 = P o k1) := by
  by_cases h : k1 = k
  · exact Or.inl ⟨h, by rw [h, up_same]⟩
  · exact Or.inr ⟨h, up_k h⟩
end
section
/-! Invariants of the reference. -/
def disF (F s : FS) : Bool := s.1.all (fun k => !F.1.contains k) && s.2.all (fun k => !F.2.contains k)
/-- which column a node may ask for: none, or one that is left there -/
def mok (left c : Int) : Prop := c = 4 ∨ (0 ≤ c ∧ c ≤ 3 ∧ iand (ishr (left / 4096) c) 1 = 1)
def okC (P : PH) : Prop := ∀ c : Int, 0 ≤ c → c < P 11 (P 0 13) → P 12 ((4 * P 0 13) + c) = 4 ∨ 1 ≤ P 3 ((4 * P 0 13) + P 12 ((4 * P 0 13) + c))
theorem okC.fr {P P1 : PH} {F : FS} (h : okC P) (hf : FrM F P P1) (hd : disF F ([13], [3, 11, 12]) = true) : okC P1 := by
  unfold disF at hd
  simp only [List.all_cons, List.all_nil, Bool.and_true, Bool.and_eq_true, Bool.not_eq_true'] at hd
  unfold okC at h ⊢
  rw [hf.1 13 hd.1, hf.2 3 rfl hd.2.1, hf.2 11 rfl hd.2.2.1, hf.2 12 rfl hd.2.2.2]
  exact h
def okR (P : PH) : Prop := P 0 44 = 0 ∨ 1 ≤ P 0 52
theorem okR.fr {P P1 : PH} {F : FS} (h : okR P) (hf : FrM F P P1) (hd : disF F ([44, 52], []) = true) : okR P1 := by
  unfold disF at hd
  simp only [List.all_cons, List.all_nil, Bool.and_true, Bool.and_eq_true, Bool.not_eq_true'] at hd
  unfold okR at h ⊢
  rw [hf.1 44 hd.1, hf.1 52 hd.2]
  exact h
def MV (P : PH) : Prop := ∀ k : Int, 0 ≤ P 49 k ∧ P 49 k / 8 ≤ P 0 74 ∧ (P 49 k / 8 = P 0 74 → mok k (P 49 k % 8))
theorem MV.fr {P P1 : PH} {F : FS} (h : MV P) (hf : FrM F P P1) (hd : disF F ([74], [49]) = true) : MV P1 := by
  unfold disF at hd
  simp only [List.all_cons, List.all_nil, Bool.and_true, Bool.and_eq_true, Bool.not_eq_true'] at hd
  unfold MV at h ⊢
  rw [hf.1 74 hd.1, hf.2 49 rfl hd.2]
  exact h
def RE (P : PH) : Prop := ∀ k : Int, P 51 k ≤ P 0 74
theorem RE.fr {P P1 : PH} {F : FS} (h : RE P) (hf : FrM F P P1) (hd : disF F ([74], [51]) = true) : RE P1 := by
  unfold disF at hd
  simp only [List.all_cons, List.all_nil, Bool.and_true, Bool.and_eq_true, Bool.not_eq_true'] at hd
  unfold RE at h ⊢
  rw [hf.1 74 hd.1, hf.2 51 rfl hd.2]
  exact h
theorem MV.next {P P1 : PH} {F : FS} (h : MV P) (hf : FrM F P P1) (h49 : F.2.contains 49 = false) (hs : P1 0 74 = P 0 74 + 1) : MV P1 := by
  intro k
  have e := hf.2 49 rfl h49
  have h1 := h k
  rw [e, hs]
  exact ⟨h1.1, by omega, fun q => by omega⟩
theorem RE.next {P P1 : PH} {F : FS} (h : RE P) (hf : FrM F P P1) (h51 : F.2.contains 51 = false) (hs : P1 0 74 = P 0 74 + 1) : RE P1 := by
  intro k
  have e := hf.2 51 rfl h51
  have h1 := h k
  rw [e, hs]
  omega
end
section
/-! What the trees' numbers are: arms and columns left, packed. -/
theorem iand_mask (k : Nat) (hk : k ≤ 30) {x : Int} (hx : 0 ≤ x ∧ x ≤ 2147483647) : iand x (((2 ^ k - 1 : Nat)) : Int) = x % ((2 ^ k : Nat) : Int) := by
  have hp : (2 ^ k : Nat) ≤ 2 ^ 30 := Nat.pow_le_pow_right (by decide) hk
  have h30 : (2 : Nat) ^ 30 = 1073741824 := by decide
  have hpos : 0 < 2 ^ k := Nat.two_pow_pos k
  unfold iand
  rw [i32_bv, Int32.toBitVec_and]
  have e1 := bv_of (z := x) hx
  have e2 := bv_of (z := ((2 ^ k - 1 : Nat) : Int)) ⟨by omega, by omega⟩
  have hv : ((Int32.ofInt x).toBitVec &&& (Int32.ofInt ((2 ^ k - 1 : Nat) : Int)).toBitVec).toNat = x.toNat % 2 ^ k := by
    rw [BitVec.toNat_and, e1, e2, Int.toNat_natCast, Nat.and_two_pow_sub_one_eq_mod]
  have hlt : x.toNat % 2 ^ k < 2 ^ k := Nat.mod_lt _ hpos
  rw [bv_small (n := 2 ^ k) (by rw [hv]; exact hlt) (by omega), hv]
  have e3 : ((x.toNat : Nat) : Int) = x := Int.toNat_of_nonneg hx.1
  rw [Int.natCast_emod, e3]
theorem iand7 {x : Int} (hx : 0 ≤ x ∧ x ≤ 2147483647) : iand x 7 = x % 8 := iand_mask 3 (by decide) hx
theorem iand4095 {x : Int} (hx : 0 ≤ x ∧ x ≤ 2147483647) : iand x 4095 = x % 4096 := iand_mask 12 (by decide) hx
theorem ior_hl (k : Nat) {x y : Int} (hx : 0 ≤ x ∧ x < ((2 ^ k : Nat) : Int)) (hy : 0 ≤ y) (hr : y * ((2 ^ k : Nat) : Int) + x ≤ 2147483647) : ior (y * ((2 ^ k : Nat) : Int)) x = y * ((2 ^ k : Nat) : Int) + x := by
  have e4 : ((y.toNat : Nat) : Int) = y := Int.toNat_of_nonneg hy
  have e3 : ((x.toNat : Nat) : Int) = x := Int.toNat_of_nonneg hx.1
  have ey : (y * ((2 ^ k : Nat) : Int)) = ((y.toNat * 2 ^ k : Nat) : Int) := by rw [Int.natCast_mul, e4]
  have hy0 : 0 ≤ y * ((2 ^ k : Nat) : Int) := by rw [ey]; exact Int.natCast_nonneg _
  unfold ior
  rw [i32_bv, Int32.toBitVec_or]
  have e1 := bv_of (z := y * ((2 ^ k : Nat) : Int)) ⟨hy0, by omega⟩
  have e2 := bv_of (z := x) ⟨hx.1, by omega⟩
  have hlt : x.toNat < 2 ^ k := by omega
  have hv : ((Int32.ofInt (y * ((2 ^ k : Nat) : Int))).toBitVec ||| (Int32.ofInt x).toBitVec).toNat = y.toNat * 2 ^ k + x.toNat := by
    rw [BitVec.toNat_or, e1, e2, ey, Int.toNat_natCast, ← Nat.shiftLeft_eq, Nat.shiftLeft_add_eq_or_of_lt hlt]
  have hle : y.toNat * 2 ^ k + x.toNat < 2147483648 := by
    have : ((y.toNat * 2 ^ k + x.toNat : Nat) : Int) = y * ((2 ^ k : Nat) : Int) + x := by rw [Int.natCast_add, ← ey, e3]
    omega
  rw [bv_small (n := 2147483648) (by rw [hv]; exact hle) (by omega), hv, Int.natCast_add, ← ey, e3]
theorem ior_comm (x y : Int) : ior x y = ior y x := by unfold ior; rw [Int32.or_comm]
theorem ior_hl3 {x y : Int} (hx : 0 ≤ x ∧ x < 8) (hy : 0 ≤ y) (hr : y * 8 + x ≤ 2147483647) : ior (y * 8) x = y * 8 + x := ior_hl 3 hx hy hr
theorem ior_hl12 {x y : Int} (hx : 0 ≤ x ∧ x < 4096) (hy : 0 ≤ y) (hr : y * 4096 + x ≤ 2147483647) : ior x (y * 4096) = y * 4096 + x := by
  rw [ior_comm]
  exact ior_hl 12 hx hy hr
theorem bclr_all : ∀ a : Nat, a < 16 → ∀ c : Nat, c < 4 → iand (ishr (a : Int) (c : Int)) 1 = 1 → iand (a : Int) (ixor (ishl 1 (c : Int)) (-1)) ≤ (a : Int) - 1 := by decide +kernel
theorem bclr {a c : Int} (ha : 0 ≤ a ∧ a ≤ 15) (hc : 0 ≤ c ∧ c ≤ 3) (h : iand (ishr a c) 1 = 1) : iand a (ixor (ishl 1 c) (-1)) ≤ a - 1 := by
  have e1 : ((a.toNat : Nat) : Int) = a := Int.toNat_of_nonneg ha.1
  have e2 : ((c.toNat : Nat) : Int) = c := Int.toNat_of_nonneg hc.1
  have := bclr_all a.toNat (by omega) c.toNat (by omega)
  rw [e1, e2] at this
  exact this h
theorem MV.set {P P1 : PH} {F : FS} {left z b : Int} (h : MV P) (hf : FrM F P P1) (hd : disF F ([74], [49]) = true) (hz : z = 8 * P 0 74 + b) (hb : 0 ≤ b ∧ b ≤ 7) (hs : 0 ≤ P 0 74) (hm : mok left b) : MV (up P1 49 left z) := by
  have h1 := MV.fr h hf hd
  have e74 : P1 0 74 = P 0 74 := by
    unfold disF at hd
    simp only [List.all_cons, List.all_nil, Bool.and_true, Bool.and_eq_true, Bool.not_eq_true'] at hd
    exact hf.1 74 hd.1
  intro k
  have h2 := h1 k
  rw [up_o (o := 49) (o1 := 0) (by decide)]
  by_cases e : k = left
  · subst e
    rw [up_same, e74]
    exact ⟨by omega, by omega, fun _ => by rw [show z % 8 = b by omega]; exact hm⟩
  · rw [up_k e]
    exact h2
/-- how many of the first n are s -/
def cnt (f : Int → Int) (s : Int) : Nat → Int
  | 0 => 0
  | n + 1 => cnt f s n + (if f (n : Int) = s then 1 else 0)
theorem cnt_le (f : Int → Int) (s : Int) (n : Nat) : 0 ≤ cnt f s n ∧ cnt f s n ≤ (n : Int) := by
  induction n with
  | zero => exact ⟨Int.le_refl _, Int.le_refl _⟩
  | succ n ih => unfold cnt; split <;> omega
theorem cnt_lt {f : Int → Int} {s : Int} (n k : Nat) (hk : k < n) (h : f (k : Int) ≠ s) : cnt f s n ≤ (n : Int) - 1 := by
  induction n with
  | zero => omega
  | succ n ih =>
    have := cnt_le f s n
    by_cases e : k = n
    · subst e; unfold cnt; rw [if_neg h]; omega
    · have := ih (by omega); unfold cnt; split <;> omega
theorem cnt_0 {f : Int → Int} {s : Int} (n : Nat) (h : ∀ k : Int, f k < s) : cnt f s n = 0 := by
  induction n with
  | zero => rfl
  | succ n ih => unfold cnt; rw [ih, if_neg (by have := h (n : Int); omega)]; rfl
theorem cnt_same {f g : Int → Int} {s : Int} (n : Nat) (h : ∀ j : Nat, j < n → f (j : Int) = g (j : Int)) : cnt f s n = cnt g s n := by
  induction n with
  | zero => rfl
  | succ n ih => unfold cnt; rw [ih (fun j hj => h j (by omega)), h n (by omega)]
theorem cnt_up {f g : Int → Int} {s : Int} (n k : Nat) (hk : k < n) (h0 : f (k : Int) ≠ s) (h1 : g (k : Int) = s) (h : ∀ j : Int, j ≠ (k : Int) → g j = f j) : cnt g s n = cnt f s n + 1 := by
  induction n with
  | zero => omega
  | succ n ih =>
    by_cases e : k = n
    · subst e
      unfold cnt
      rw [if_pos h1, if_neg h0, cnt_same (f := g) (g := f) k (fun j hj => h _ (by omega))]
      omega
    · unfold cnt
      rw [ih (by omega), h (n : Int) (by omega)]
      omega
/-- all marks are older than now -/
def RLt (P : PH) : Prop := ∀ k : Int, P 51 k < P 0 74
theorem RLt.fr {P P1 : PH} {F : FS} (h : RLt P) (hf : FrM F P P1) (hd : disF F ([74], [51]) = true) : RLt P1 := by
  unfold disF at hd
  simp only [List.all_cons, List.all_nil, Bool.and_true, Bool.and_eq_true, Bool.not_eq_true'] at hd
  unfold RLt at h ⊢
  rw [hf.1 74 hd.1, hf.2 51 rfl hd.2]
  exact h
theorem RE.nextL {P P1 : PH} {F : FS} (h : RE P) (hf : FrM F P P1) (h51 : F.2.contains 51 = false) (hs : P1 0 74 = P 0 74 + 1) : RLt P1 := by
  intro k
  have e := hf.2 51 rfl h51
  have h1 := h k
  rw [e, hs]
  omega
theorem RLt.RE {P : PH} (h : RLt P) : RE P := fun k => Int.le_of_lt (h k)
/-- the states told are as many as the marks of now -/
def CN (P : PH) : Prop := P 0 81 = cnt (P 51) (P 0 74) 65536
theorem CN.fr {P P1 : PH} {F : FS} (h : CN P) (hf : FrM F P P1) (hd : disF F ([74, 81], [51]) = true) : CN P1 := by
  unfold disF at hd
  simp only [List.all_cons, List.all_nil, Bool.and_true, Bool.and_eq_true, Bool.not_eq_true'] at hd
  unfold CN at h ⊢
  rw [hf.1 74 hd.1.1, hf.1 81 hd.1.2, hf.2 51 rfl hd.2]
  exact h
theorem CN.lt {P : PH} {k : Int} (h : CN P) (hk : 0 ≤ k ∧ k ≤ 65535) (hn : P 51 k ≠ P 0 74) : P 0 81 ≤ 65535 := by
  have e : ((k.toNat : Nat) : Int) = k := Int.toNat_of_nonneg hk.1
  have := cnt_lt (f := P 51) (s := P 0 74) 65536 k.toNat (by omega) (by rw [e]; exact hn)
  unfold CN at h
  omega
theorem CN.zero {P P1 : PH} {F : FS} (h : RLt P) (hf : FrM F P P1) (hd : disF F ([74], [51]) = true) (h0 : P1 0 81 = 0) : CN P1 := by
  have h1 := RLt.fr h hf hd
  unfold CN
  rw [h0, cnt_0 65536 h1]
/-- one more is marked and told -/
theorem CN.step {P P1 : PH} {k : Int} (h : CN P) (hk : 0 ≤ k ∧ k ≤ 65535) (hn : P 51 k ≠ P 0 74) (e74 : P1 0 74 = P 0 74) (e81 : P1 0 81 = P 0 81 + 1) (e51 : P1 51 k = P 0 74) (eo : ∀ j : Int, j ≠ k → P1 51 j = P 51 j) : CN P1 := by
  have e : ((k.toNat : Nat) : Int) = k := Int.toNat_of_nonneg hk.1
  unfold CN at h ⊢
  rw [e81, e74, cnt_up (f := P 51) (g := P1 51) 65536 k.toNat (by omega) (by rw [e]; exact hn) (by rw [e]; exact e51) (by rw [e]; exact eo), h]
theorem RE.step {P P1 : PH} {k : Int} (h : RE P) (e74 : P1 0 74 = P 0 74) (e51 : P1 51 k = P 0 74) (eo : ∀ j : Int, j ≠ k → P1 51 j = P 51 j) : RE P1 := by
  intro j
  rw [e74]
  by_cases e : j = k
  · rw [e, e51]; exact Int.le_refl _
  · rw [eo j e]; exact h j
end
end
