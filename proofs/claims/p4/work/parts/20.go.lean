/-! The layer Go. A value is (0, z) an int, (1, z) a long, (2, o) a reference to object number o; the heap is ONE function P o k (object, field or element) of ints. Every row of it comes once from the machine's rows; nothing above it speaks of the machine again. -/
abbrev PV : Type := Nat × Int
abbrev PH : Type := Nat → Int → Int
abbrev vI (z : Int) : PV := (0, z)
abbrev vL (z : Int) : PV := (1, z)
abbrev vR (o : Nat) : PV := (2, (o : Int))
def gv (ad : Nat → Nat) (v : PV) : Value := match v.1 with
  | 0 => .int (Int32.ofInt v.2)
  | 1 => .long (Int64.ofInt v.2)
  | _ => .ref (ad v.2.toNat)
/-- how a world looks: how many objects, the kind of each, the kinds' shapes (0: class, fields; 1: int[], 2: long[], 3 and on: rows of references), the kinds of fields (0 int, 1 long, 2 a reference that may change, 3 one that doesn't), the references that don't change, the array classes -/
abbrev WS : Type := Nat × (Nat → Nat) × (Nat → Nat × Nat × Nat) × (Nat → Nat → Nat) × (Nat → Nat → Nat) × List FieldType
abbrev GT : Type := Launch × (Nat → ClassId) × (Nat → Nat → Nat) × (Nat → ClassId) × (Nat → Nat)
def sv (S : WS) (ad : Nat → Nat) (P : PH) (o k : Nat) : Value := match S.2.2.2.1 (S.2.1 o) k with
  | 0 => .int (Int32.ofInt (P o (k : Int)))
  | 1 => .long (Int64.ofInt (P o (k : Int)))
  | 2 => .ref (ad (P o (k : Int)).toNat)
  | _ => .ref (ad (S.2.2.2.2.1 o k))
def en (S : WS) (ad : Nat → Nat) (ct : Nat → ClassId) (P : PH) (o : Nat) : va_E := match S.2.2.1 (S.2.1 o) with
  | (0, ci, n) => .inr (ci, (List.range n).map (sv S ad P o))
  | (1, _, n) => .inl (ct 0, n, .inl fun i => Int32.ofInt (P o (i : Int)))
  | (2, _, n) => .inl (ct 1, n, .inr (.inl fun i => Int64.ofInt (P o (i : Int))))
  | (_, t, n) => .inl (ct t, n, .inr (.inr (.inr (.inr fun i => some (ad (S.2.2.2.2.1 o i))))))
def WL (S : WS) (G : GT) (P : PH) : va_W := (List.range S.1).map fun o => (G.2.2.2.2 o, en S G.2.2.2.2 G.2.2.2.1 P o)
def AA (S : WS) (G : GT) : Nat → Prop := fun q => ∃ o, o < S.1 ∧ q = G.2.2.2.2 o
def tysG (S : WS) (G : GT) : List (ClassId × FieldType) := S.2.2.2.2.2.mapIdx fun i t => (G.2.2.2.1 i, t)
def injG (S : WS) (G : GT) : Prop := ∀ i j, i < S.1 → j < S.1 → G.2.2.2.2 i = G.2.2.2.2 j → i = j
def ptG (S : WS) (G : GT) (P : PH) (H : Heap) : Prop := va_P (G.2.1, G.2.2.1) vwCl (WL S G P) H
/-- the links to private members of nest mates, which are no words of WT -/
def nX (U : State) : Prop := va_Nw (.methodLinkNest RX1 29 yX11_letterOf RX11) U ∧ va_Nw (.methodLinkNest RX5 38 yX11_isIn RX11) U ∧ va_Nw (.methodLinkNest RX10 70 yX11_isIn RX11) U
theorem nX.same {u U : State} (h : u.vm = U.vm) (hN : nX u) : nX U := ⟨hN.1.same rfl h, hN.2.1.same rfl h, hN.2.2.same rfl h⟩
theorem nX.warm {s U : State} (hW : s.WarmedH U.vm) (hN : nX s) : nX U := ⟨hN.1.warmM hW, hN.2.1.warmM hW, hN.2.2.warmM hW⟩
def kG (S : WS) (G : GT) (U : State) : Prop := va_K (G.2.1, G.2.2.1) vwCl (tysG S G) U ∧ nX U
/-- up P o k z: the heap with z at (o, k) -/
def up (P : PH) (o : Nat) (k z : Int) : PH := fun o1 k1 => if o1 = o ∧ k1 = k then z else P o1 k1
theorem up_same {P : PH} {o : Nat} {k z : Int} : up P o k z o k = z := by simp [up]
theorem up_o {P : PH} {o o1 : Nat} {k k1 z : Int} (h : o1 ≠ o) : up P o k z o1 k1 = P o1 k1 := by simp [up, h]
theorem up_k {P : PH} {o o1 : Nat} {k k1 z : Int} (h : k1 ≠ k) : up P o k z o1 k1 = P o1 k1 := by simp [up, h]
theorem up_row {P : PH} {o o1 : Nat} {k z : Int} (h : o1 ≠ o) : up P o k z o1 = P o1 := by funext j; exact up_o h
/-- a method: its name, code, locals, what it returns -/
abbrev MI : Type := MethodName × ByteArray × Nat × Option FieldType
def Qg (S : WS) (G : GT) (Q : Option PV → PH → Prop) : Array Value → State → Outcome → State → Prop := fun _ st oc t =>
  (∃ (v : Option PV) (P1 : PH), oc = .returned (v.map (gv G.2.2.2.2)) ∧ Q v P1 ∧ ptG S G P1 t.heap) ∧ va_F (AA S G) st t
/-- a contract: from heap P with these arguments the method returns v and heap P1 with Q v P1; d frames are room enough -/
def Ct (S : WS) (G : GT) (d : Nat) (i : MI) (av : List PV) (P : PH) (Q : Option PV → PH → Prop) : Prop :=
  Met G.1 i.1 (.code i.1 i.2.1 i.2.2.1 i.2.2.2 :: WT) { frames := d, cells := 0, slots := 0, locals := 60 * d } (va_Pc (av.map (gv G.2.2.2.2)) (fun U => ptG S G P U.heap ∧ kG S G U ∧ injG S G)) (Qg S G Q) 0 0 (AA S G)
/-- what stays while a method runs -/
def Cx (S : WS) (G : GT) (d : Nat) (i : MI) (p : Program) (R : Room) (s : State) (m : MethodId) (args : Array Value) (meth : Method) (c : Code) : Prop :=
  p.tables.exec = Jvm.exec ∧ c.code = i.2.1 ∧ c.maxLocals = i.2.2.1 ∧ meth.sig.returnType = i.2.2.2 ∧ meth.locks = false ∧ s.vm.findClass i.1.cls = some m.cls ∧ (∀ w ∈ WT, w.before args s = true) ∧ kG S G s ∧ injG S G ∧ d ≤ R.frames ∧ 60 * d ≤ R.locals
def gl (G : GT) (ls : List (Nat × PV)) : List (Nat × Value) := ls.map fun q => (q.1, gv G.2.2.2.2 q.2)
def gs (G : GT) (st : List PV) : List Value := st.map (gv G.2.2.2.2)
/-- from here, at pc with these locals, this stack and heap P, the method returns with Q -/
def Go (S : WS) (G : GT) (d : Nat) (i : MI) (pc : Nat) (ls : List (Nat × PV)) (st : List PV) (P : PH) (Q : Option PV → PH → Prop) : Prop :=
  ∀ (p : Program) (e : Env) (R : Room) (s : State) (m : MethodId) (args : Array Value) (below : List Frame) (meth : Method) (c : Code) (H : Heap) (locs : List Loc) (la : Array Slot),
    Cx S G d i p R s m args meth c → ptG S G P H → va_S (AA S G) s.heap H locs → lv_has la i.2.2.1 (gl G ls) →
    W p G.1 e R s m args below meth c H locs 0 0 (MQ below (Qg S G Q) args s 0 0 (AA S G)) (F0 m pc la (gs G st))
theorem WL_get {S : WS} {G : GT} {P : PH} {o : Nat} (h : o < S.1) : (WL S G P)[o]? = some (G.2.2.2.2 o, en S G.2.2.2.2 G.2.2.2.1 P o) := by
  unfold WL
  rw [List.getElem?_map, List.getElem?_range h]
  rfl
theorem WL_len {S : WS} {G : GT} {P : PH} : (WL S G P).length = S.1 := by simp [WL]
theorem WL_D {S : WS} {G : GT} {P : PH} (hi : injG S G) : va_D (AA S G) (WL S G P) := by
  have key : ∀ (k : Nat) (q : Nat × va_E), (WL S G P)[k]? = some q → k < S.1 ∧ q.1 = G.2.2.2.2 k := by
    intro k q h
    have hk : k < S.1 := by have := (List.getElem?_eq_some_iff.mp h).1; rw [WL_len] at this; exact this
    rw [WL_get hk] at h
    exact ⟨hk, by rw [← Option.some.inj h]⟩
  refine ⟨fun a b x y hx hy he => ?_, fun k q h => ?_⟩
  · obtain ⟨h1, h2⟩ := key a x hx
    obtain ⟨h3, h4⟩ := key b y hy
    exact hi a b h1 h3 (by rw [← h2, ← h4, he])
  · obtain ⟨h1, h2⟩ := key k q h
    exact ⟨k, h1, h2⟩
theorem tysG_get {S : WS} {G : GT} {t : Nat} {ty : FieldType} (h : S.2.2.2.2.2[t]? = some ty) : (tysG S G)[t]? = some (G.2.2.2.1 t, ty) := by
  simp [tysG, List.getElem?_mapIdx, h]
/-- a write to another object leaves an entry -/
theorem en_o {S : WS} {ad : Nat → Nat} {ct : Nat → ClassId} {P : PH} {o o1 : Nat} {k z : Int} (h : o1 ≠ o) : en S ad ct (up P o k z) o1 = en S ad ct P o1 := by
  have e1 : up P o k z o1 = P o1 := up_row h
  have e2 : sv S ad (up P o k z) o1 = sv S ad P o1 := by
    funext j
    unfold sv
    rw [e1]
  unfold en
  rw [e1, e2]
theorem WL_set {S : WS} {G : GT} {P : PH} {o : Nat} {k z : Int} {e : va_E} (h : o < S.1) (he : e = en S G.2.2.2.2 G.2.2.2.1 (up P o k z) o) : (WL S G P).set o (G.2.2.2.2 o, e) = WL S G (up P o k z) := by
  apply List.ext_getElem?
  intro j
  by_cases hj : j < S.1
  · rw [WL_get hj]
    by_cases hjo : j = o
    · subst hjo
      rw [List.getElem?_set_self (by rw [WL_len]; exact hj), he]
    · rw [List.getElem?_set_ne (fun q => hjo q.symm), WL_get hj, en_o hjo]
  · rw [List.getElem?_eq_none (by rw [List.length_set, WL_len]; omega), List.getElem?_eq_none (by rw [WL_len]; omega)]
theorem sv_set {S : WS} {ad : Nat → Nat} {P : PH} {o k n : Nat} {z : Int} {v : Value} (hk : k < n) (hv : v = sv S ad (up P o (k : Int) z) o k) : ((List.range n).map (sv S ad P o)).set k v = (List.range n).map (sv S ad (up P o (k : Int) z) o) := by
  apply List.ext_getElem?
  intro j
  by_cases hj : j < n
  · by_cases hjk : j = k
    · subst hjk
      rw [List.getElem?_set_self (by simpa using hj), List.getElem?_map, List.getElem?_range hj, hv]
      rfl
    · rw [List.getElem?_set_ne (fun q => hjk q.symm), List.getElem?_map, List.getElem?_map, List.getElem?_range hj]
      show some (sv S ad P o j) = some (sv S ad (up P o (k : Int) z) o j)
      unfold sv
      rw [up_k (fun q => hjk (by omega))]
  · rw [List.getElem?_eq_none (by simpa using hj), List.getElem?_eq_none (by simpa using hj)]
theorem enO {S : WS} {ad : Nat → Nat} {ct : Nat → ClassId} {P : PH} {o ci n : Nat} (h : S.2.2.1 (S.2.1 o) = (0, ci, n)) : en S ad ct P o = .inr (ci, (List.range n).map (sv S ad P o)) := by unfold en; rw [h]; rfl
theorem enI {S : WS} {ad : Nat → Nat} {ct : Nat → ClassId} {P : PH} {o ci n : Nat} (h : S.2.2.1 (S.2.1 o) = (1, ci, n)) : en S ad ct P o = .inl (ct 0, n, .inl fun i => Int32.ofInt (P o (i : Int))) := by unfold en; rw [h]; rfl
theorem enJ {S : WS} {ad : Nat → Nat} {ct : Nat → ClassId} {P : PH} {o ci n : Nat} (h : S.2.2.1 (S.2.1 o) = (2, ci, n)) : en S ad ct P o = .inl (ct 1, n, .inr (.inl fun i => Int64.ofInt (P o (i : Int)))) := by unfold en; rw [h]; rfl
theorem enR {S : WS} {ad : Nat → Nat} {ct : Nat → ClassId} {P : PH} {o t n : Nat} (h : S.2.2.1 (S.2.1 o) = (3, t, n)) : en S ad ct P o = .inl (ct t, n, .inr (.inr (.inr (.inr fun i => some (ad (S.2.2.2.2.1 o i)))))) := by unfold en; rw [h]; rfl
theorem WLO {S : WS} {G : GT} {P : PH} {o ci n : Nat} (ho : o < S.1) (h : S.2.2.1 (S.2.1 o) = (0, ci, n)) : (WL S G P)[o]? = some (G.2.2.2.2 o, .inr (ci, (List.range n).map (sv S G.2.2.2.2 P o))) := by rw [WL_get ho, enO h]
theorem WLI {S : WS} {G : GT} {P : PH} {o ci n : Nat} (ho : o < S.1) (h : S.2.2.1 (S.2.1 o) = (1, ci, n)) : (WL S G P)[o]? = some (G.2.2.2.2 o, .inl (G.2.2.2.1 0, n, .inl fun i => Int32.ofInt (P o (i : Int)))) := by rw [WL_get ho, enI h]
theorem WLJ {S : WS} {G : GT} {P : PH} {o ci n : Nat} (ho : o < S.1) (h : S.2.2.1 (S.2.1 o) = (2, ci, n)) : (WL S G P)[o]? = some (G.2.2.2.2 o, .inl (G.2.2.2.1 1, n, .inr (.inl fun i => Int64.ofInt (P o (i : Int))))) := by rw [WL_get ho, enJ h]
theorem WLR {S : WS} {G : GT} {P : PH} {o t n : Nat} (ho : o < S.1) (h : S.2.2.1 (S.2.1 o) = (3, t, n)) : (WL S G P)[o]? = some (G.2.2.2.2 o, .inl (G.2.2.2.1 t, n, .inr (.inr (.inr (.inr fun i => some (G.2.2.2.2 (S.2.2.2.2.1 o i))))))) := by rw [WL_get ho, enR h]
/-! ints in range -/
abbrev IR (z : Int) : Prop := -2147483648 ≤ z ∧ z ≤ 2147483647
abbrev LR (z : Int) : Prop := -9223372036854775808 ≤ z ∧ z ≤ 9223372036854775807
theorem oI {z : Int} (h : IR z) : (Int32.ofInt z).toInt = z := Int32.toInt_ofInt_of_le (by have := h.1; omega) (by have := h.2; omega)
theorem oL {z : Int} (h : LR z) : (Int64.ofInt z).toInt = z := Int64.toInt_ofInt_of_le (by have := h.1; omega) (by have := h.2; omega)
theorem oI_in {z : Int} {n : Nat} (h : 0 ≤ z ∧ z < (n : Int)) (hn : n ≤ 2147483647) : vp_in (Int32.ofInt z) n := by
  rw [vp_in_iff, oI ⟨by omega, by omega⟩]
  exact h
theorem oI_nat {z : Int} (h : 0 ≤ z ∧ z ≤ 2147483647) : (Int32.ofInt z).toNatClampNeg = z.toNat := by
  show (Int32.ofInt z).toInt.toNat = _
  rw [oI ⟨by omega, h.2⟩]
theorem oI_eq {x y : Int} (hx : IR x) (hy : IR y) : Int32.ofInt x = Int32.ofInt y ↔ x = y := by
  constructor
  · intro h
    have := congrArg Int32.toInt h
    rwa [oI hx, oI hy] at this
  · intro h; rw [h]
theorem oI_lt {x y : Int} (hx : IR x) (hy : IR y) : Int32.ofInt x < Int32.ofInt y ↔ x < y := by rw [Int32.lt_iff_toInt_lt, oI hx, oI hy]
theorem oI_le {x y : Int} (hx : IR x) (hy : IR y) : Int32.ofInt x ≤ Int32.ofInt y ↔ x ≤ y := by rw [Int32.le_iff_toInt_le, oI hx, oI hy]
theorem oI_zero : (0 : Int32) = Int32.ofInt 0 := rfl
theorem IR0 : IR 0 := by decide
theorem rgI (x : Int32) : IR x.toInt := by
  have h1 := Int32.le_toInt x
  have h2 := Int32.toInt_lt x
  have e : (2 : Int) ^ 31 = 2147483648 := by decide
  rw [e] at h1 h2
  exact ⟨by omega, by omega⟩
theorem rgL (x : Int64) : LR x.toInt := by
  have h1 := Int64.le_toInt x
  have h2 := Int64.toInt_lt x
  have e : (2 : Int) ^ 63 = 9223372036854775808 := by decide
  rw [e] at h1 h2
  exact ⟨by omega, by omega⟩
/-! bits, as on the machine -/
def iand (x y : Int) : Int := (Int32.ofInt x &&& Int32.ofInt y).toInt
def ior (x y : Int) : Int := (Int32.ofInt x ||| Int32.ofInt y).toInt
def ixor (x y : Int) : Int := (Int32.ofInt x ^^^ Int32.ofInt y).toInt
def ishl (x y : Int) : Int := (Int32.ofInt x <<< (Int32.ofInt y &&& 31)).toInt
def ishr (x y : Int) : Int := (Int32.ofInt x >>> (Int32.ofInt y &&& 31)).toInt
def iushr (x y : Int) : Int := ((Int32.ofInt x).toUInt32 >>> ((Int32.ofInt y).toUInt32 &&& Int32.toUInt32 31)).toInt32.toInt
def idiv (x y : Int) : Int := (Int32.ofInt x / Int32.ofInt y).toInt
def irem (x y : Int) : Int := (Int32.ofInt x - Int32.ofInt x / Int32.ofInt y * Int32.ofInt y).toInt
def lland (x y : Int) : Int := (Int64.ofInt x &&& Int64.ofInt y).toInt
def llor (x y : Int) : Int := (Int64.ofInt x ||| Int64.ofInt y).toInt
def llshl (x y : Int) : Int := (Int64.ofInt x <<< ((Int32.ofInt y).toInt64 &&& 63)).toInt
def llshr (x y : Int) : Int := (Int64.ofInt x >>> ((Int32.ofInt y).toInt64 &&& 63)).toInt
def llushr (x y : Int) : Int := ((Int64.ofInt x).toUInt64 >>> ((Int32.ofInt y).toInt64.toUInt64 &&& Int64.toUInt64 63)).toInt64.toInt
def lldiv (x y : Int) : Int := (Int64.ofInt x / Int64.ofInt y).toInt
def llrem (x y : Int) : Int := (Int64.ofInt x - Int64.ofInt x / Int64.ofInt y * Int64.ofInt y).toInt
def lcmpv (x y : Int) : Int := if y < x then 1 else if x = y then 0 else -1

section GO
variable {S : WS} {G : GT} {d : Nat} {i : MI} {pc : Nat} {ls : List (Nat × PV)} {st : List PV} {P : PH} {Q : Option PV → PH → Prop}
theorem g_iadd {x y : Int} (hd : decode i.2.1 pc = .ok (.iadd, 1)) (k : Go S G d i (pc + 1) ls (vI (x + y) :: st) P Q) : Go S G d i pc ls (vI y :: vI x :: st) P Q := by
  intro p e R s m args below meth c H locs la C hP hS hl
  obtain ⟨hx, hb, hml, hr, hlk, hown, hts, ⟨hK, hNk⟩, hi, hdf, hdl⟩ := C
  have e1 : Int32.ofInt x + Int32.ofInt y = Int32.ofInt (x + y) := (Int32.ofInt_add x y).symm
  refine lv_iadd (x := Int32.ofInt x) (y := Int32.ofInt y) (rest := gs G st) hx hb hd ?_
  rw [e1]
  exact k p e R s m args below meth c H locs la ⟨hx, hb, hml, hr, hlk, hown, hts, ⟨hK, hNk⟩, hi, hdf, hdl⟩ hP hS hl

theorem g_isub {x y : Int} (hd : decode i.2.1 pc = .ok (.isub, 1)) (k : Go S G d i (pc + 1) ls (vI (x - y) :: st) P Q) : Go S G d i pc ls (vI y :: vI x :: st) P Q := by
  intro p e R s m args below meth c H locs la C hP hS hl
  obtain ⟨hx, hb, hml, hr, hlk, hown, hts, ⟨hK, hNk⟩, hi, hdf, hdl⟩ := C
  have e1 : Int32.ofInt x - Int32.ofInt y = Int32.ofInt (x - y) := (Int32.ofInt_sub x y).symm
  refine lv_isub (x := Int32.ofInt x) (y := Int32.ofInt y) (rest := gs G st) hx hb hd ?_
  rw [e1]
  exact k p e R s m args below meth c H locs la ⟨hx, hb, hml, hr, hlk, hown, hts, ⟨hK, hNk⟩, hi, hdf, hdl⟩ hP hS hl

theorem g_imul {x y : Int} (hd : decode i.2.1 pc = .ok (.imul, 1)) (k : Go S G d i (pc + 1) ls (vI (x * y) :: st) P Q) : Go S G d i pc ls (vI y :: vI x :: st) P Q := by
  intro p e R s m args below meth c H locs la C hP hS hl
  obtain ⟨hx, hb, hml, hr, hlk, hown, hts, ⟨hK, hNk⟩, hi, hdf, hdl⟩ := C
  have e1 : Int32.ofInt x * Int32.ofInt y = Int32.ofInt (x * y) := (Int32.ofInt_mul x y).symm
  refine lv_imul (x := Int32.ofInt x) (y := Int32.ofInt y) (rest := gs G st) hx hb hd ?_
  rw [e1]
  exact k p e R s m args below meth c H locs la ⟨hx, hb, hml, hr, hlk, hown, hts, ⟨hK, hNk⟩, hi, hdf, hdl⟩ hP hS hl

theorem g_iand {x y : Int} (hd : decode i.2.1 pc = .ok (.iand, 1)) (k : Go S G d i (pc + 1) ls (vI (iand x y) :: st) P Q) : Go S G d i pc ls (vI y :: vI x :: st) P Q := by
  intro p e R s m args below meth c H locs la C hP hS hl
  obtain ⟨hx, hb, hml, hr, hlk, hown, hts, ⟨hK, hNk⟩, hi, hdf, hdl⟩ := C
  have e1 : Int32.ofInt x &&& Int32.ofInt y = Int32.ofInt (iand x y) := (Int32.ofInt_toInt _).symm
  refine lv_iand (x := Int32.ofInt x) (y := Int32.ofInt y) (rest := gs G st) hx hb hd ?_
  rw [e1]
  exact k p e R s m args below meth c H locs la ⟨hx, hb, hml, hr, hlk, hown, hts, ⟨hK, hNk⟩, hi, hdf, hdl⟩ hP hS hl

theorem g_ior {x y : Int} (hd : decode i.2.1 pc = .ok (.ior, 1)) (k : Go S G d i (pc + 1) ls (vI (ior x y) :: st) P Q) : Go S G d i pc ls (vI y :: vI x :: st) P Q := by
  intro p e R s m args below meth c H locs la C hP hS hl
  obtain ⟨hx, hb, hml, hr, hlk, hown, hts, ⟨hK, hNk⟩, hi, hdf, hdl⟩ := C
  have e1 : Int32.ofInt x ||| Int32.ofInt y = Int32.ofInt (ior x y) := (Int32.ofInt_toInt _).symm
  refine lv_ior (x := Int32.ofInt x) (y := Int32.ofInt y) (rest := gs G st) hx hb hd ?_
  rw [e1]
  exact k p e R s m args below meth c H locs la ⟨hx, hb, hml, hr, hlk, hown, hts, ⟨hK, hNk⟩, hi, hdf, hdl⟩ hP hS hl

theorem g_ixor {x y : Int} (hd : decode i.2.1 pc = .ok (.ixor, 1)) (k : Go S G d i (pc + 1) ls (vI (ixor x y) :: st) P Q) : Go S G d i pc ls (vI y :: vI x :: st) P Q := by
  intro p e R s m args below meth c H locs la C hP hS hl
  obtain ⟨hx, hb, hml, hr, hlk, hown, hts, ⟨hK, hNk⟩, hi, hdf, hdl⟩ := C
  have e1 : Int32.ofInt x ^^^ Int32.ofInt y = Int32.ofInt (ixor x y) := (Int32.ofInt_toInt _).symm
  refine lv_ixor (x := Int32.ofInt x) (y := Int32.ofInt y) (rest := gs G st) hx hb hd ?_
  rw [e1]
  exact k p e R s m args below meth c H locs la ⟨hx, hb, hml, hr, hlk, hown, hts, ⟨hK, hNk⟩, hi, hdf, hdl⟩ hP hS hl

theorem g_ishl {x y : Int} (hd : decode i.2.1 pc = .ok (.ishl, 1)) (k : Go S G d i (pc + 1) ls (vI (ishl x y) :: st) P Q) : Go S G d i pc ls (vI y :: vI x :: st) P Q := by
  intro p e R s m args below meth c H locs la C hP hS hl
  obtain ⟨hx, hb, hml, hr, hlk, hown, hts, ⟨hK, hNk⟩, hi, hdf, hdl⟩ := C
  have e1 : Int32.ofInt x <<< (Int32.ofInt y &&& 31) = Int32.ofInt (ishl x y) := (Int32.ofInt_toInt _).symm
  refine lv_ishl (x := Int32.ofInt x) (y := Int32.ofInt y) (rest := gs G st) hx hb hd ?_
  rw [e1]
  exact k p e R s m args below meth c H locs la ⟨hx, hb, hml, hr, hlk, hown, hts, ⟨hK, hNk⟩, hi, hdf, hdl⟩ hP hS hl

theorem g_ishr {x y : Int} (hd : decode i.2.1 pc = .ok (.ishr, 1)) (k : Go S G d i (pc + 1) ls (vI (ishr x y) :: st) P Q) : Go S G d i pc ls (vI y :: vI x :: st) P Q := by
  intro p e R s m args below meth c H locs la C hP hS hl
  obtain ⟨hx, hb, hml, hr, hlk, hown, hts, ⟨hK, hNk⟩, hi, hdf, hdl⟩ := C
  have e1 : Int32.ofInt x >>> (Int32.ofInt y &&& 31) = Int32.ofInt (ishr x y) := (Int32.ofInt_toInt _).symm
  refine lv_ishr (x := Int32.ofInt x) (y := Int32.ofInt y) (rest := gs G st) hx hb hd ?_
  rw [e1]
  exact k p e R s m args below meth c H locs la ⟨hx, hb, hml, hr, hlk, hown, hts, ⟨hK, hNk⟩, hi, hdf, hdl⟩ hP hS hl

theorem g_idiv {x y : Int} (hd : decode i.2.1 pc = .ok (.idiv, 1)) (hy : IR y ∧ y ≠ 0) (k : Go S G d i (pc + 1) ls (vI (idiv x y) :: st) P Q) : Go S G d i pc ls (vI y :: vI x :: st) P Q := by
  intro p e R s m args below meth c H locs la C hP hS hl
  obtain ⟨hx, hb, hml, hr, hlk, hown, hts, ⟨hK, hNk⟩, hi, hdf, hdl⟩ := C
  have hne : ¬ Int32.ofInt y = 0 := fun q => hy.2 ((oI_eq hy.1 IR0).mp q)
  have e1 : Int32.ofInt x / Int32.ofInt y = Int32.ofInt (idiv x y) := (Int32.ofInt_toInt _).symm
  refine lv_idiv (x := Int32.ofInt x) (y := Int32.ofInt y) (rest := gs G st) hx hb hd hne ?_
  rw [e1]
  exact k p e R s m args below meth c H locs la ⟨hx, hb, hml, hr, hlk, hown, hts, ⟨hK, hNk⟩, hi, hdf, hdl⟩ hP hS hl

theorem g_irem {x y : Int} (hd : decode i.2.1 pc = .ok (.irem, 1)) (hy : IR y ∧ y ≠ 0) (k : Go S G d i (pc + 1) ls (vI (irem x y) :: st) P Q) : Go S G d i pc ls (vI y :: vI x :: st) P Q := by
  intro p e R s m args below meth c H locs la C hP hS hl
  obtain ⟨hx, hb, hml, hr, hlk, hown, hts, ⟨hK, hNk⟩, hi, hdf, hdl⟩ := C
  have hne : ¬ Int32.ofInt y = 0 := fun q => hy.2 ((oI_eq hy.1 IR0).mp q)
  have e1 : Int32.ofInt x - Int32.ofInt x / Int32.ofInt y * Int32.ofInt y = Int32.ofInt (irem x y) := (Int32.ofInt_toInt _).symm
  refine lv_irem (x := Int32.ofInt x) (y := Int32.ofInt y) (rest := gs G st) hx hb hd hne ?_
  rw [e1]
  exact k p e R s m args below meth c H locs la ⟨hx, hb, hml, hr, hlk, hown, hts, ⟨hK, hNk⟩, hi, hdf, hdl⟩ hP hS hl

theorem g_ineg {x : Int} (hd : decode i.2.1 pc = .ok (.ineg, 1)) (k : Go S G d i (pc + 1) ls (vI (-x) :: st) P Q) : Go S G d i pc ls (vI x :: st) P Q := by
  intro p e R s m args below meth c H locs la C hP hS hl
  obtain ⟨hx, hb, hml, hr, hlk, hown, hts, ⟨hK, hNk⟩, hi, hdf, hdl⟩ := C
  have e1 : -Int32.ofInt x = Int32.ofInt (-x) := (Int32.ofInt_neg x).symm
  refine lv_ineg (x := Int32.ofInt x) (rest := gs G st) hx hb hd ?_
  rw [e1]
  exact k p e R s m args below meth c H locs la ⟨hx, hb, hml, hr, hlk, hown, hts, ⟨hK, hNk⟩, hi, hdf, hdl⟩ hP hS hl

theorem g_iushr {x y : Int} (hd : decode i.2.1 pc = .ok (.iushr, 1)) (k : Go S G d i (pc + 1) ls (vI (iushr x y) :: st) P Q) : Go S G d i pc ls (vI y :: vI x :: st) P Q := by
  intro p e R s m args below meth c H locs la C hP hS hl
  obtain ⟨hx, hb, hml, hr, hlk, hown, hts, ⟨hK, hNk⟩, hi, hdf, hdl⟩ := C
  exact lv_iushr (x := Int32.ofInt x) (y := Int32.ofInt y) (v := Int32.ofInt (iushr x y)) (rest := gs G st) hx hb hd (Int32.ofInt_toInt _).symm (k p e R s m args below meth c H locs la ⟨hx, hb, hml, hr, hlk, hown, hts, ⟨hK, hNk⟩, hi, hdf, hdl⟩ hP hS hl)

/-- a number that may have left the range: the one that the machine keeps -/
theorem g_norm {z : Int} (k : ∀ x : Int, IR x → Int32.ofInt z = Int32.ofInt x → Go S G d i pc ls (vI x :: st) P Q) : Go S G d i pc ls (vI z :: st) P Q := by
  have h := k (Int32.ofInt z).toInt (rgI _) (Int32.ofInt_toInt _).symm
  have e : gs G (vI (Int32.ofInt z).toInt :: st) = gs G (vI z :: st) := by show Value.int (Int32.ofInt (Int32.ofInt z).toInt) :: gs G st = Value.int (Int32.ofInt z) :: gs G st; rw [Int32.ofInt_toInt]
  intro p e1 R s m args below meth c H locs la C hP hS hl
  rw [← e]
  exact h p e1 R s m args below meth c H locs la C hP hS hl
theorem g_normL {z : Int} (k : ∀ x : Int, LR x → Int64.ofInt z = Int64.ofInt x → Go S G d i pc ls (vL x :: st) P Q) : Go S G d i pc ls (vL z :: st) P Q := by
  have h := k (Int64.ofInt z).toInt (rgL _) (Int64.ofInt_toInt _).symm
  have e : gs G (vL (Int64.ofInt z).toInt :: st) = gs G (vL z :: st) := by show Value.long (Int64.ofInt (Int64.ofInt z).toInt) :: gs G st = Value.long (Int64.ofInt z) :: gs G st; rw [Int64.ofInt_toInt]
  intro p e1 R s m args below meth c H locs la C hP hS hl
  rw [← e]
  exact h p e1 R s m args below meth c H locs la C hP hS hl
/-- another word for the top -/
theorem g_top {z x : Int} {t : Nat} (h : z = x) (k : Go S G d i pc ls ((t, x) :: st) P Q) : Go S G d i pc ls ((t, z) :: st) P Q := h ▸ k
theorem g_heap {P1 : PH} (h : P = P1) (k : Go S G d i pc ls st P1 Q) : Go S G d i pc ls st P Q := h ▸ k

theorem g_ladd {x y : Int} (hd : decode i.2.1 pc = .ok (.ladd, 1)) (k : Go S G d i (pc + 1) ls (vL (x + y) :: st) P Q) : Go S G d i pc ls (vL y :: vL x :: st) P Q := by
  intro p e R s m args below meth c H locs la C hP hS hl
  obtain ⟨hx, hb, hml, hr, hlk, hown, hts, ⟨hK, hNk⟩, hi, hdf, hdl⟩ := C
  have e1 : Int64.ofInt x + Int64.ofInt y = Int64.ofInt (x + y) := (Int64.ofInt_add x y).symm
  refine lv_ladd (x := Int64.ofInt x) (y := Int64.ofInt y) (rest := gs G st) hx hb hd ?_
  rw [e1]
  exact k p e R s m args below meth c H locs la ⟨hx, hb, hml, hr, hlk, hown, hts, ⟨hK, hNk⟩, hi, hdf, hdl⟩ hP hS hl

theorem g_lsub {x y : Int} (hd : decode i.2.1 pc = .ok (.lsub, 1)) (k : Go S G d i (pc + 1) ls (vL (x - y) :: st) P Q) : Go S G d i pc ls (vL y :: vL x :: st) P Q := by
  intro p e R s m args below meth c H locs la C hP hS hl
  obtain ⟨hx, hb, hml, hr, hlk, hown, hts, ⟨hK, hNk⟩, hi, hdf, hdl⟩ := C
  have e1 : Int64.ofInt x - Int64.ofInt y = Int64.ofInt (x - y) := (Int64.ofInt_sub x y).symm
  refine lv_lsub (x := Int64.ofInt x) (y := Int64.ofInt y) (rest := gs G st) hx hb hd ?_
  rw [e1]
  exact k p e R s m args below meth c H locs la ⟨hx, hb, hml, hr, hlk, hown, hts, ⟨hK, hNk⟩, hi, hdf, hdl⟩ hP hS hl

theorem g_lmul {x y : Int} (hd : decode i.2.1 pc = .ok (.lmul, 1)) (k : Go S G d i (pc + 1) ls (vL (x * y) :: st) P Q) : Go S G d i pc ls (vL y :: vL x :: st) P Q := by
  intro p e R s m args below meth c H locs la C hP hS hl
  obtain ⟨hx, hb, hml, hr, hlk, hown, hts, ⟨hK, hNk⟩, hi, hdf, hdl⟩ := C
  have e1 : Int64.ofInt x * Int64.ofInt y = Int64.ofInt (x * y) := (Int64.ofInt_mul x y).symm
  refine lv_lmul (x := Int64.ofInt x) (y := Int64.ofInt y) (rest := gs G st) hx hb hd ?_
  rw [e1]
  exact k p e R s m args below meth c H locs la ⟨hx, hb, hml, hr, hlk, hown, hts, ⟨hK, hNk⟩, hi, hdf, hdl⟩ hP hS hl

theorem g_land {x y : Int} (hd : decode i.2.1 pc = .ok (.land, 1)) (k : Go S G d i (pc + 1) ls (vL (lland x y) :: st) P Q) : Go S G d i pc ls (vL y :: vL x :: st) P Q := by
  intro p e R s m args below meth c H locs la C hP hS hl
  obtain ⟨hx, hb, hml, hr, hlk, hown, hts, ⟨hK, hNk⟩, hi, hdf, hdl⟩ := C
  have e1 : Int64.ofInt x &&& Int64.ofInt y = Int64.ofInt (lland x y) := (Int64.ofInt_toInt _).symm
  refine lv_land (x := Int64.ofInt x) (y := Int64.ofInt y) (rest := gs G st) hx hb hd ?_
  rw [e1]
  exact k p e R s m args below meth c H locs la ⟨hx, hb, hml, hr, hlk, hown, hts, ⟨hK, hNk⟩, hi, hdf, hdl⟩ hP hS hl

theorem g_lor {x y : Int} (hd : decode i.2.1 pc = .ok (.lor, 1)) (k : Go S G d i (pc + 1) ls (vL (llor x y) :: st) P Q) : Go S G d i pc ls (vL y :: vL x :: st) P Q := by
  intro p e R s m args below meth c H locs la C hP hS hl
  obtain ⟨hx, hb, hml, hr, hlk, hown, hts, ⟨hK, hNk⟩, hi, hdf, hdl⟩ := C
  have e1 : Int64.ofInt x ||| Int64.ofInt y = Int64.ofInt (llor x y) := (Int64.ofInt_toInt _).symm
  refine lv_lor (x := Int64.ofInt x) (y := Int64.ofInt y) (rest := gs G st) hx hb hd ?_
  rw [e1]
  exact k p e R s m args below meth c H locs la ⟨hx, hb, hml, hr, hlk, hown, hts, ⟨hK, hNk⟩, hi, hdf, hdl⟩ hP hS hl

theorem g_ldiv {x y : Int} (hd : decode i.2.1 pc = .ok (.ldiv, 1)) (hy : LR y ∧ y ≠ 0) (k : Go S G d i (pc + 1) ls (vL (lldiv x y) :: st) P Q) : Go S G d i pc ls (vL y :: vL x :: st) P Q := by
  intro p e R s m args below meth c H locs la C hP hS hl
  obtain ⟨hx, hb, hml, hr, hlk, hown, hts, ⟨hK, hNk⟩, hi, hdf, hdl⟩ := C
  have hne : ¬ Int64.ofInt y = 0 := fun q => hy.2 (by have q1 := congrArg Int64.toInt q; rw [oL hy.1] at q1; exact q1)
  have e1 : Int64.ofInt x / Int64.ofInt y = Int64.ofInt (lldiv x y) := (Int64.ofInt_toInt _).symm
  refine lv_ldiv (x := Int64.ofInt x) (y := Int64.ofInt y) (rest := gs G st) hx hb hd hne ?_
  rw [e1]
  exact k p e R s m args below meth c H locs la ⟨hx, hb, hml, hr, hlk, hown, hts, ⟨hK, hNk⟩, hi, hdf, hdl⟩ hP hS hl

theorem g_lrem {x y : Int} (hd : decode i.2.1 pc = .ok (.lrem, 1)) (hy : LR y ∧ y ≠ 0) (k : Go S G d i (pc + 1) ls (vL (llrem x y) :: st) P Q) : Go S G d i pc ls (vL y :: vL x :: st) P Q := by
  intro p e R s m args below meth c H locs la C hP hS hl
  obtain ⟨hx, hb, hml, hr, hlk, hown, hts, ⟨hK, hNk⟩, hi, hdf, hdl⟩ := C
  have hne : ¬ Int64.ofInt y = 0 := fun q => hy.2 (by have q1 := congrArg Int64.toInt q; rw [oL hy.1] at q1; exact q1)
  have e1 : Int64.ofInt x - Int64.ofInt x / Int64.ofInt y * Int64.ofInt y = Int64.ofInt (llrem x y) := (Int64.ofInt_toInt _).symm
  refine lv_lrem (x := Int64.ofInt x) (y := Int64.ofInt y) (rest := gs G st) hx hb hd hne ?_
  rw [e1]
  exact k p e R s m args below meth c H locs la ⟨hx, hb, hml, hr, hlk, hown, hts, ⟨hK, hNk⟩, hi, hdf, hdl⟩ hP hS hl

theorem g_lshl {x y : Int} (hd : decode i.2.1 pc = .ok (.lshl, 1)) (k : Go S G d i (pc + 1) ls (vL (llshl x y) :: st) P Q) : Go S G d i pc ls (vI y :: vL x :: st) P Q := by
  intro p e R s m args below meth c H locs la C hP hS hl
  obtain ⟨hx, hb, hml, hr, hlk, hown, hts, ⟨hK, hNk⟩, hi, hdf, hdl⟩ := C
  exact lv_lshl (x := Int64.ofInt x) (y := Int32.ofInt y) (v := Int64.ofInt (llshl x y)) (rest := gs G st) hx hb hd (Int64.ofInt_toInt _).symm (k p e R s m args below meth c H locs la ⟨hx, hb, hml, hr, hlk, hown, hts, ⟨hK, hNk⟩, hi, hdf, hdl⟩ hP hS hl)

theorem g_lshr {x y : Int} (hd : decode i.2.1 pc = .ok (.lshr, 1)) (k : Go S G d i (pc + 1) ls (vL (llshr x y) :: st) P Q) : Go S G d i pc ls (vI y :: vL x :: st) P Q := by
  intro p e R s m args below meth c H locs la C hP hS hl
  obtain ⟨hx, hb, hml, hr, hlk, hown, hts, ⟨hK, hNk⟩, hi, hdf, hdl⟩ := C
  exact lv_lshr (x := Int64.ofInt x) (y := Int32.ofInt y) (v := Int64.ofInt (llshr x y)) (rest := gs G st) hx hb hd (Int64.ofInt_toInt _).symm (k p e R s m args below meth c H locs la ⟨hx, hb, hml, hr, hlk, hown, hts, ⟨hK, hNk⟩, hi, hdf, hdl⟩ hP hS hl)

theorem g_lushr {x y : Int} (hd : decode i.2.1 pc = .ok (.lushr, 1)) (k : Go S G d i (pc + 1) ls (vL (llushr x y) :: st) P Q) : Go S G d i pc ls (vI y :: vL x :: st) P Q := by
  intro p e R s m args below meth c H locs la C hP hS hl
  obtain ⟨hx, hb, hml, hr, hlk, hown, hts, ⟨hK, hNk⟩, hi, hdf, hdl⟩ := C
  exact lv_lushr (x := Int64.ofInt x) (y := Int32.ofInt y) (v := Int64.ofInt (llushr x y)) (rest := gs G st) hx hb hd (Int64.ofInt_toInt _).symm (k p e R s m args below meth c H locs la ⟨hx, hb, hml, hr, hlk, hown, hts, ⟨hK, hNk⟩, hi, hdf, hdl⟩ hP hS hl)

theorem g_i2l {x : Int} (hd : decode i.2.1 pc = .ok (.i2l, 1)) (hx0 : IR x) (k : Go S G d i (pc + 1) ls (vL x :: st) P Q) : Go S G d i pc ls (vI x :: st) P Q := by
  intro p e R s m args below meth c H locs la C hP hS hl
  obtain ⟨hx, hb, hml, hr, hlk, hown, hts, ⟨hK, hNk⟩, hi, hdf, hdl⟩ := C
  exact lv_i2l (x := Int32.ofInt x) (v := Int64.ofInt x) (rest := gs G st) hx hb hd (Int32.toInt64_ofInt hx0.1 hx0.2) (k p e R s m args below meth c H locs la ⟨hx, hb, hml, hr, hlk, hown, hts, ⟨hK, hNk⟩, hi, hdf, hdl⟩ hP hS hl)

theorem g_l2i {x : Int} (hd : decode i.2.1 pc = .ok (.l2i, 1)) (k : Go S G d i (pc + 1) ls (vI x :: st) P Q) : Go S G d i pc ls (vL x :: st) P Q := by
  intro p e R s m args below meth c H locs la C hP hS hl
  obtain ⟨hx, hb, hml, hr, hlk, hown, hts, ⟨hK, hNk⟩, hi, hdf, hdl⟩ := C
  exact lv_l2i (x := Int64.ofInt x) (v := Int32.ofInt x) (rest := gs G st) hx hb hd Int64.toInt32_ofInt (k p e R s m args below meth c H locs la ⟨hx, hb, hml, hr, hlk, hown, hts, ⟨hK, hNk⟩, hi, hdf, hdl⟩ hP hS hl)

theorem g_lcmp {x y : Int} (hd : decode i.2.1 pc = .ok (.lcmp, 1)) (hx0 : LR x) (hy0 : LR y) (k : Go S G d i (pc + 1) ls (vI (lcmpv x y) :: st) P Q) : Go S G d i pc ls (vL y :: vL x :: st) P Q := by
  intro p e R s m args below meth c H locs la C hP hS hl
  obtain ⟨hx, hb, hml, hr, hlk, hown, hts, ⟨hK, hNk⟩, hi, hdf, hdl⟩ := C
  have e1 : lg_cmp (Int64.ofInt x) (Int64.ofInt y) = Int32.ofInt (lcmpv x y) := by
    unfold lcmpv lg_cmp
    have q1 : Int64.ofInt y < Int64.ofInt x ↔ y < x := by rw [Int64.lt_iff_toInt_lt, oL hx0, oL hy0]
    have q2 : Int64.ofInt x = Int64.ofInt y ↔ x = y := ⟨fun h => by have := congrArg Int64.toInt h; rwa [oL hx0, oL hy0] at this, fun h => by rw [h]⟩
    by_cases h1 : y < x
    · simp [h1, q1]
    · by_cases h2 : x = y
      · subst h2; simp
      · simp [h1, h2, q1, q2]
  refine W.lcmp (x := Int64.ofInt x) (y := Int64.ofInt y) (rest := gs G st) hx hb hd ?_
  rw [e1]
  exact k p e R s m args below meth c H locs la ⟨hx, hb, hml, hr, hlk, hown, hts, ⟨hK, hNk⟩, hi, hdf, hdl⟩ hP hS hl

theorem g_iconst {n : Int} (hd : decode i.2.1 pc = .ok (.iconst n, 1)) (k : Go S G d i (pc + 1) ls (vI n :: st) P Q) : Go S G d i pc ls st P Q := by
  intro p e R s m args below meth c H locs la C hP hS hl
  obtain ⟨hx, hb, hml, hr, hlk, hown, hts, ⟨hK, hNk⟩, hi, hdf, hdl⟩ := C
  exact lv_iconst (v := Int32.ofInt n) (rest := gs G st) hx hb hd rfl (k p e R s m args below meth c H locs la ⟨hx, hb, hml, hr, hlk, hown, hts, ⟨hK, hNk⟩, hi, hdf, hdl⟩ hP hS hl)

theorem g_bipush {n : Int} (hd : decode i.2.1 pc = .ok (.bipush n, 2)) (hn : -128 ≤ n ∧ n ≤ 127) (k : Go S G d i (pc + 2) ls (vI n :: st) P Q) : Go S G d i pc ls st P Q := by
  intro p e R s m args below meth c H locs la C hP hS hl
  obtain ⟨hx, hb, hml, hr, hlk, hown, hts, ⟨hK, hNk⟩, hi, hdf, hdl⟩ := C
  exact lv_bipush (v := Int32.ofInt n) (rest := gs G st) hx hb hd (Int8.toInt32_ofInt hn.1 hn.2) (k p e R s m args below meth c H locs la ⟨hx, hb, hml, hr, hlk, hown, hts, ⟨hK, hNk⟩, hi, hdf, hdl⟩ hP hS hl)

theorem g_sipush {n : Int} (hd : decode i.2.1 pc = .ok (.sipush n, 3)) (hn : -32768 ≤ n ∧ n ≤ 32767) (k : Go S G d i (pc + 3) ls (vI n :: st) P Q) : Go S G d i pc ls st P Q := by
  intro p e R s m args below meth c H locs la C hP hS hl
  obtain ⟨hx, hb, hml, hr, hlk, hown, hts, ⟨hK, hNk⟩, hi, hdf, hdl⟩ := C
  exact lv_sipush (v := Int32.ofInt n) (rest := gs G st) hx hb hd (Int16.toInt32_ofInt hn.1 hn.2) (k p e R s m args below meth c H locs la ⟨hx, hb, hml, hr, hlk, hown, hts, ⟨hK, hNk⟩, hi, hdf, hdl⟩ hP hS hl)

theorem g_lconst {n : Fin 2} {z : Int} (hd : decode i.2.1 pc = .ok (.lconst n, 1)) (hn : Int64.ofNat (n : Nat) = Int64.ofInt z) (k : Go S G d i (pc + 1) ls (vL z :: st) P Q) : Go S G d i pc ls st P Q := by
  intro p e R s m args below meth c H locs la C hP hS hl
  obtain ⟨hx, hb, hml, hr, hlk, hown, hts, ⟨hK, hNk⟩, hi, hdf, hdl⟩ := C
  exact lv_lconst (v := Int64.ofInt z) (rest := gs G st) hx hb hd hn (k p e R s m args below meth c H locs la ⟨hx, hb, hml, hr, hlk, hown, hts, ⟨hK, hNk⟩, hi, hdf, hdl⟩ hP hS hl)

theorem g_ldc {n : Nat} {v : Int32} {z : Int} (hd : decode i.2.1 pc = .ok (.ldc n, 2)) (hw : Cond.constant i.1.cls n v ∈ WT) (hv : v = Int32.ofInt z) (k : Go S G d i (pc + 2) ls (vI z :: st) P Q) : Go S G d i pc ls st P Q := by
  intro p e R s m args below meth c H locs la C hP hS hl
  obtain ⟨hx, hb, hml, hr, hlk, hown, hts, ⟨hK, hNk⟩, hi, hdf, hdl⟩ := C
  subst hv
  exact lv_ldc (v := Int32.ofInt z) (rest := gs G st) hx hb hown (hts _ hw) hd (k p e R s m args below meth c H locs la ⟨hx, hb, hml, hr, hlk, hown, hts, ⟨hK, hNk⟩, hi, hdf, hdl⟩ hP hS hl)

theorem g_ldcw {n : Nat} {v : Int32} {z : Int} (hd : decode i.2.1 pc = .ok (.ldc_w n, 3)) (hw : Cond.constant i.1.cls n v ∈ WT) (hv : v = Int32.ofInt z) (k : Go S G d i (pc + 3) ls (vI z :: st) P Q) : Go S G d i pc ls st P Q := by
  intro p e R s m args below meth c H locs la C hP hS hl
  obtain ⟨hx, hb, hml, hr, hlk, hown, hts, ⟨hK, hNk⟩, hi, hdf, hdl⟩ := C
  subst hv
  exact lv_ldcw (v := Int32.ofInt z) (rest := gs G st) hx hb hown (hts _ hw) hd (k p e R s m args below meth c H locs la ⟨hx, hb, hml, hr, hlk, hown, hts, ⟨hK, hNk⟩, hi, hdf, hdl⟩ hP hS hl)

theorem g_ldc2 {n : Nat} {v : Int64} {z : Int} (hd : decode i.2.1 pc = .ok (.ldc2_w n, 3)) (hw : Cond.constantLong i.1.cls n v ∈ WT) (hv : v = Int64.ofInt z) (k : Go S G d i (pc + 3) ls (vL z :: st) P Q) : Go S G d i pc ls st P Q := by
  intro p e R s m args below meth c H locs la C hP hS hl
  obtain ⟨hx, hb, hml, hr, hlk, hown, hts, ⟨hK, hNk⟩, hi, hdf, hdl⟩ := C
  subst hv
  exact lv_ldc2 (v := Int64.ofInt z) (rest := gs G st) hx hb hown (hts _ hw) hd (k p e R s m args below meth c H locs la ⟨hx, hb, hml, hr, hlk, hown, hts, ⟨hK, hNk⟩, hi, hdf, hdl⟩ hP hS hl)

theorem gl_at {la : Array Slot} {n : Nat} {j : Nat} {v : PV} (h : lv_has la n (gl G ls)) (hj : ls.lookup j = some v) : la[j]? = some (.val (gv G.2.2.2.2 v)) := by
  have hm : (j, v) ∈ ls := by
    clear h
    induction ls with
    | nil => cases hj
    | cons a l ih =>
      obtain ⟨a1, a2⟩ := a
      rw [List.lookup_cons] at hj
      by_cases he : j = a1
      · subst he
        simp at hj
        subst hj
        exact List.mem_cons_self
      · have : (j == a1) = false := by simpa using he
        rw [this] at hj
        exact List.mem_cons_of_mem _ (ih hj)
  exact h.2.2 (j, gv G.2.2.2.2 v) (List.mem_map.mpr ⟨(j, v), hm, rfl⟩)
theorem g_iload_n {q : Fin 4} {x : Int} (hd : decode i.2.1 pc = .ok (.iload_n q, 1)) (hq : ls.lookup (q : Nat) = some (vI x)) (k : Go S G d i (pc + 1) ls ((vI x) :: st) P Q) : Go S G d i pc ls st P Q := by
  intro p e R s m args below meth c H locs la C hP hS hl
  obtain ⟨hx, hb, hml, hr, hlk, hown, hts, ⟨hK, hNk⟩, hi, hdf, hdl⟩ := C
  exact lv_iload_n (x := Int32.ofInt x) (rest := gs G st) hx hb hd rfl (gl_at (G := G) hl hq) (k p e R s m args below meth c H locs la ⟨hx, hb, hml, hr, hlk, hown, hts, ⟨hK, hNk⟩, hi, hdf, hdl⟩ hP hS hl)

theorem g_iload {q : Nat} {x : Int} (hd : decode i.2.1 pc = .ok (.iload q, 2)) (hq : ls.lookup q = some (vI x)) (k : Go S G d i (pc + 2) ls ((vI x) :: st) P Q) : Go S G d i pc ls st P Q := by
  intro p e R s m args below meth c H locs la C hP hS hl
  obtain ⟨hx, hb, hml, hr, hlk, hown, hts, ⟨hK, hNk⟩, hi, hdf, hdl⟩ := C
  exact lv_iload (x := Int32.ofInt x) (rest := gs G st) hx hb hd (gl_at (G := G) hl hq) (k p e R s m args below meth c H locs la ⟨hx, hb, hml, hr, hlk, hown, hts, ⟨hK, hNk⟩, hi, hdf, hdl⟩ hP hS hl)

theorem g_lload_n {q : Fin 4} {x : Int} (hd : decode i.2.1 pc = .ok (.lload_n q, 1)) (hq : ls.lookup (q : Nat) = some (vL x)) (k : Go S G d i (pc + 1) ls ((vL x) :: st) P Q) : Go S G d i pc ls st P Q := by
  intro p e R s m args below meth c H locs la C hP hS hl
  obtain ⟨hx, hb, hml, hr, hlk, hown, hts, ⟨hK, hNk⟩, hi, hdf, hdl⟩ := C
  exact lv_lload_n (x := Int64.ofInt x) (rest := gs G st) hx hb hd rfl (gl_at (G := G) hl hq) (k p e R s m args below meth c H locs la ⟨hx, hb, hml, hr, hlk, hown, hts, ⟨hK, hNk⟩, hi, hdf, hdl⟩ hP hS hl)

theorem g_lload {q : Nat} {x : Int} (hd : decode i.2.1 pc = .ok (.lload q, 2)) (hq : ls.lookup q = some (vL x)) (k : Go S G d i (pc + 2) ls ((vL x) :: st) P Q) : Go S G d i pc ls st P Q := by
  intro p e R s m args below meth c H locs la C hP hS hl
  obtain ⟨hx, hb, hml, hr, hlk, hown, hts, ⟨hK, hNk⟩, hi, hdf, hdl⟩ := C
  exact lv_lload (x := Int64.ofInt x) (rest := gs G st) hx hb hd (gl_at (G := G) hl hq) (k p e R s m args below meth c H locs la ⟨hx, hb, hml, hr, hlk, hown, hts, ⟨hK, hNk⟩, hi, hdf, hdl⟩ hP hS hl)

theorem g_aload_n {q : Fin 4} {x : Nat} (hd : decode i.2.1 pc = .ok (.aload_n q, 1)) (hq : ls.lookup (q : Nat) = some (vR x)) (k : Go S G d i (pc + 1) ls ((vR x) :: st) P Q) : Go S G d i pc ls st P Q := by
  intro p e R s m args below meth c H locs la C hP hS hl
  obtain ⟨hx, hb, hml, hr, hlk, hown, hts, ⟨hK, hNk⟩, hi, hdf, hdl⟩ := C
  exact lv_aload_n (x := G.2.2.2.2 x) (rest := gs G st) hx hb hd rfl (gl_at (G := G) hl hq) (k p e R s m args below meth c H locs la ⟨hx, hb, hml, hr, hlk, hown, hts, ⟨hK, hNk⟩, hi, hdf, hdl⟩ hP hS hl)

theorem g_aload {q : Nat} {x : Nat} (hd : decode i.2.1 pc = .ok (.aload q, 2)) (hq : ls.lookup q = some (vR x)) (k : Go S G d i (pc + 2) ls ((vR x) :: st) P Q) : Go S G d i pc ls st P Q := by
  intro p e R s m args below meth c H locs la C hP hS hl
  obtain ⟨hx, hb, hml, hr, hlk, hown, hts, ⟨hK, hNk⟩, hi, hdf, hdl⟩ := C
  exact lv_aload (x := G.2.2.2.2 x) (rest := gs G st) hx hb hd (gl_at (G := G) hl hq) (k p e R s m args below meth c H locs la ⟨hx, hb, hml, hr, hlk, hown, hts, ⟨hK, hNk⟩, hi, hdf, hdl⟩ hP hS hl)

/-- the locals behind a store of one word, of two -/
def sto (ls : List (Nat × PV)) (j : Nat) (v : PV) : List (Nat × PV) := (j, v) :: ls.filter fun q => !(q.1 == j) && !(q.1 + 1 == j && q.2.1 == 1)
def sto2 (ls : List (Nat × PV)) (j : Nat) (v : PV) : List (Nat × PV) := (j, v) :: ls.filter fun q => !(q.1 == j) && (!(q.1 == j + 1) && !(q.1 + 1 == j && q.2.1 == 1))
theorem gv_cat (ad : Nat → Nat) (v : PV) : ((gv ad v).category == 2) = (v.1 == 1) := by
  obtain ⟨t, z⟩ := v
  match t with
  | 0 => rfl
  | 1 => rfl
  | n + 2 => rfl
theorem gl_sto {j : Nat} {v : PV} : (j, gv G.2.2.2.2 v) :: (gl G ls).filter (fun q => !(q.1 == j) && !(q.1 + 1 == j && q.2.category == 2)) = gl G (sto ls j v) := by
  unfold gl sto
  rw [List.map_cons, List.filter_map]
  congr 2
  apply congrArg (fun f => ls.filter f)
  funext q
  simp only [Function.comp]
  rw [gv_cat]
theorem gl_sto2 {j : Nat} {v : PV} : (j, gv G.2.2.2.2 v) :: (gl G ls).filter (fun q => !(q.1 == j) && (!(q.1 == j + 1) && !(q.1 + 1 == j && q.2.category == 2))) = gl G (sto2 ls j v) := by
  unfold gl sto2
  rw [List.map_cons, List.filter_map]
  congr 2
  apply congrArg (fun f => ls.filter f)
  funext q
  simp only [Function.comp]
  rw [gv_cat]
theorem g_istore_n {q : Fin 4} {x : Int} {l1 : List (Nat × PV)} (hd : decode i.2.1 pc = .ok (.istore_n q, 1)) (hq : (q : Nat) < i.2.2.1) (hl1 : sto ls (q : Nat) (vI x) = l1) (k : Go S G d i (pc + 1) l1 st P Q) : Go S G d i pc ls ((vI x) :: st) P Q := by
  intro p e R s m args below meth c H locs la C hP hS hl
  obtain ⟨hx, hb, hml, hr, hlk, hown, hts, ⟨hK, hNk⟩, hi, hdf, hdl⟩ := C
  exact lv_istore_n (x := Int32.ofInt x) (rest := gs G st) hx hb hd rfl hl hq (gl_sto (v := (vI x)).trans (congrArg (gl G) hl1)) (fun la1 h1 => k p e R s m args below meth c H locs la1 ⟨hx, hb, hml, hr, hlk, hown, hts, ⟨hK, hNk⟩, hi, hdf, hdl⟩ hP hS h1)

theorem g_istore {q : Nat} {x : Int} {l1 : List (Nat × PV)} (hd : decode i.2.1 pc = .ok (.istore q, 2)) (hq : q < i.2.2.1) (hl1 : sto ls q (vI x) = l1) (k : Go S G d i (pc + 2) l1 st P Q) : Go S G d i pc ls ((vI x) :: st) P Q := by
  intro p e R s m args below meth c H locs la C hP hS hl
  obtain ⟨hx, hb, hml, hr, hlk, hown, hts, ⟨hK, hNk⟩, hi, hdf, hdl⟩ := C
  exact lv_istore (x := Int32.ofInt x) (rest := gs G st) hx hb hd hl hq (gl_sto (v := (vI x)).trans (congrArg (gl G) hl1)) (fun la1 h1 => k p e R s m args below meth c H locs la1 ⟨hx, hb, hml, hr, hlk, hown, hts, ⟨hK, hNk⟩, hi, hdf, hdl⟩ hP hS h1)

theorem g_lstore_n {q : Fin 4} {x : Int} {l1 : List (Nat × PV)} (hd : decode i.2.1 pc = .ok (.lstore_n q, 1)) (hq : (q : Nat) + 1 < i.2.2.1) (hl1 : sto2 ls (q : Nat) (vL x) = l1) (k : Go S G d i (pc + 1) l1 st P Q) : Go S G d i pc ls ((vL x) :: st) P Q := by
  intro p e R s m args below meth c H locs la C hP hS hl
  obtain ⟨hx, hb, hml, hr, hlk, hown, hts, ⟨hK, hNk⟩, hi, hdf, hdl⟩ := C
  exact lv_lstore_n (x := Int64.ofInt x) (rest := gs G st) hx hb hd rfl hl hq (gl_sto2 (v := (vL x)).trans (congrArg (gl G) hl1)) (fun la1 h1 => k p e R s m args below meth c H locs la1 ⟨hx, hb, hml, hr, hlk, hown, hts, ⟨hK, hNk⟩, hi, hdf, hdl⟩ hP hS h1)

theorem g_lstore {q : Nat} {x : Int} {l1 : List (Nat × PV)} (hd : decode i.2.1 pc = .ok (.lstore q, 2)) (hq : q + 1 < i.2.2.1) (hl1 : sto2 ls q (vL x) = l1) (k : Go S G d i (pc + 2) l1 st P Q) : Go S G d i pc ls ((vL x) :: st) P Q := by
  intro p e R s m args below meth c H locs la C hP hS hl
  obtain ⟨hx, hb, hml, hr, hlk, hown, hts, ⟨hK, hNk⟩, hi, hdf, hdl⟩ := C
  exact lv_lstore (x := Int64.ofInt x) (rest := gs G st) hx hb hd hl hq (gl_sto2 (v := (vL x)).trans (congrArg (gl G) hl1)) (fun la1 h1 => k p e R s m args below meth c H locs la1 ⟨hx, hb, hml, hr, hlk, hown, hts, ⟨hK, hNk⟩, hi, hdf, hdl⟩ hP hS h1)

theorem g_astore_n {q : Fin 4} {x : Nat} {l1 : List (Nat × PV)} (hd : decode i.2.1 pc = .ok (.astore_n q, 1)) (hq : (q : Nat) < i.2.2.1) (hl1 : sto ls (q : Nat) (vR x) = l1) (k : Go S G d i (pc + 1) l1 st P Q) : Go S G d i pc ls ((vR x) :: st) P Q := by
  intro p e R s m args below meth c H locs la C hP hS hl
  obtain ⟨hx, hb, hml, hr, hlk, hown, hts, ⟨hK, hNk⟩, hi, hdf, hdl⟩ := C
  exact lv_astore_n (x := G.2.2.2.2 x) (rest := gs G st) hx hb hd rfl hl hq (gl_sto (v := (vR x)).trans (congrArg (gl G) hl1)) (fun la1 h1 => k p e R s m args below meth c H locs la1 ⟨hx, hb, hml, hr, hlk, hown, hts, ⟨hK, hNk⟩, hi, hdf, hdl⟩ hP hS h1)

theorem g_astore {q : Nat} {x : Nat} {l1 : List (Nat × PV)} (hd : decode i.2.1 pc = .ok (.astore q, 2)) (hq : q < i.2.2.1) (hl1 : sto ls q (vR x) = l1) (k : Go S G d i (pc + 2) l1 st P Q) : Go S G d i pc ls ((vR x) :: st) P Q := by
  intro p e R s m args below meth c H locs la C hP hS hl
  obtain ⟨hx, hb, hml, hr, hlk, hown, hts, ⟨hK, hNk⟩, hi, hdf, hdl⟩ := C
  exact lv_astore (x := G.2.2.2.2 x) (rest := gs G st) hx hb hd hl hq (gl_sto (v := (vR x)).trans (congrArg (gl G) hl1)) (fun la1 h1 => k p e R s m args below meth c H locs la1 ⟨hx, hb, hml, hr, hlk, hown, hts, ⟨hK, hNk⟩, hi, hdf, hdl⟩ hP hS h1)

theorem g_iinc {q : Nat} {n x : Int} {l1 : List (Nat × PV)} (hd : decode i.2.1 pc = .ok (.iinc q n, 3)) (hx1 : ls.lookup q = some (vI x)) (hq : q < i.2.2.1) (hl1 : sto ls q (vI (x + n)) = l1) (k : Go S G d i (pc + 3) l1 st P Q) : Go S G d i pc ls st P Q := by
  intro p e R s m args below meth c H locs la C hP hS hl
  obtain ⟨hx, hb, hml, hr, hlk, hown, hts, ⟨hK, hNk⟩, hi, hdf, hdl⟩ := C
  have hm : (q, Value.int (Int32.ofInt x)) ∈ gl G ls := by
    have : ∀ l : List (Nat × PV), l.lookup q = some (vI x) → (q, vI x) ∈ l := by
      intro l
      induction l with
      | nil => intro h; cases h
      | cons a l ih =>
        obtain ⟨a1, a2⟩ := a
        intro h
        rw [List.lookup_cons] at h
        by_cases he : q = a1
        · subst he
          simp at h
          subst h
          exact List.mem_cons_self
        · have hf : (q == a1) = false := by simpa using he
          rw [hf] at h
          exact List.mem_cons_of_mem _ (ih h)
    exact List.mem_map.mpr ⟨(q, vI x), this ls hx1, rfl⟩
  obtain ⟨k1, hk1⟩ := List.getElem?_of_mem hm
  exact lv_iinc (k := k1) (v := Int32.ofInt (x + n)) (rest := gs G st) hx hb hd hl hk1 (Int32.ofInt_add x n).symm hq ((gl_sto (v := vI (x + n))).trans (congrArg (gl G) hl1)) (fun la1 h1 => k p e R s m args below meth c H locs la1 ⟨hx, hb, hml, hr, hlk, hown, hts, ⟨hK, hNk⟩, hi, hdf, hdl⟩ hP hS h1)

/-- fewer locals are known -/
theorem g_forget {l1 : List (Nat × PV)} (h : ∀ q ∈ l1, q ∈ ls) (k : Go S G d i pc l1 st P Q) : Go S G d i pc ls st P Q := by
  intro p e R s m args below meth c H locs la C hP hS hl
  exact k p e R s m args below meth c H locs la C hP hS ⟨hl.1, hl.2.1, fun q hq => by
    obtain ⟨a, h1, h2⟩ := List.mem_map.mp hq
    exact hl.2.2 q (List.mem_map.mpr ⟨a, h _ h1, h2⟩)⟩
theorem gv_cat1 {ad : Nat → Nat} {v : PV} (h : (v.1 == 1) = false) : (gv ad v).category = 1 := by
  rcases lv_cat (gv ad v) with h1 | h1
  · exact h1
  · have h2 := gv_cat ad v
    rw [h, h1] at h2
    simp at h2
theorem gv_cat2 {ad : Nat → Nat} {v : PV} (h : (v.1 == 1) = true) : (gv ad v).category = 2 := by
  have h2 := gv_cat ad v
  rw [h] at h2
  simpa using h2
theorem g_dup {a : PV} (hd : decode i.2.1 pc = .ok (.dup, 1)) (ha : (a.1 == 1) = false) (k : Go S G d i (pc + 1) ls (a :: a :: st) P Q) : Go S G d i pc ls (a :: st) P Q := by
  intro p e R s m args below meth c H locs la C hP hS hl
  obtain ⟨hx, hb, hml, hr, hlk, hown, hts, ⟨hK, hNk⟩, hi, hdf, hdl⟩ := C
  exact lv_dup (va := gv G.2.2.2.2 a) (rest := gs G st) hx hb hd (gv_cat1 ha) (k p e R s m args below meth c H locs la ⟨hx, hb, hml, hr, hlk, hown, hts, ⟨hK, hNk⟩, hi, hdf, hdl⟩ hP hS hl)

theorem g_pop {a : PV} (hd : decode i.2.1 pc = .ok (.pop, 1)) (ha : (a.1 == 1) = false) (k : Go S G d i (pc + 1) ls st P Q) : Go S G d i pc ls (a :: st) P Q := by
  intro p e R s m args below meth c H locs la C hP hS hl
  obtain ⟨hx, hb, hml, hr, hlk, hown, hts, ⟨hK, hNk⟩, hi, hdf, hdl⟩ := C
  exact lv_pop (va := gv G.2.2.2.2 a) (rest := gs G st) hx hb hd (gv_cat1 ha) (k p e R s m args below meth c H locs la ⟨hx, hb, hml, hr, hlk, hown, hts, ⟨hK, hNk⟩, hi, hdf, hdl⟩ hP hS hl)

theorem g_dup_x1 {a b : PV} (hd : decode i.2.1 pc = .ok (.dup_x1, 1)) (ha : (a.1 == 1) = false) (hb0 : (b.1 == 1) = false) (k : Go S G d i (pc + 1) ls (a :: b :: a :: st) P Q) : Go S G d i pc ls (a :: b :: st) P Q := by
  intro p e R s m args below meth c H locs la C hP hS hl
  obtain ⟨hx, hb, hml, hr, hlk, hown, hts, ⟨hK, hNk⟩, hi, hdf, hdl⟩ := C
  exact lv_dup_x1 (va := gv G.2.2.2.2 a) (vb := gv G.2.2.2.2 b) (rest := gs G st) hx hb hd (gv_cat1 ha) (gv_cat1 hb0) (k p e R s m args below meth c H locs la ⟨hx, hb, hml, hr, hlk, hown, hts, ⟨hK, hNk⟩, hi, hdf, hdl⟩ hP hS hl)

theorem g_dup_x2 {a b c0 : PV} (hd : decode i.2.1 pc = .ok (.dup_x2, 1)) (ha : (a.1 == 1) = false) (hb0 : (b.1 == 1) = false) (hc0 : (c0.1 == 1) = false) (k : Go S G d i (pc + 1) ls (a :: b :: c0 :: a :: st) P Q) : Go S G d i pc ls (a :: b :: c0 :: st) P Q := by
  intro p e R s m args below meth c H locs la C hP hS hl
  obtain ⟨hx, hb, hml, hr, hlk, hown, hts, ⟨hK, hNk⟩, hi, hdf, hdl⟩ := C
  exact lv_dup_x2 (va := gv G.2.2.2.2 a) (vb := gv G.2.2.2.2 b) (vd := gv G.2.2.2.2 c0) (rest := gs G st) hx hb hd (gv_cat1 ha) (gv_cat1 hb0) (gv_cat1 hc0) (k p e R s m args below meth c H locs la ⟨hx, hb, hml, hr, hlk, hown, hts, ⟨hK, hNk⟩, hi, hdf, hdl⟩ hP hS hl)

theorem g_dup2 {a b : PV} (hd : decode i.2.1 pc = .ok (.dup2, 1)) (ha : (a.1 == 1) = false) (hb0 : (b.1 == 1) = false) (k : Go S G d i (pc + 1) ls (a :: b :: a :: b :: st) P Q) : Go S G d i pc ls (a :: b :: st) P Q := by
  intro p e R s m args below meth c H locs la C hP hS hl
  obtain ⟨hx, hb, hml, hr, hlk, hown, hts, ⟨hK, hNk⟩, hi, hdf, hdl⟩ := C
  exact lv_dup2_11 (va := gv G.2.2.2.2 a) (vb := gv G.2.2.2.2 b) (rest := gs G st) hx hb hd (gv_cat1 ha) (gv_cat1 hb0) (k p e R s m args below meth c H locs la ⟨hx, hb, hml, hr, hlk, hown, hts, ⟨hK, hNk⟩, hi, hdf, hdl⟩ hP hS hl)

theorem g_if_eq {x off : Int} {tgt : Nat} (hd : decode i.2.1 pc = .ok (.ifCond .eq off, 3)) (ht : (pc : Int) + off = (tgt : Int)) (hx0 : IR x) (kt : x = 0 → Go S G d i tgt ls st P Q) (kf : ¬ x = 0 → Go S G d i (pc + 3) ls st P Q) : Go S G d i pc ls (vI x :: st) P Q := by
  intro p e R s m args below meth c H locs la C hP hS hl
  obtain ⟨hx, hb, hml, hr, hlk, hown, hts, ⟨hK, hNk⟩, hi, hdf, hdl⟩ := C
  exact lv_if_eq (x := Int32.ofInt x) (rest := gs G st) hx hb hd ht (fun q => ((fun q => kt ((oI_eq hx0 IR0).mp q)) q) p e R s m args below meth c H locs la ⟨hx, hb, hml, hr, hlk, hown, hts, ⟨hK, hNk⟩, hi, hdf, hdl⟩ hP hS hl) (fun q => ((fun q => kf (fun z => q ((oI_eq hx0 IR0).mpr z))) q) p e R s m args below meth c H locs la ⟨hx, hb, hml, hr, hlk, hown, hts, ⟨hK, hNk⟩, hi, hdf, hdl⟩ hP hS hl)

theorem g_icmp_eq {x y off : Int} {tgt : Nat} (hd : decode i.2.1 pc = .ok (.if_icmp .eq off, 3)) (ht : (pc : Int) + off = (tgt : Int)) (hx0 : IR x) (hy0 : IR y) (kt : x = y → Go S G d i tgt ls st P Q) (kf : ¬ x = y → Go S G d i (pc + 3) ls st P Q) : Go S G d i pc ls (vI y :: vI x :: st) P Q := by
  intro p e R s m args below meth c H locs la C hP hS hl
  obtain ⟨hx, hb, hml, hr, hlk, hown, hts, ⟨hK, hNk⟩, hi, hdf, hdl⟩ := C
  exact lv_icmp_eq (x := Int32.ofInt x) (y := Int32.ofInt y) (rest := gs G st) hx hb hd ht (fun q => ((fun q => kt ((oI_eq hx0 hy0).mp q)) q) p e R s m args below meth c H locs la ⟨hx, hb, hml, hr, hlk, hown, hts, ⟨hK, hNk⟩, hi, hdf, hdl⟩ hP hS hl) (fun q => ((fun q => kf (fun z => q ((oI_eq hx0 hy0).mpr z))) q) p e R s m args below meth c H locs la ⟨hx, hb, hml, hr, hlk, hown, hts, ⟨hK, hNk⟩, hi, hdf, hdl⟩ hP hS hl)

theorem g_if_ne {x off : Int} {tgt : Nat} (hd : decode i.2.1 pc = .ok (.ifCond .ne off, 3)) (ht : (pc : Int) + off = (tgt : Int)) (hx0 : IR x) (kt : ¬ x = 0 → Go S G d i tgt ls st P Q) (kf : x = 0 → Go S G d i (pc + 3) ls st P Q) : Go S G d i pc ls (vI x :: st) P Q := by
  intro p e R s m args below meth c H locs la C hP hS hl
  obtain ⟨hx, hb, hml, hr, hlk, hown, hts, ⟨hK, hNk⟩, hi, hdf, hdl⟩ := C
  exact lv_if_ne (x := Int32.ofInt x) (rest := gs G st) hx hb hd ht (fun q => ((fun q => kt (fun z => q ((oI_eq hx0 IR0).mpr z))) q) p e R s m args below meth c H locs la ⟨hx, hb, hml, hr, hlk, hown, hts, ⟨hK, hNk⟩, hi, hdf, hdl⟩ hP hS hl) (fun q => ((fun q => kf ((oI_eq hx0 IR0).mp q)) q) p e R s m args below meth c H locs la ⟨hx, hb, hml, hr, hlk, hown, hts, ⟨hK, hNk⟩, hi, hdf, hdl⟩ hP hS hl)

theorem g_icmp_ne {x y off : Int} {tgt : Nat} (hd : decode i.2.1 pc = .ok (.if_icmp .ne off, 3)) (ht : (pc : Int) + off = (tgt : Int)) (hx0 : IR x) (hy0 : IR y) (kt : ¬ x = y → Go S G d i tgt ls st P Q) (kf : x = y → Go S G d i (pc + 3) ls st P Q) : Go S G d i pc ls (vI y :: vI x :: st) P Q := by
  intro p e R s m args below meth c H locs la C hP hS hl
  obtain ⟨hx, hb, hml, hr, hlk, hown, hts, ⟨hK, hNk⟩, hi, hdf, hdl⟩ := C
  exact lv_icmp_ne (x := Int32.ofInt x) (y := Int32.ofInt y) (rest := gs G st) hx hb hd ht (fun q => ((fun q => kt (fun z => q ((oI_eq hx0 hy0).mpr z))) q) p e R s m args below meth c H locs la ⟨hx, hb, hml, hr, hlk, hown, hts, ⟨hK, hNk⟩, hi, hdf, hdl⟩ hP hS hl) (fun q => ((fun q => kf ((oI_eq hx0 hy0).mp q)) q) p e R s m args below meth c H locs la ⟨hx, hb, hml, hr, hlk, hown, hts, ⟨hK, hNk⟩, hi, hdf, hdl⟩ hP hS hl)

theorem g_if_lt {x off : Int} {tgt : Nat} (hd : decode i.2.1 pc = .ok (.ifCond .lt off, 3)) (ht : (pc : Int) + off = (tgt : Int)) (hx0 : IR x) (kt : x < 0 → Go S G d i tgt ls st P Q) (kf : 0 ≤ x → Go S G d i (pc + 3) ls st P Q) : Go S G d i pc ls (vI x :: st) P Q := by
  intro p e R s m args below meth c H locs la C hP hS hl
  obtain ⟨hx, hb, hml, hr, hlk, hown, hts, ⟨hK, hNk⟩, hi, hdf, hdl⟩ := C
  exact lv_if_lt (x := Int32.ofInt x) (rest := gs G st) hx hb hd ht (fun q => ((fun q => kt ((oI_lt hx0 IR0).mp q)) q) p e R s m args below meth c H locs la ⟨hx, hb, hml, hr, hlk, hown, hts, ⟨hK, hNk⟩, hi, hdf, hdl⟩ hP hS hl) (fun q => ((fun q => kf (Int.not_lt.mp fun z => q ((oI_lt hx0 IR0).mpr z))) q) p e R s m args below meth c H locs la ⟨hx, hb, hml, hr, hlk, hown, hts, ⟨hK, hNk⟩, hi, hdf, hdl⟩ hP hS hl)

theorem g_icmp_lt {x y off : Int} {tgt : Nat} (hd : decode i.2.1 pc = .ok (.if_icmp .lt off, 3)) (ht : (pc : Int) + off = (tgt : Int)) (hx0 : IR x) (hy0 : IR y) (kt : x < y → Go S G d i tgt ls st P Q) (kf : y ≤ x → Go S G d i (pc + 3) ls st P Q) : Go S G d i pc ls (vI y :: vI x :: st) P Q := by
  intro p e R s m args below meth c H locs la C hP hS hl
  obtain ⟨hx, hb, hml, hr, hlk, hown, hts, ⟨hK, hNk⟩, hi, hdf, hdl⟩ := C
  exact lv_icmp_lt (x := Int32.ofInt x) (y := Int32.ofInt y) (rest := gs G st) hx hb hd ht (fun q => ((fun q => kt ((oI_lt hx0 hy0).mp q)) q) p e R s m args below meth c H locs la ⟨hx, hb, hml, hr, hlk, hown, hts, ⟨hK, hNk⟩, hi, hdf, hdl⟩ hP hS hl) (fun q => ((fun q => kf (Int.not_lt.mp fun z => q ((oI_lt hx0 hy0).mpr z))) q) p e R s m args below meth c H locs la ⟨hx, hb, hml, hr, hlk, hown, hts, ⟨hK, hNk⟩, hi, hdf, hdl⟩ hP hS hl)

theorem g_if_ge {x off : Int} {tgt : Nat} (hd : decode i.2.1 pc = .ok (.ifCond .ge off, 3)) (ht : (pc : Int) + off = (tgt : Int)) (hx0 : IR x) (kt : 0 ≤ x → Go S G d i tgt ls st P Q) (kf : x < 0 → Go S G d i (pc + 3) ls st P Q) : Go S G d i pc ls (vI x :: st) P Q := by
  intro p e R s m args below meth c H locs la C hP hS hl
  obtain ⟨hx, hb, hml, hr, hlk, hown, hts, ⟨hK, hNk⟩, hi, hdf, hdl⟩ := C
  exact lv_if_ge (x := Int32.ofInt x) (rest := gs G st) hx hb hd ht (fun q => ((fun q => kt ((oI_le IR0 hx0).mp q)) q) p e R s m args below meth c H locs la ⟨hx, hb, hml, hr, hlk, hown, hts, ⟨hK, hNk⟩, hi, hdf, hdl⟩ hP hS hl) (fun q => ((fun q => kf (Int.not_le.mp fun z => q ((oI_le IR0 hx0).mpr z))) q) p e R s m args below meth c H locs la ⟨hx, hb, hml, hr, hlk, hown, hts, ⟨hK, hNk⟩, hi, hdf, hdl⟩ hP hS hl)

theorem g_icmp_ge {x y off : Int} {tgt : Nat} (hd : decode i.2.1 pc = .ok (.if_icmp .ge off, 3)) (ht : (pc : Int) + off = (tgt : Int)) (hx0 : IR x) (hy0 : IR y) (kt : y ≤ x → Go S G d i tgt ls st P Q) (kf : x < y → Go S G d i (pc + 3) ls st P Q) : Go S G d i pc ls (vI y :: vI x :: st) P Q := by
  intro p e R s m args below meth c H locs la C hP hS hl
  obtain ⟨hx, hb, hml, hr, hlk, hown, hts, ⟨hK, hNk⟩, hi, hdf, hdl⟩ := C
  exact lv_icmp_ge (x := Int32.ofInt x) (y := Int32.ofInt y) (rest := gs G st) hx hb hd ht (fun q => ((fun q => kt ((oI_le hy0 hx0).mp q)) q) p e R s m args below meth c H locs la ⟨hx, hb, hml, hr, hlk, hown, hts, ⟨hK, hNk⟩, hi, hdf, hdl⟩ hP hS hl) (fun q => ((fun q => kf (Int.not_le.mp fun z => q ((oI_le hy0 hx0).mpr z))) q) p e R s m args below meth c H locs la ⟨hx, hb, hml, hr, hlk, hown, hts, ⟨hK, hNk⟩, hi, hdf, hdl⟩ hP hS hl)

theorem g_if_gt {x off : Int} {tgt : Nat} (hd : decode i.2.1 pc = .ok (.ifCond .gt off, 3)) (ht : (pc : Int) + off = (tgt : Int)) (hx0 : IR x) (kt : 0 < x → Go S G d i tgt ls st P Q) (kf : x ≤ 0 → Go S G d i (pc + 3) ls st P Q) : Go S G d i pc ls (vI x :: st) P Q := by
  intro p e R s m args below meth c H locs la C hP hS hl
  obtain ⟨hx, hb, hml, hr, hlk, hown, hts, ⟨hK, hNk⟩, hi, hdf, hdl⟩ := C
  exact lv_if_gt (x := Int32.ofInt x) (rest := gs G st) hx hb hd ht (fun q => ((fun q => kt ((oI_lt IR0 hx0).mp q)) q) p e R s m args below meth c H locs la ⟨hx, hb, hml, hr, hlk, hown, hts, ⟨hK, hNk⟩, hi, hdf, hdl⟩ hP hS hl) (fun q => ((fun q => kf (Int.not_lt.mp fun z => q ((oI_lt IR0 hx0).mpr z))) q) p e R s m args below meth c H locs la ⟨hx, hb, hml, hr, hlk, hown, hts, ⟨hK, hNk⟩, hi, hdf, hdl⟩ hP hS hl)

theorem g_icmp_gt {x y off : Int} {tgt : Nat} (hd : decode i.2.1 pc = .ok (.if_icmp .gt off, 3)) (ht : (pc : Int) + off = (tgt : Int)) (hx0 : IR x) (hy0 : IR y) (kt : y < x → Go S G d i tgt ls st P Q) (kf : x ≤ y → Go S G d i (pc + 3) ls st P Q) : Go S G d i pc ls (vI y :: vI x :: st) P Q := by
  intro p e R s m args below meth c H locs la C hP hS hl
  obtain ⟨hx, hb, hml, hr, hlk, hown, hts, ⟨hK, hNk⟩, hi, hdf, hdl⟩ := C
  exact lv_icmp_gt (x := Int32.ofInt x) (y := Int32.ofInt y) (rest := gs G st) hx hb hd ht (fun q => ((fun q => kt ((oI_lt hy0 hx0).mp q)) q) p e R s m args below meth c H locs la ⟨hx, hb, hml, hr, hlk, hown, hts, ⟨hK, hNk⟩, hi, hdf, hdl⟩ hP hS hl) (fun q => ((fun q => kf (Int.not_lt.mp fun z => q ((oI_lt hy0 hx0).mpr z))) q) p e R s m args below meth c H locs la ⟨hx, hb, hml, hr, hlk, hown, hts, ⟨hK, hNk⟩, hi, hdf, hdl⟩ hP hS hl)

theorem g_if_le {x off : Int} {tgt : Nat} (hd : decode i.2.1 pc = .ok (.ifCond .le off, 3)) (ht : (pc : Int) + off = (tgt : Int)) (hx0 : IR x) (kt : x ≤ 0 → Go S G d i tgt ls st P Q) (kf : 0 < x → Go S G d i (pc + 3) ls st P Q) : Go S G d i pc ls (vI x :: st) P Q := by
  intro p e R s m args below meth c H locs la C hP hS hl
  obtain ⟨hx, hb, hml, hr, hlk, hown, hts, ⟨hK, hNk⟩, hi, hdf, hdl⟩ := C
  exact lv_if_le (x := Int32.ofInt x) (rest := gs G st) hx hb hd ht (fun q => ((fun q => kt ((oI_le hx0 IR0).mp q)) q) p e R s m args below meth c H locs la ⟨hx, hb, hml, hr, hlk, hown, hts, ⟨hK, hNk⟩, hi, hdf, hdl⟩ hP hS hl) (fun q => ((fun q => kf (Int.not_le.mp fun z => q ((oI_le hx0 IR0).mpr z))) q) p e R s m args below meth c H locs la ⟨hx, hb, hml, hr, hlk, hown, hts, ⟨hK, hNk⟩, hi, hdf, hdl⟩ hP hS hl)

theorem g_icmp_le {x y off : Int} {tgt : Nat} (hd : decode i.2.1 pc = .ok (.if_icmp .le off, 3)) (ht : (pc : Int) + off = (tgt : Int)) (hx0 : IR x) (hy0 : IR y) (kt : x ≤ y → Go S G d i tgt ls st P Q) (kf : y < x → Go S G d i (pc + 3) ls st P Q) : Go S G d i pc ls (vI y :: vI x :: st) P Q := by
  intro p e R s m args below meth c H locs la C hP hS hl
  obtain ⟨hx, hb, hml, hr, hlk, hown, hts, ⟨hK, hNk⟩, hi, hdf, hdl⟩ := C
  exact lv_icmp_le (x := Int32.ofInt x) (y := Int32.ofInt y) (rest := gs G st) hx hb hd ht (fun q => ((fun q => kt ((oI_le hx0 hy0).mp q)) q) p e R s m args below meth c H locs la ⟨hx, hb, hml, hr, hlk, hown, hts, ⟨hK, hNk⟩, hi, hdf, hdl⟩ hP hS hl) (fun q => ((fun q => kf (Int.not_le.mp fun z => q ((oI_le hx0 hy0).mpr z))) q) p e R s m args below meth c H locs la ⟨hx, hb, hml, hr, hlk, hown, hts, ⟨hK, hNk⟩, hi, hdf, hdl⟩ hP hS hl)

theorem g_goto {off : Int} {tgt : Nat} (hd : decode i.2.1 pc = .ok (.goto off, 3)) (ht : (pc : Int) + off = (tgt : Int)) (k : Go S G d i tgt ls st P Q) : Go S G d i pc ls st P Q := by
  intro p e R s m args below meth c H locs la C hP hS hl
  obtain ⟨hx, hb, hml, hr, hlk, hown, hts, ⟨hK, hNk⟩, hi, hdf, hdl⟩ := C
  exact lv_goto hx hb hd ht (k p e R s m args below meth c H locs la ⟨hx, hb, hml, hr, hlk, hown, hts, ⟨hK, hNk⟩, hi, hdf, hdl⟩ hP hS hl)

theorem g_tswO {dflt lo hi x : Int} {offs : Array Int} {len tgt : Nat} (hd : decode i.2.1 pc = .ok (.tableswitch dflt lo hi offs, len)) (hx0 : IR x) (h : x < lo ∨ hi < x) (ht : (pc : Int) + dflt = (tgt : Int)) (k : Go S G d i tgt ls st P Q) : Go S G d i pc ls (vI x :: st) P Q := by
  intro p e R s m args below meth c H locs la C hP hS hl
  obtain ⟨hx, hb, hml, hr, hlk, hown, hts, ⟨hK, hNk⟩, hi, hdf, hdl⟩ := C
  exact lv_tableOut (x := Int32.ofInt x) (rest := gs G st) hx hb hd (by rw [oI hx0]; exact h) ht (k p e R s m args below meth c H locs la ⟨hx, hb, hml, hr, hlk, hown, hts, ⟨hK, hNk⟩, hi, hdf, hdl⟩ hP hS hl)

theorem g_tswI {dflt lo hi x off : Int} {offs : Array Int} {len tgt : Nat} (j : Nat) (hd : decode i.2.1 pc = .ok (.tableswitch dflt lo hi offs, len)) (hx0 : IR x) (h : x = lo + (j : Int)) (hh : x ≤ hi) (ho : offs[j]? = some off) (ht : (pc : Int) + off = (tgt : Int)) (k : Go S G d i tgt ls st P Q) : Go S G d i pc ls (vI x :: st) P Q := by
  intro p e R s m args below meth c H locs la C hP hS hl
  obtain ⟨hx, hb, hml, hr, hlk, hown, hts, ⟨hK, hNk⟩, hi, hdf, hdl⟩ := C
  exact lv_tableIn (x := Int32.ofInt x) (rest := gs G st) hx hb hd (by rw [oI hx0]; omega) (by rw [oI hx0]; omega) (by rw [oI hx0, h, show (lo + (j : Int) - lo).toNat = j from by omega]; exact ho) ht (k p e R s m args below meth c H locs la ⟨hx, hb, hml, hr, hlk, hown, hts, ⟨hK, hNk⟩, hi, hdf, hdl⟩ hP hS hl)

/-- getfield idx in class own is field k of class ci, which has N -/
def FF (own : String) (idx ci k N : Nat) : Prop := ∃ (C : String) (T : u_T), vwCl[ci]? = some (C, T, N) ∧ k < N ∧ (∀ w ∈ u_ws C T N, w ∈ WT) ∧ Cond.fieldLink own idx (T k).1 (T k).2.1 (T k).2.2.1 ∈ WT
/-- it may be written, and keeps a value of type ty -/
def PF (own : String) (idx ci k N : Nat) (ty : FieldType) : Prop := ∃ (C : String) (T : u_T), (vwCl[ci]? = some (C, T, N) ∧ k < N ∧ (∀ w ∈ u_ws C T N, w ∈ WT) ∧ Cond.fieldLink own idx (T k).1 (T k).2.1 (T k).2.2.1 ∈ WT) ∧ (∃ ty0 : Nat → FieldType, ∀ k, k < N → parseFieldDescriptor (T k).2.2.1 = some (ty0 k)) ∧ (∀ a, a < N → ∀ b, b < N → a ≠ b → (T a).2.1 ≠ (T b).2.1) ∧ (T k).2.2.2 = false ∧ parseFieldDescriptor (T k).2.2.1 = some ty
theorem rg_at {n k : Nat} {f : Nat → Value} (h : k < n) : ((List.range n).map f)[k]? = some (f k) := by
  rw [List.getElem?_map, List.getElem?_range h]
  rfl
theorem g_getI {o f idx ci N : Nat} (hF : FF i.1.cls idx ci f N) (ho : o < S.1) (hsh : S.2.2.1 (S.2.1 o) = (0, ci, N)) (hft : S.2.2.2.1 (S.2.1 o) f = 0) (hd : decode i.2.1 pc = .ok (.getfield idx, 3)) (k : Go S G d i (pc + 3) ls ((vI (P o (f : Int))) :: st) P Q) : Go S G d i pc ls (vR o :: st) P Q := by
  intro p e R s m args below meth c H locs la C hP hS hl
  obtain ⟨hx, hb, hml, hr, hlk, hown, hts, ⟨hK, hNk⟩, hi, hdf, hdl⟩ := C
  obtain ⟨C1, T1, hc, hk, hin, hw⟩ := hF
  have e1 : sv S G.2.2.2.2 P o f = .int (Int32.ofInt (P o (f : Int))) := by unfold sv; rw [hft]; rfl
  exact va_get (a := G.2.2.2.2 o) (rest := gs G st) (v := .int (Int32.ofInt (P o (f : Int)))) hx hb hts hin hown hK hP o (WLO ho hsh) hc f hk (hts _ hw) (fun _ q => q) ((rg_at hk).trans (by rw [e1])) hd (k p e R s m args below meth c H locs la ⟨hx, hb, hml, hr, hlk, hown, hts, ⟨hK, hNk⟩, hi, hdf, hdl⟩ hP hS hl)

theorem g_getL {o f idx ci N : Nat} (hF : FF i.1.cls idx ci f N) (ho : o < S.1) (hsh : S.2.2.1 (S.2.1 o) = (0, ci, N)) (hft : S.2.2.2.1 (S.2.1 o) f = 1) (hd : decode i.2.1 pc = .ok (.getfield idx, 3)) (k : Go S G d i (pc + 3) ls ((vL (P o (f : Int))) :: st) P Q) : Go S G d i pc ls (vR o :: st) P Q := by
  intro p e R s m args below meth c H locs la C hP hS hl
  obtain ⟨hx, hb, hml, hr, hlk, hown, hts, ⟨hK, hNk⟩, hi, hdf, hdl⟩ := C
  obtain ⟨C1, T1, hc, hk, hin, hw⟩ := hF
  have e1 : sv S G.2.2.2.2 P o f = .long (Int64.ofInt (P o (f : Int))) := by unfold sv; rw [hft]; rfl
  exact va_get (a := G.2.2.2.2 o) (rest := gs G st) (v := .long (Int64.ofInt (P o (f : Int)))) hx hb hts hin hown hK hP o (WLO ho hsh) hc f hk (hts _ hw) (fun _ q => q) ((rg_at hk).trans (by rw [e1])) hd (k p e R s m args below meth c H locs la ⟨hx, hb, hml, hr, hlk, hown, hts, ⟨hK, hNk⟩, hi, hdf, hdl⟩ hP hS hl)

theorem g_getC {o f idx ci N : Nat} (hF : FF i.1.cls idx ci f N) (ho : o < S.1) (hsh : S.2.2.1 (S.2.1 o) = (0, ci, N)) (hft : S.2.2.2.1 (S.2.1 o) f = 3) (hd : decode i.2.1 pc = .ok (.getfield idx, 3)) (k : Go S G d i (pc + 3) ls ((vR (S.2.2.2.2.1 o f)) :: st) P Q) : Go S G d i pc ls (vR o :: st) P Q := by
  intro p e R s m args below meth c H locs la C hP hS hl
  obtain ⟨hx, hb, hml, hr, hlk, hown, hts, ⟨hK, hNk⟩, hi, hdf, hdl⟩ := C
  obtain ⟨C1, T1, hc, hk, hin, hw⟩ := hF
  have e1 : sv S G.2.2.2.2 P o f = .ref (G.2.2.2.2 (S.2.2.2.2.1 o f)) := by unfold sv; rw [hft]; rfl
  exact va_get (a := G.2.2.2.2 o) (rest := gs G st) (v := .ref (G.2.2.2.2 (S.2.2.2.2.1 o f))) hx hb hts hin hown hK hP o (WLO ho hsh) hc f hk (hts _ hw) (fun _ q => q) ((rg_at hk).trans (by rw [e1])) hd (k p e R s m args below meth c H locs la ⟨hx, hb, hml, hr, hlk, hown, hts, ⟨hK, hNk⟩, hi, hdf, hdl⟩ hP hS hl)

theorem g_getR {o f idx ci N n : Nat} (hF : FF i.1.cls idx ci f N) (ho : o < S.1) (hsh : S.2.2.1 (S.2.1 o) = (0, ci, N)) (hft : S.2.2.2.1 (S.2.1 o) f = 2) (hn : P o (f : Int) = (n : Int)) (hd : decode i.2.1 pc = .ok (.getfield idx, 3)) (k : Go S G d i (pc + 3) ls (vR n :: st) P Q) : Go S G d i pc ls (vR o :: st) P Q := by
  intro p e R s m args below meth c H locs la C hP hS hl
  obtain ⟨hx, hb, hml, hr, hlk, hown, hts, ⟨hK, hNk⟩, hi, hdf, hdl⟩ := C
  obtain ⟨C1, T1, hc, hk, hin, hw⟩ := hF
  have e1 : sv S G.2.2.2.2 P o f = .ref (G.2.2.2.2 n) := by unfold sv; rw [hft, hn]; rfl
  exact va_get (a := G.2.2.2.2 o) (rest := gs G st) (v := .ref (G.2.2.2.2 n)) hx hb hts hin hown hK hP o (WLO ho hsh) hc f hk (hts _ hw) (fun _ q => q) ((rg_at hk).trans (by rw [e1])) hd (k p e R s m args below meth c H locs la ⟨hx, hb, hml, hr, hlk, hown, hts, ⟨hK, hNk⟩, hi, hdf, hdl⟩ hP hS hl)

theorem g_putI {o f idx ci N : Nat} {x : Int} (hF : PF i.1.cls idx ci f N .int) (ho : o < S.1) (hsh : S.2.2.1 (S.2.1 o) = (0, ci, N)) (hft : S.2.2.2.1 (S.2.1 o) f = 0) (hd : decode i.2.1 pc = .ok (.putfield idx, 3)) (k : Go S G d i (pc + 3) ls st (up P o (f : Int) x) Q) : Go S G d i pc ls ((vI x) :: vR o :: st) P Q := by
  intro p e R s m args below meth c H locs la C hP hS hl
  obtain ⟨hx, hb, hml, hr, hlk, hown, hts, ⟨hK, hNk⟩, hi, hdf, hdl⟩ := C
  obtain ⟨C1, T1, ⟨hc, hk, hin, hw⟩, ⟨ty1, hty1⟩, hnm, hfin, hd1⟩ := hF
  have e1 : (.int (Int32.ofInt x) : Value) = sv S G.2.2.2.2 (up P o (f : Int) x) o f := by unfold sv; rw [hft, up_same]; rfl
  refine va_put (a := G.2.2.2.2 o) (rest := gs G st) (v := .int (Int32.ofInt x)) hx hb hts hin ty1 hty1 hnm hown hK hP (WL_D hi) hS o (WLO ho hsh) hc f hk (hts _ hw) (fun _ q => q) hfin hd1 (rfl) (rfl) (by simpa using hk) hd (fun H1 locs1 hP1 _ hS1 => ?_)
  have e2 : (WL S G P).set o (G.2.2.2.2 o, .inr (ci, ((List.range N).map (sv S G.2.2.2.2 P o)).set f (.int (Int32.ofInt x)))) = WL S G (up P o (f : Int) x) := WL_set ho (by rw [enO hsh, sv_set hk e1])
  rw [e2] at hP1
  exact k p e R s m args below meth c H1 locs1 la ⟨hx, hb, hml, hr, hlk, hown, hts, ⟨hK, hNk⟩, hi, hdf, hdl⟩ hP1 hS1 hl

theorem g_putZ {o f idx ci N : Nat} {x : Int} (hF : PF i.1.cls idx ci f N .boolean) (ho : o < S.1) (hsh : S.2.2.1 (S.2.1 o) = (0, ci, N)) (hft : S.2.2.2.1 (S.2.1 o) f = 0) (hz : x = 0 ∨ x = 1) (hd : decode i.2.1 pc = .ok (.putfield idx, 3)) (k : Go S G d i (pc + 3) ls st (up P o (f : Int) x) Q) : Go S G d i pc ls ((vI x) :: vR o :: st) P Q := by
  intro p e R s m args below meth c H locs la C hP hS hl
  obtain ⟨hx, hb, hml, hr, hlk, hown, hts, ⟨hK, hNk⟩, hi, hdf, hdl⟩ := C
  obtain ⟨C1, T1, ⟨hc, hk, hin, hw⟩, ⟨ty1, hty1⟩, hnm, hfin, hd1⟩ := hF
  have e1 : (.int (Int32.ofInt x) : Value) = sv S G.2.2.2.2 (up P o (f : Int) x) o f := by unfold sv; rw [hft, up_same]; rfl
  refine va_put (a := G.2.2.2.2 o) (rest := gs G st) (v := .int (Int32.ofInt x)) hx hb hts hin ty1 hty1 hnm hown hK hP (WL_D hi) hS o (WLO ho hsh) hc f hk (hts _ hw) (fun _ q => q) hfin hd1 (by rcases hz with rfl | rfl <;> rfl) (by rcases hz with rfl | rfl <;> rfl) (by simpa using hk) hd (fun H1 locs1 hP1 _ hS1 => ?_)
  have e2 : (WL S G P).set o (G.2.2.2.2 o, .inr (ci, ((List.range N).map (sv S G.2.2.2.2 P o)).set f (.int (Int32.ofInt x)))) = WL S G (up P o (f : Int) x) := WL_set ho (by rw [enO hsh, sv_set hk e1])
  rw [e2] at hP1
  exact k p e R s m args below meth c H1 locs1 la ⟨hx, hb, hml, hr, hlk, hown, hts, ⟨hK, hNk⟩, hi, hdf, hdl⟩ hP1 hS1 hl

theorem g_putL {o f idx ci N : Nat} {x : Int} (hF : PF i.1.cls idx ci f N .long) (ho : o < S.1) (hsh : S.2.2.1 (S.2.1 o) = (0, ci, N)) (hft : S.2.2.2.1 (S.2.1 o) f = 1) (hd : decode i.2.1 pc = .ok (.putfield idx, 3)) (k : Go S G d i (pc + 3) ls st (up P o (f : Int) x) Q) : Go S G d i pc ls ((vL x) :: vR o :: st) P Q := by
  intro p e R s m args below meth c H locs la C hP hS hl
  obtain ⟨hx, hb, hml, hr, hlk, hown, hts, ⟨hK, hNk⟩, hi, hdf, hdl⟩ := C
  obtain ⟨C1, T1, ⟨hc, hk, hin, hw⟩, ⟨ty1, hty1⟩, hnm, hfin, hd1⟩ := hF
  have e1 : (.long (Int64.ofInt x) : Value) = sv S G.2.2.2.2 (up P o (f : Int) x) o f := by unfold sv; rw [hft, up_same]; rfl
  refine va_put (a := G.2.2.2.2 o) (rest := gs G st) (v := .long (Int64.ofInt x)) hx hb hts hin ty1 hty1 hnm hown hK hP (WL_D hi) hS o (WLO ho hsh) hc f hk (hts _ hw) (fun _ q => q) hfin hd1 (rfl) (rfl) (by simpa using hk) hd (fun H1 locs1 hP1 _ hS1 => ?_)
  have e2 : (WL S G P).set o (G.2.2.2.2 o, .inr (ci, ((List.range N).map (sv S G.2.2.2.2 P o)).set f (.long (Int64.ofInt x)))) = WL S G (up P o (f : Int) x) := WL_set ho (by rw [enO hsh, sv_set hk e1])
  rw [e2] at hP1
  exact k p e R s m args below meth c H1 locs1 la ⟨hx, hb, hml, hr, hlk, hown, hts, ⟨hK, hNk⟩, hi, hdf, hdl⟩ hP1 hS1 hl

theorem g_putR {ty : FieldType} {o f idx ci N : Nat} {x : Nat} (hF : PF i.1.cls idx ci f N ty) (ho : o < S.1) (hsh : S.2.2.1 (S.2.1 o) = (0, ci, N)) (hft : S.2.2.2.1 (S.2.1 o) f = 2) (hty : narrow ty (.ref (G.2.2.2.2 x)) = .ref (G.2.2.2.2 x) ∧ fits ty (.ref (G.2.2.2.2 x)) = true) (hd : decode i.2.1 pc = .ok (.putfield idx, 3)) (k : Go S G d i (pc + 3) ls st (up P o (f : Int) (x : Int)) Q) : Go S G d i pc ls ((vR x) :: vR o :: st) P Q := by
  intro p e R s m args below meth c H locs la C hP hS hl
  obtain ⟨hx, hb, hml, hr, hlk, hown, hts, ⟨hK, hNk⟩, hi, hdf, hdl⟩ := C
  obtain ⟨C1, T1, ⟨hc, hk, hin, hw⟩, ⟨ty1, hty1⟩, hnm, hfin, hd1⟩ := hF
  have e1 : (.ref (G.2.2.2.2 x) : Value) = sv S G.2.2.2.2 (up P o (f : Int) (x : Int)) o f := by unfold sv; rw [hft, up_same]; rfl
  refine va_put (a := G.2.2.2.2 o) (rest := gs G st) (v := .ref (G.2.2.2.2 x)) hx hb hts hin ty1 hty1 hnm hown hK hP (WL_D hi) hS o (WLO ho hsh) hc f hk (hts _ hw) (fun _ q => q) hfin hd1 (hty.1) (hty.2) (by simpa using hk) hd (fun H1 locs1 hP1 _ hS1 => ?_)
  have e2 : (WL S G P).set o (G.2.2.2.2 o, .inr (ci, ((List.range N).map (sv S G.2.2.2.2 P o)).set f (.ref (G.2.2.2.2 x)))) = WL S G (up P o (f : Int) (x : Int)) := WL_set ho (by rw [enO hsh, sv_set hk e1])
  rw [e2] at hP1
  exact k p e R s m args below meth c H1 locs1 la ⟨hx, hb, hml, hr, hlk, hown, hts, ⟨hK, hNk⟩, hi, hdf, hdl⟩ hP1 hS1 hl

theorem g_iald {o ci n : Nat} {z : Int} (ho : o < S.1) (hsh : S.2.2.1 (S.2.1 o) = (1, ci, n)) (hty : S.2.2.2.2.2[0]? = some .int) (hn : n ≤ 2147483647) (hz : 0 ≤ z ∧ z < (n : Int)) (hd : decode i.2.1 pc = .ok (.iaload, 1)) (k : Go S G d i (pc + 1) ls (vI (P o z) :: st) P Q) : Go S G d i pc ls (vI z :: vR o :: st) P Q := by
  intro p e R s m args below meth c H locs la C hP hS hl
  obtain ⟨hx, hb, hml, hr, hlk, hown, hts, ⟨hK, hNk⟩, hi, hdf, hdl⟩ := C
  have e1 : (z.toNat : Int) = z := Int.toNat_of_nonneg hz.1
  refine va_iald (a := G.2.2.2.2 o) (rest := gs G st) hx hb hK hP o 0 (WLI ho hsh) (tysG_get hty) (i := Int32.ofInt z) (oI_in hz hn) hd ?_
  rw [oI_nat ⟨hz.1, by omega⟩, e1]
  exact k p e R s m args below meth c H locs la ⟨hx, hb, hml, hr, hlk, hown, hts, ⟨hK, hNk⟩, hi, hdf, hdl⟩ hP hS hl

theorem g_lald {o ci n : Nat} {z : Int} (ho : o < S.1) (hsh : S.2.2.1 (S.2.1 o) = (2, ci, n)) (hty : S.2.2.2.2.2[1]? = some .long) (hn : n ≤ 2147483647) (hz : 0 ≤ z ∧ z < (n : Int)) (hd : decode i.2.1 pc = .ok (.laload, 1)) (k : Go S G d i (pc + 1) ls (vL (P o z) :: st) P Q) : Go S G d i pc ls (vI z :: vR o :: st) P Q := by
  intro p e R s m args below meth c H locs la C hP hS hl
  obtain ⟨hx, hb, hml, hr, hlk, hown, hts, ⟨hK, hNk⟩, hi, hdf, hdl⟩ := C
  have e1 : (z.toNat : Int) = z := Int.toNat_of_nonneg hz.1
  refine va_lald (a := G.2.2.2.2 o) (rest := gs G st) hx hb hK hP o 1 (WLJ ho hsh) (tysG_get hty) (i := Int32.ofInt z) (oI_in hz hn) hd ?_
  rw [oI_nat ⟨hz.1, by omega⟩, e1]
  exact k p e R s m args below meth c H locs la ⟨hx, hb, hml, hr, hlk, hown, hts, ⟨hK, hNk⟩, hi, hdf, hdl⟩ hP hS hl

theorem g_aald {o t n : Nat} {ty : FieldType} {z : Int} (ho : o < S.1) (hsh : S.2.2.1 (S.2.1 o) = (3, t, n)) (hty : S.2.2.2.2.2[t]? = some ty) (hre : ty.isReference = true) (hn : n ≤ 2147483647) (hz : 0 ≤ z ∧ z < (n : Int)) (hd : decode i.2.1 pc = .ok (.aaload, 1)) (k : Go S G d i (pc + 1) ls (vR (S.2.2.2.2.1 o z.toNat) :: st) P Q) : Go S G d i pc ls (vI z :: vR o :: st) P Q := by
  intro p e R s m args below meth c H locs la C hP hS hl
  obtain ⟨hx, hb, hml, hr, hlk, hown, hts, ⟨hK, hNk⟩, hi, hdf, hdl⟩ := C
  have hlt : z.toNat < n := by omega
  have hin : vp_in (Int32.ofInt z) n := oI_in hz hn
  have e0 : (Int32.ofInt z).toNatClampNeg = z.toNat := oI_nat ⟨hz.1, by omega⟩
  exact W.aald (a := G.2.2.2.2 o) (j := Int32.ofInt z) (v := va_rf (some (G.2.2.2.2 (S.2.2.2.2.1 o z.toNat)))) (ty := ty) (rest := gs G st) hx hb (show H[G.2.2.2.2 o]? = some (vp_cell _ _) from hP o _ (WLR ho hsh)) ((hK.2 t _ (tysG_get hty)).1 n (fun j => va_rf (some (G.2.2.2.2 (S.2.2.2.2.1 o j))))) hre (fun q => by cases q) (by show ¬ (_ ∨ (arrV _ _ _).slots.size ≤ _); rw [arrV_size]; exact hin) (by show (arrV _ _ _).slots[_]? = _; rw [e0, arrV_read _ _ hlt]) rfl rfl hd (k p e R s m args below meth c H locs la ⟨hx, hb, hml, hr, hlk, hown, hts, ⟨hK, hNk⟩, hi, hdf, hdl⟩ hP hS hl)

theorem g_iast {o ci n : Nat} {z x : Int} (ho : o < S.1) (hsh : S.2.2.1 (S.2.1 o) = (1, ci, n)) (hty : S.2.2.2.2.2[0]? = some .int) (hn : n ≤ 2147483647) (hz : 0 ≤ z ∧ z < (n : Int)) (hd : decode i.2.1 pc = .ok (.iastore, 1)) (k : Go S G d i (pc + 1) ls st (up P o z x) Q) : Go S G d i pc ls (vI x :: vI z :: vR o :: st) P Q := by
  intro p e R s m args below meth c H locs la C hP hS hl
  obtain ⟨hx, hb, hml, hr, hlk, hown, hts, ⟨hK, hNk⟩, hi, hdf, hdl⟩ := C
  have e1 : (z.toNat : Int) = z := Int.toNat_of_nonneg hz.1
  refine va_iast (a := G.2.2.2.2 o) (rest := gs G st) (x := Int32.ofInt x) hx hb hK hP (WL_D hi) hS o 0 (WLI ho hsh) (tysG_get hty) (i := Int32.ofInt z) (oI_in hz hn) hd (fun H1 locs1 hP1 _ hS1 => ?_)
  have e2 : upd (fun (j : Nat) => Int32.ofInt (P o (j : Int))) (Int32.ofInt z).toNatClampNeg (Int32.ofInt x) = fun (j : Nat) => Int32.ofInt (up P o z x o (j : Int)) := by
    rw [oI_nat ⟨hz.1, by omega⟩]
    funext j
    unfold upd
    by_cases hj : j = z.toNat
    · rw [if_pos hj, hj, e1, up_same]
    · rw [if_neg hj, up_k (fun q => hj (by omega))]
  rw [e2, WL_set (z := x) (k := z) ho (by rw [enI hsh])] at hP1
  exact k p e R s m args below meth c H1 locs1 la ⟨hx, hb, hml, hr, hlk, hown, hts, ⟨hK, hNk⟩, hi, hdf, hdl⟩ hP1 hS1 hl

theorem g_last {o ci n : Nat} {z x : Int} (ho : o < S.1) (hsh : S.2.2.1 (S.2.1 o) = (2, ci, n)) (hty : S.2.2.2.2.2[1]? = some .long) (hn : n ≤ 2147483647) (hz : 0 ≤ z ∧ z < (n : Int)) (hd : decode i.2.1 pc = .ok (.lastore, 1)) (k : Go S G d i (pc + 1) ls st (up P o z x) Q) : Go S G d i pc ls (vL x :: vI z :: vR o :: st) P Q := by
  intro p e R s m args below meth c H locs la C hP hS hl
  obtain ⟨hx, hb, hml, hr, hlk, hown, hts, ⟨hK, hNk⟩, hi, hdf, hdl⟩ := C
  have e1 : (z.toNat : Int) = z := Int.toNat_of_nonneg hz.1
  refine va_last (a := G.2.2.2.2 o) (rest := gs G st) (x := Int64.ofInt x) hx hb hK hP (WL_D hi) hS o 1 (WLJ ho hsh) (tysG_get hty) (i := Int32.ofInt z) (oI_in hz hn) hd (fun H1 locs1 hP1 _ hS1 => ?_)
  have e2 : vp_updL (fun (j : Nat) => Int64.ofInt (P o (j : Int))) (Int32.ofInt z).toNatClampNeg (Int64.ofInt x) = fun (j : Nat) => Int64.ofInt (up P o z x o (j : Int)) := by
    rw [oI_nat ⟨hz.1, by omega⟩]
    funext j
    unfold vp_updL
    by_cases hj : j = z.toNat
    · rw [if_pos hj, hj, e1, up_same]
    · rw [if_neg hj, up_k (fun q => hj (by omega))]
  rw [e2, WL_set (z := x) (k := z) ho (by rw [enJ hsh])] at hP1
  exact k p e R s m args below meth c H1 locs1 la ⟨hx, hb, hml, hr, hlk, hown, hts, ⟨hK, hNk⟩, hi, hdf, hdl⟩ hP1 hS1 hl

theorem g_alen {o ci n : Nat} (ho : o < S.1) (hsh : S.2.2.1 (S.2.1 o) = (1, ci, n)) (hty : S.2.2.2.2.2[0]? = some .int) (hd : decode i.2.1 pc = .ok (.arraylength, 1)) (k : Go S G d i (pc + 1) ls (vI (n : Int) :: st) P Q) : Go S G d i pc ls (vR o :: st) P Q := by
  intro p e R s m args below meth c H locs la C hP hS hl
  obtain ⟨hx, hb, hml, hr, hlk, hown, hts, ⟨hK, hNk⟩, hi, hdf, hdl⟩ := C
  exact va_alen (a := G.2.2.2.2 o) (rest := gs G st) (v := Int32.ofInt (n : Int)) hx hb hK hP o 0 (WLI ho hsh) (tysG_get hty) (Int32.ofInt_eq_ofNat).symm hd (k p e R s m args below meth c H locs la ⟨hx, hb, hml, hr, hlk, hown, hts, ⟨hK, hNk⟩, hi, hdf, hdl⟩ hP hS hl)

theorem g_alenR {o t n : Nat} {ty : FieldType} (ho : o < S.1) (hsh : S.2.2.1 (S.2.1 o) = (3, t, n)) (hty : S.2.2.2.2.2[t]? = some ty) (hd : decode i.2.1 pc = .ok (.arraylength, 1)) (k : Go S G d i (pc + 1) ls (vI (n : Int) :: st) P Q) : Go S G d i pc ls (vR o :: st) P Q := by
  intro p e R s m args below meth c H locs la C hP hS hl
  obtain ⟨hx, hb, hml, hr, hlk, hown, hts, ⟨hK, hNk⟩, hi, hdf, hdl⟩ := C
  exact va_alen (a := G.2.2.2.2 o) (rest := gs G st) (v := Int32.ofInt (n : Int)) hx hb hK hP o t (WLR ho hsh) (tysG_get hty) (Int32.ofInt_eq_ofNat).symm hd (k p e R s m args below meth c H locs la ⟨hx, hb, hml, hr, hlk, hown, hts, ⟨hK, hNk⟩, hi, hdf, hdl⟩ hP hS hl)

theorem g_retI {x : Int} (hd : decode i.2.1 pc = .ok (.ireturn, 1)) (hrt : i.2.2.2 = some .int) (hq : Q (some (vI x)) P) : Go S G d i pc ls [(vI x)] P Q := by
  intro p e R s m args below meth c H locs la C hP hS hl
  obtain ⟨hx, hb, hml, hr, hlk, hown, hts, ⟨hK, hNk⟩, hi, hdf, hdl⟩ := C
  exact W.iret (v := Int32.ofInt x) hx hb (hr.trans hrt) (fun t ht _ => ⟨⟨some (vI x), P, rfl, hq, by rw [ht]; exact hP⟩, hS.F ht⟩) hS.2.2 hd hlk

theorem g_retL {x : Int} (hd : decode i.2.1 pc = .ok (.lreturn, 1)) (hrt : i.2.2.2 = some .long) (hq : Q (some (vL x)) P) : Go S G d i pc ls [(vL x)] P Q := by
  intro p e R s m args below meth c H locs la C hP hS hl
  obtain ⟨hx, hb, hml, hr, hlk, hown, hts, ⟨hK, hNk⟩, hi, hdf, hdl⟩ := C
  exact W.lret (v := Int64.ofInt x) hx hb (hr.trans hrt) (fun t ht _ => ⟨⟨some (vL x), P, rfl, hq, by rw [ht]; exact hP⟩, hS.F ht⟩) hS.2.2 hd hlk

theorem g_retZ {x : Int} (hd : decode i.2.1 pc = .ok (.ireturn, 1)) (hrt : i.2.2.2 = some .boolean) (hz : x = 0 ∨ x = 1) (hq : Q (some (vI x)) P) : Go S G d i pc ls [vI x] P Q := by
  intro p e R s m args below meth c H locs la C hP hS hl
  obtain ⟨hx, hb, hml, hr, hlk, hown, hts, ⟨hK, hNk⟩, hi, hdf, hdl⟩ := C
  exact W.zret (v := Int32.ofInt x) hx hb (hr.trans hrt) (by rcases hz with rfl | rfl <;> rfl) (fun t ht _ => ⟨⟨some (vI x), P, rfl, hq, by rw [ht]; exact hP⟩, hS.F ht⟩) hS.2.2 hd hlk

theorem g_retV (hd : decode i.2.1 pc = .ok (.return_, 1)) (hrt : i.2.2.2 = none) (hq : Q none P) : Go S G d i pc ls [] P Q := by
  intro p e R s m args below meth c H locs la C hP hS hl
  obtain ⟨hx, hb, hml, hr, hlk, hown, hts, ⟨hK, hNk⟩, hi, hdf, hdl⟩ := C
  exact W.vret hx hb (hr.trans hrt) (fun t ht _ => ⟨⟨none, P, rfl, hq, by rw [ht]; exact hP⟩, hS.F ht⟩) hS.2.2 hd hlk

theorem g_retR {x : Nat} {rt : FieldType} (hd : decode i.2.1 pc = .ok (.areturn, 1)) (hrt : i.2.2.2 = some rt) (hrr : (∃ n, rt = .object n) ∨ ∃ t, rt = .array t) (hq : Q (some (vR x)) P) : Go S G d i pc ls [vR x] P Q := by
  intro p e R s m args below meth c H locs la C hP hS hl
  obtain ⟨hx, hb, hml, hr, hlk, hown, hts, ⟨hK, hNk⟩, hi, hdf, hdl⟩ := C
  exact W.aret (v := .ref (G.2.2.2.2 x)) hx hb (hr.trans hrt) hrr (Or.inr ⟨_, rfl⟩) (fun t ht _ => ⟨⟨some (vR x), P, rfl, hq, by rw [ht]; exact hP⟩, hS.F ht⟩) hS.2.2 hd hlk

theorem go_blind {av : List Value} {B : State → Prop} (hB : ∀ (U : State) (g : JFrame) (mk : MethodId) (a : Array Value), B U → B (U.calling g mk a)) : FrameBlind (va_Pc av B) := fun a U g mk q => ⟨q.1, hB U g mk a q.2⟩
theorem pre_blind {av : List Value} : FrameBlind (va_Pc av (fun U => ptG S G P U.heap ∧ kG S G U ∧ injG S G)) := go_blind fun U g mk a q => ⟨q.1, ⟨va_K.moved (u := U) (U := U.calling g mk a) (Vm.Alike.refl U.vm) q.2.1.1, nX.same (u := U) (U := U.calling g mk a) rfl q.2.1.2⟩, q.2.2⟩
/-- behind a call -/
theorem W_callg {p : Program} {e : Env} {R : Room} {s : State} {m : MethodId} {args : Array Value} {below : List Frame} {meth : Method} {c : Code} {H : Heap} {locs : List Loc} {Q0 : State → Prop} {la : Array Slot} {st0 rest : List Value} {a : Array Value} {Q1 : Option PV → PH → Prop} (hr : va_Run p G.1 e R s m args below meth c H locs 0 0 0 0 (F0 m pc la st0) rest (Qg S G Q1 a) (AA S G)) (hS : va_S (AA S G) s.heap H locs)
    (kk : ∀ (v : Option PV) (P1 : PH) (H1 : Heap) (locs1 : List Loc), Q1 v P1 → ptG S G P1 H1 → va_S (AA S G) s.heap H1 locs1 → W p G.1 e R s m args below meth c H1 locs1 0 0 Q0 (F0 m (pc + 3) la ((v.map (gv G.2.2.2.2)).toList ++ rest))) : W p G.1 e R s m args below meth c H locs 0 0 Q0 (F0 m pc la st0) := by
  intro T hT X
  obtain ⟨v, st₀, t, T', L, h0, X', hL, e1, e2, ⟨⟨v1, P1, hv, hq, hp⟩, hz, hk⟩, st⟩ := hr T hT X
  have hv : v = v1.map (gv G.2.2.2.2) := Outcome.returned.inj hv
  subst hv
  rw [h0] at hz hk
  obtain ⟨t2, a1, b1⟩ := kk v1 P1 T'.heap (locs ++ L) hq (by rw [e1]; exact hp) ⟨Nat.le_trans hS.1 (by rw [e1]; exact hz), fun q h1 h2 => by rw [e1, hk q (Nat.lt_of_lt_of_le h1 hS.1) h2]; exact hS.2.1 q h1 h2, fun q hq => by
      rcases List.mem_append.mp hq with h | h
      · exact hS.2.2 q h
      · exact hL q h⟩ T' rfl X'
  exact ⟨t2, st t2 a1, b1⟩
/-- what a call wants of the callee j with n parameters -/
def CFV (j : MI) (n : Nat) : Prop := Cond.instanceMethod j.1 ∈ WT ∧ Cond.selects j.1.cls j.1 j.1 ∈ WT ∧ Cond.initialized j.1.cls ∈ WT ∧ Cond.code j.1 j.2.1 j.2.2.1 j.2.2.2 ∈ WT ∧ (j.1.cls ≠ "java/lang/invoke/MethodHandle" ∧ j.1.cls ≠ "java/lang/invoke/VarHandle" ∧ (parseMethodDescriptor j.1.desc).map (fun d => d.parameters.length) = some n) ∧ j.2.2.1 ≤ 41
def CFS (j : MI) (n : Nat) : Prop := Cond.static j.1 ∈ WT ∧ Cond.initialized j.1.cls ∈ WT ∧ Cond.code j.1 j.2.1 j.2.2.1 j.2.2.2 ∈ WT ∧ (j.1.cls ≠ "java/lang/invoke/MethodHandle" ∧ j.1.cls ≠ "java/lang/invoke/VarHandle" ∧ (parseMethodDescriptor j.1.desc).map (fun d => d.parameters.length) = some n) ∧ j.2.2.1 ≤ 41
theorem gs_cat {st : List PV} : ((gs G st).map fun v => v.category).sum = (st.map fun v => if v.1 == 1 then 2 else 1).sum := by
  unfold gs
  rw [List.map_map]
  congr 1
  apply List.map_congr_left
  intro v _
  simp only [Function.comp]
  by_cases h : (v.1 == 1) = true
  · rw [gv_cat2 h, if_pos h]
  · have h : (v.1 == 1) = false := by simpa using h
    rw [gv_cat1 h, h]
    rfl
theorem g_callV {j : MI} {av st0 : List PV} {o n d1 idx ci N : Nat} {C1 : String} {T1 : u_T} {Q1 : Option PV → PH → Prop} (hC : Ct S G d1 j (vR o :: av) P Q1) (hF : CFV j n) (hw : Cond.methodLink i.1.cls idx j.1 ∈ WT) (hn : av.length = n) (ho : o < S.1) (hsh : S.2.2.1 (S.2.1 o) = (0, ci, N)) (hcl : vwCl[ci]? = some (C1, T1, N)) (hC1 : j.1.cls = C1) (hcat : (st.map fun v => if v.1 == 1 then 2 else 1).sum ≤ 8) (hdp : d1 + 1 ≤ d) (hst : st0 = av.reverse ++ vR o :: st) (hd : decode i.2.1 pc = .ok (.invokevirtual idx, 3)) (k : ∀ (v : Option PV) (P1 : PH), Q1 v P1 → Go S G d i (pc + 3) ls (v.toList ++ st) P1 Q) : Go S G d i pc ls st0 P Q := by
  intro p e R s m args below meth c H locs la C hP hS hl
  obtain ⟨hx, hb, hml, hr, hlk, hown, hts, ⟨hK, hNk⟩, hi, hdf, hdl⟩ := C
  obtain ⟨f1, f2, f3, f4, f5, f6⟩ := hF
  have hlen : (av.map (gv G.2.2.2.2)).length = n := by rw [List.length_map]; exact hn
  have hstk : gs G st0 = (av.map (gv G.2.2.2.2)).reverse ++ .ref (G.2.2.2.2 o) :: gs G st := by
    rw [hst]
    unfold gs
    rw [List.map_append, List.map_reverse]
    rfl
  refine W_callg (va_runV (As := av.map (gv G.2.2.2.2)) (rest := gs G st) ⟨hx, hb, hml, hown, hts⟩ hC (cwV n hts (gV hw f1 f2 f3 f4) rfl rfl rfl ⟨rfl, f5⟩ ⟨by show d1 + 1 ≤ R.frames; omega, by show 8 + (j.2.2.1 + 11) + 60 * d1 ≤ R.locals; omega⟩) ⟨pre_blind, ?_, fun U hU hW => ⟨rfl, by rw [hU]; exact hP, ⟨va_K.moved hW.alike hK, nX.warm hW hNk⟩, hi⟩⟩ rfl hlen hl.1 hstk (lv_room (by rw [gs_cat]; exact hcat)) hd ⟨Nat.zero_le _, Nat.zero_le _⟩) hS (fun v P1 H1 locs1 hq hP1 hS1 => ?_)
  · have h1 := va_recv hK hP hcl (WLO ho hsh)
    rw [hC1]
    exact h1
  · have e1 : gs G (v.toList ++ st) = (v.map (gv G.2.2.2.2)).toList ++ gs G st := by cases v <;> rfl
    rw [← e1]
    exact k v P1 hq p e R s m args below meth c H1 locs1 la ⟨hx, hb, hml, hr, hlk, hown, hts, ⟨hK, hNk⟩, hi, hdf, hdl⟩ hP1 hS1 hl

theorem g_callS {j : MI} {av st0 : List PV} {n d1 idx : Nat} {Q1 : Option PV → PH → Prop} (hC : Ct S G d1 j av P Q1) (hF : CFS j n) (hw : Cond.methodLink i.1.cls idx j.1 ∈ WT) (hn : av.length = n) (hcat : (st.map fun v => if v.1 == 1 then 2 else 1).sum ≤ 8) (hdp : d1 + 1 ≤ d) (hst : st0 = av.reverse ++ st) (hd : decode i.2.1 pc = .ok (.invokestatic idx, 3)) (k : ∀ (v : Option PV) (P1 : PH), Q1 v P1 → Go S G d i (pc + 3) ls (v.toList ++ st) P1 Q) : Go S G d i pc ls st0 P Q := by
  intro p e R s m args below meth c H locs la C hP hS hl
  obtain ⟨hx, hb, hml, hr, hlk, hown, hts, ⟨hK, hNk⟩, hi, hdf, hdl⟩ := C
  obtain ⟨f1, f2, f3, f4, f5⟩ := hF
  have hlen : (av.map (gv G.2.2.2.2)).length = n := by rw [List.length_map]; exact hn
  have hstk : gs G st0 = (av.map (gv G.2.2.2.2)).reverse ++ gs G st := by
    rw [hst]
    unfold gs
    rw [List.map_append, List.map_reverse]
  refine W_callg (va_runS (As := av.map (gv G.2.2.2.2)) (rest := gs G st) ⟨hx, hb, hml, hown, hts⟩ hC (va_cwS n hts (gT hw f1 f2 f3) rfl rfl rfl f4 ⟨by show d1 + 1 ≤ R.frames; omega, by show 8 + (j.2.2.1 + 11) + 60 * d1 ≤ R.locals; omega⟩) ⟨pre_blind, fun U hU hW => ⟨rfl, by rw [hU]; exact hP, ⟨va_K.moved hW.alike hK, nX.warm hW hNk⟩, hi⟩⟩ rfl hlen hl.1 hstk (lv_room (by rw [gs_cat]; exact hcat)) hd ⟨Nat.zero_le _, Nat.zero_le _⟩) hS (fun v P1 H1 locs1 hq hP1 hS1 => ?_)
  have e1 : gs G (v.toList ++ st) = (v.map (gv G.2.2.2.2)).toList ++ gs G st := by cases v <;> rfl
  rw [← e1]
  exact k v P1 hq p e R s m args below meth c H1 locs1 la ⟨hx, hb, hml, hr, hlk, hown, hts, ⟨hK, hNk⟩, hi, hdf, hdl⟩ hP1 hS1 hl

theorem g_callSN {j : MI} {av st0 : List PV} {n d1 idx : Nat} {host : String} {Q1 : Option PV → PH → Prop} (hC : Ct S G d1 j av P Q1) (hF : CFS j n) (hw : ∀ U : State, nX U → va_Nw (.methodLinkNest i.1.cls idx j.1 host) U) (hn : av.length = n) (hcat : (st.map fun v => if v.1 == 1 then 2 else 1).sum ≤ 8) (hdp : d1 + 1 ≤ d) (hst : st0 = av.reverse ++ st) (hd : decode i.2.1 pc = .ok (.invokestatic idx, 3)) (k : ∀ (v : Option PV) (P1 : PH), Q1 v P1 → Go S G d i (pc + 3) ls (v.toList ++ st) P1 Q) : Go S G d i pc ls st0 P Q := by
  intro p e R s m args below meth c H locs la C hP hS hl
  obtain ⟨hx, hb, hml, hr, hlk, hown, hts, ⟨hK, hNk⟩, hi, hdf, hdl⟩ := C
  obtain ⟨f1, f2, f3, f4, f5⟩ := hF
  have hlen : (av.map (gv G.2.2.2.2)).length = n := by rw [List.length_map]; exact hn
  have hstk : gs G st0 = (av.map (gv G.2.2.2.2)).reverse ++ gs G st := by
    rw [hst]
    unfold gs
    rw [List.map_append, List.map_reverse]
  refine W_callg (va_runSN (As := av.map (gv G.2.2.2.2)) (rest := gs G st) ⟨hx, hb, hml, hown, hts⟩ hC ⟨va_cnB n hts (gI f3) rfl rfl rfl (hw s hNk) (hts _ f2) f4 ⟨by show d1 + 1 ≤ R.frames; omega, by show 8 + (j.2.2.1 + 11) + 60 * d1 ≤ R.locals; omega⟩, hts _ f1, trivial⟩ ⟨pre_blind, fun U hU hW => ⟨rfl, by rw [hU]; exact hP, ⟨va_K.moved hW.alike hK, nX.warm hW hNk⟩, hi⟩⟩ rfl hlen hl.1 hstk (lv_room (by rw [gs_cat]; exact hcat)) hd ⟨Nat.zero_le _, Nat.zero_le _⟩) hS (fun v P1 H1 locs1 hq hP1 hS1 => ?_)
  have e1 : gs G (v.toList ++ st) = (v.map (gv G.2.2.2.2)).toList ++ gs G st := by cases v <;> rfl
  rw [← e1]
  exact k v P1 hq p e R s m args below meth c H1 locs1 la ⟨hx, hb, hml, hr, hlk, hown, hts, ⟨hK, hNk⟩, hi, hdf, hdl⟩ hP1 hS1 hl

/-- the locals at the entry -/
def ga : Nat → List PV → List (Nat × PV)
  | _, [] => []
  | n, v :: vs => (n, v) :: ga (if v.1 == 1 then n + 2 else n + 1) vs
theorem ga_args (n : Nat) (av : List PV) : lv_args n (av.map (gv G.2.2.2.2)) = gl G (ga n av) := by
  induction av generalizing n with
  | nil => rfl
  | cons v vs ih =>
    show (n, gv G.2.2.2.2 v) :: lv_args (if (gv G.2.2.2.2 v).category = 2 then n + 2 else n + 1) (vs.map (gv G.2.2.2.2)) = (n, gv G.2.2.2.2 v) :: gl G (ga (if v.1 == 1 then n + 2 else n + 1) vs)
    have h := gv_cat G.2.2.2.2 v
    by_cases hv : (v.1 == 1) = true
    · rw [hv]
      rw [hv] at h
      rw [if_pos (by simpa using h), ih]
      rfl
    · have hv : (v.1 == 1) = false := by simpa using hv
      rw [hv]
      rw [hv] at h
      rw [if_neg (by simpa using h), ih]
      rfl
theorem sl_len (av : List PV) : (lg_sl (av.map (gv G.2.2.2.2))).length = (av.map fun v => if v.1 == 1 then 2 else 1).sum := by
  induction av with
  | nil => rfl
  | cons v vs ih =>
    have e : lg_sl ((v :: vs).map (gv G.2.2.2.2)) = (if (gv G.2.2.2.2 v).category = 2 then [Slot.val (gv G.2.2.2.2 v), .second] else [.val (gv G.2.2.2.2 v)]) ++ lg_sl (vs.map (gv G.2.2.2.2)) := by simp [lg_sl]
    rw [e, List.length_append, ih, List.map_cons, List.sum_cons]
    have h := gv_cat G.2.2.2.2 v
    by_cases hv : (v.1 == 1) = true
    · rw [hv] at h
      rw [if_pos (by simpa using h), if_pos hv]
      rfl
    · have hv : (v.1 == 1) = false := by simpa using hv
      rw [hv] at h
      rw [if_neg (by simpa using h), hv]
      rfl
/-- a contract out of the walk of its body -/
theorem Ct.of {av : List PV} {l0 : List (Nat × PV)} (hy : plainName i.1.cls = true) (hl0 : ga 0 av = l0) (hsz : (av.map fun v => if v.1 == 1 then 2 else 1).sum ≤ i.2.2.1) (k : Go S G d i 0 l0 [] P Q) : Ct S G d i av P Q := by
  refine Met.ofW (cc := i.2.1) (maxL := i.2.2.1) (ret := i.2.2.2) hy rfl ?_
  intro p e s m args below meth c s₁ B hml hv
  obtain ⟨rfl, hP, hK, hi⟩ := hv
  have hx := B.exec
  have hb := B.bytes
  have hr := B.returns
  have hts1 := atoms_spec (ws := (.code i.1 i.2.1 i.2.2.1 i.2.2.2 :: WT)) B.pre
  have hts : ∀ w ∈ WT, w.before (av.map (gv G.2.2.2.2)).toArray s = true := fun w h => hts1 w (List.mem_cons_of_mem _ h)
  have hown : s.vm.findClass i.1.cls = some m.cls := findClass_of_methodNamed B.named
  have hl := lv_entry (av.map (gv G.2.2.2.2)) (n := i.2.2.1) (by rw [sl_len]; exact hsz)
  rw [lg_entry_eq]
  rw [ga_args, hl0] at hl
  exact k p e _ s m _ below meth c s.heap [] _ ⟨hx, hb, hml, hr, B.notSynchronized, hown, hts, hK, hi, Nat.le_refl _, Nat.le_refl _⟩ hP va_S.rf hl
/-- a weaker end -/
theorem Ct.mono {av : List PV} {Q2 : Option PV → PH → Prop} (h : Ct S G d i av P Q) (hq : ∀ v P1, Q v P1 → Q2 v P1) : Ct S G d i av P Q2 := by
  intro p e h1 h2 h3 s m args below h4 h5 h6 h7
  obtain ⟨n, o, k1, k2, k3, ⟨⟨⟨v, P1, a1, a2, a3⟩, a4⟩, a5⟩⟩ := h p e h1 h2 h3 s m args below h4 h5 h6 h7
  exact ⟨n, o, k1, k2, k3, ⟨⟨⟨v, P1, a1, hq v P1 a2, a3⟩, a4⟩, a5⟩⟩
end GO