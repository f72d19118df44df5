/-! The bytes ahead of a place, and what is decoded there. -/
def fd_nth {α : Type} : List α → Nat → Option α
  | [], _ => none
  | a :: _, 0 => some a
  | _ :: t, n + 1 => fd_nth t n
def fd_at (L : List (List Nat)) (p : Nat) : Option Nat :=
  match fd_nth L (p / 16) with
  | some l => fd_nth l (p % 16)
  | none => none
def fd_ok : List (List Nat) → Bool
  | [] => true
  | l :: t => (match t with | [] => true | _ :: _ => Nat.beq l.length 16) && fd_ok t
def fd_same : List UInt8 → List Nat → Bool
  | _, [] => true
  | [], _ :: _ => false
  | a :: s, b :: t => Nat.beq a.toNat b && fd_same s t
def fd_pre (L : List (List Nat)) : Nat → List Nat → Bool
  | _, [] => true
  | p, b :: t => (match fd_at L p with | some x => Nat.beq x b | none => false) && fd_pre L (p + 1) t
def fd_U (c : ByteArray) : Nat → List Nat → Prop
  | _, [] => True
  | p, b :: t => (Reader.u1 : Decoder Nat) c p = .ok (b, p + 1) ∧ fd_U c (p + 1) t
def fd_C (c : ByteArray) (L : List (List Nat)) : Prop := fd_ok L = true ∧ fd_same c.data.toList L.flatten = true
theorem fd_app1 {α : Type} : ∀ (l m : List α) (p : Nat) (b : α), fd_nth l p = some b → fd_nth (l ++ m) p = some b
  | [], _, p, _, h => by cases p <;> exact absurd h (by intro h; cases h)
  | a :: l, m, 0, b, h => h
  | a :: l, m, p + 1, b, h => fd_app1 l m p b h
theorem fd_app2 {α : Type} : ∀ (l m : List α) (q : Nat), fd_nth (l ++ m) (q + l.length) = fd_nth m q
  | [], m, q => rfl
  | a :: l, m, q => fd_app2 l m q
theorem fd_flat : ∀ (L : List (List Nat)), fd_ok L = true → ∀ p b, fd_at L p = some b → fd_nth L.flatten p = some b
  | [], _, p, b, h => by
    have e : fd_at [] p = none := by unfold fd_at; cases p / 16 <;> rfl
    rw [e] at h; cases h
  | l :: t, ho, p, b, h => by
    by_cases hp : p < 16
    · have e : fd_at (l :: t) p = fd_nth l p := by
        unfold fd_at; rw [Nat.div_eq_of_lt hp, Nat.mod_eq_of_lt hp]; rfl
      rw [e] at h
      exact fd_app1 l t.flatten p b h
    · obtain ⟨q, rfl⟩ : ∃ q, p = q + 16 := ⟨p - 16, by omega⟩
      have e : fd_at (l :: t) (q + 16) = fd_at t q := by
        unfold fd_at; rw [Nat.add_div_right q (by decide), Nat.add_mod_right]; rfl
      rw [e] at h
      cases t with
      | nil =>
        have e2 : fd_at [] q = none := by unfold fd_at; cases q / 16 <;> rfl
        rw [e2] at h; cases h
      | cons m u =>
        have h2 : (Nat.beq l.length 16 && fd_ok (m :: u)) = true := ho
        rw [Bool.and_eq_true] at h2
        have hl : l.length = 16 := Nat.eq_of_beq_eq_true h2.1
        have h3 := fd_flat (m :: u) h2.2 q b h
        have h4 := fd_app2 l (m :: u).flatten q
        rw [hl] at h4
        exact h4.trans h3
theorem fd_sn : ∀ (l : List UInt8) (m : List Nat), fd_same l m = true → ∀ p b, fd_nth m p = some b → ∃ a, fd_nth l p = some a ∧ a.toNat = b
  | _, [], _, p, b, h => by cases p <;> exact absurd h (by intro h; cases h)
  | [], _ :: _, hs, _, _, _ => absurd hs (by intro h; cases h)
  | a :: s, c :: t, hs, p, b, h => by
    have h2 : (Nat.beq a.toNat c && fd_same s t) = true := hs
    rw [Bool.and_eq_true] at h2
    cases p with
    | zero =>
      have h5 : some c = some b := h
      exact ⟨a, rfl, (Nat.eq_of_beq_eq_true h2.1).trans (Option.some.inj h5)⟩
    | succ n => exact fd_sn s t h2.2 n b h
theorem fd_get : ∀ (l : List UInt8) (p : Nat) (a : UInt8), fd_nth l p = some a → ∃ h : p < l.length, l[p] = a
  | [], p, a, h => by cases p <;> exact absurd h (by intro h; cases h)
  | c :: t, 0, a, h => ⟨Nat.succ_pos _, Option.some.inj h⟩
  | c :: t, p + 1, a, h => by
    obtain ⟨h1, h2⟩ := fd_get t p a h
    exact ⟨Nat.succ_lt_succ h1, h2⟩
theorem fd_u1 (c : ByteArray) (p : Nat) (a : UInt8) (h : fd_nth c.data.toList p = some a) : (Reader.u1 : Decoder Nat) c p = .ok (a.toNat, p + 1) := by
  obtain ⟨h1, h2⟩ := fd_get _ p a h
  have hs : p < c.size := h1
  have h3 : c[p] = a := h2
  show (dite (p < c.size) (fun h => (do set (p + 1); pure c[p].toNat : Decoder Nat)) (fun _ => throw (HasTruncated.truncated p))) c p = _
  rw [dif_pos hs, h3]; rfl
theorem fd_r {c : ByteArray} {L : List (List Nat)} (h : fd_C c L) : ∀ {p : Nat} {l : List Nat}, fd_pre L p l = true → fd_U c p l
  | _, [], _ => trivial
  | p, b :: t, hp => by
    have h2 : ((match fd_at L p with | some x => Nat.beq x b | none => false) && fd_pre L (p + 1) t) = true := hp
    rw [Bool.and_eq_true] at h2
    refine ⟨?_, fd_r h h2.2⟩
    have h3 := h2.1
    cases e : fd_at L p with
    | none => rw [e] at h3; cases h3
    | some x =>
      rw [e] at h3
      have hx : x = b := Nat.eq_of_beq_eq_true h3
      subst hx
      obtain ⟨a, ha, hb⟩ := fd_sn _ _ h.2 p x (fd_flat L h.1 p x e)
      rw [← hb]; exact fd_u1 c p a ha
theorem fd_b {ε α β : Type} {x : Except ε α} {a : α} {f : α → Except ε β} {r : Except ε β} (h : x = .ok a) (h2 : f a = r) : Except.bind x f = r := by rw [h]; exact h2
theorem fd_dec {c : ByteArray} {p : Nat} {i : Instr} {k n : Nat} (h : Decoder.instr p c p = .ok (i, k)) (hk : k = p + n) : decode c p = .ok (i, n) := by
  subst hk
  have e : decode c p = Except.bind (Decoder.instr p c p) (fun x => .ok (x.1, x.2 - p)) := rfl
  rw [e, h]
  show Except.ok (i, p + n - p) = _
  rw [Nat.add_sub_cancel_left]
theorem fd_u2 {c : ByteArray} {p a b : Nat} (h1 : (Reader.u1 : Decoder Nat) c p = .ok (a, p + 1)) (h2 : (Reader.u1 : Decoder Nat) c (p + 1) = .ok (b, p + 1 + 1)) : (Reader.u2 : Decoder Nat) c p = .ok (a * 256 + b, p + 1 + 1) := fd_b h1 (fd_b h2 rfl)
theorem fd_s2 {c : ByteArray} {p a b : Nat} (h1 : (Reader.u1 : Decoder Nat) c p = .ok (a, p + 1)) (h2 : (Reader.u1 : Decoder Nat) c (p + 1) = .ok (b, p + 1 + 1)) : (Reader.s2 : Decoder Int) c p = .ok (Reader.signed 16 (a * 256 + b), p + 1 + 1) := fd_b (fd_u2 h1 h2) rfl
theorem fd_s1 {c : ByteArray} {p a : Nat} (h1 : (Reader.u1 : Decoder Nat) c p = .ok (a, p + 1)) : (Reader.s1 : Decoder Int) c p = .ok (Reader.signed 8 a, p + 1) := fd_b h1 rfl
theorem dq_2 {c : ByteArray} {p : Nat} (h : fd_U c p [2]) : decode c p = .ok (.iconst (-1), 1) := fd_dec (fd_b h.1 rfl) rfl
theorem dq_3 {c : ByteArray} {p : Nat} (h : fd_U c p [3]) : decode c p = .ok (.iconst 0, 1) := fd_dec (fd_b h.1 rfl) rfl
theorem dq_4 {c : ByteArray} {p : Nat} (h : fd_U c p [4]) : decode c p = .ok (.iconst 1, 1) := fd_dec (fd_b h.1 rfl) rfl
theorem dq_5 {c : ByteArray} {p : Nat} (h : fd_U c p [5]) : decode c p = .ok (.iconst 2, 1) := fd_dec (fd_b h.1 rfl) rfl
theorem dq_6 {c : ByteArray} {p : Nat} (h : fd_U c p [6]) : decode c p = .ok (.iconst 3, 1) := fd_dec (fd_b h.1 rfl) rfl
theorem dq_7 {c : ByteArray} {p : Nat} (h : fd_U c p [7]) : decode c p = .ok (.iconst 4, 1) := fd_dec (fd_b h.1 rfl) rfl
theorem dq_8 {c : ByteArray} {p : Nat} (h : fd_U c p [8]) : decode c p = .ok (.iconst 5, 1) := fd_dec (fd_b h.1 rfl) rfl
theorem dq_9 {c : ByteArray} {p : Nat} (h : fd_U c p [9]) : decode c p = .ok (.lconst 0, 1) := fd_dec (fd_b h.1 rfl) rfl
theorem dq_10 {c : ByteArray} {p : Nat} (h : fd_U c p [10]) : decode c p = .ok (.lconst 1, 1) := fd_dec (fd_b h.1 rfl) rfl
theorem dq_16 {c : ByteArray} {p : Nat} {a : Nat} {v : Int} (h : fd_U c p [16, a]) (hv : Reader.signed 8 a = v) : decode c p = .ok (.bipush v, 2) := fd_dec (fd_b h.1 (fd_b (fd_s1 h.2.1) (hv ▸ rfl))) rfl
theorem dq_17 {c : ByteArray} {p : Nat} {a b : Nat} {v : Int} (h : fd_U c p [17, a, b]) (hv : Reader.signed 16 (a * 256 + b) = v) : decode c p = .ok (.sipush v, 3) := fd_dec (fd_b h.1 (fd_b (fd_s2 h.2.1 h.2.2.1) (hv ▸ rfl))) rfl
theorem dq_18 {c : ByteArray} {p : Nat} {a : Nat} (h : fd_U c p [18, a]) : decode c p = .ok (.ldc a, 2) := fd_dec (fd_b h.1 (fd_b h.2.1 rfl)) rfl
theorem dq_19 {c : ByteArray} {p : Nat} {a b v : Nat} (h : fd_U c p [19, a, b]) (hv : a * 256 + b = v) : decode c p = .ok (.ldc_w v, 3) := fd_dec (fd_b h.1 (fd_b (fd_u2 h.2.1 h.2.2.1) (hv ▸ rfl))) rfl
theorem dq_20 {c : ByteArray} {p : Nat} {a b v : Nat} (h : fd_U c p [20, a, b]) (hv : a * 256 + b = v) : decode c p = .ok (.ldc2_w v, 3) := fd_dec (fd_b h.1 (fd_b (fd_u2 h.2.1 h.2.2.1) (hv ▸ rfl))) rfl
theorem dq_21 {c : ByteArray} {p : Nat} {a : Nat} (h : fd_U c p [21, a]) : decode c p = .ok (.iload a, 2) := fd_dec (fd_b h.1 (fd_b h.2.1 rfl)) rfl
theorem dq_22 {c : ByteArray} {p : Nat} {a : Nat} (h : fd_U c p [22, a]) : decode c p = .ok (.lload a, 2) := fd_dec (fd_b h.1 (fd_b h.2.1 rfl)) rfl
theorem dq_25 {c : ByteArray} {p : Nat} {a : Nat} (h : fd_U c p [25, a]) : decode c p = .ok (.aload a, 2) := fd_dec (fd_b h.1 (fd_b h.2.1 rfl)) rfl
theorem dq_26 {c : ByteArray} {p : Nat} (h : fd_U c p [26]) : decode c p = .ok (.iload_n 0, 1) := fd_dec (fd_b h.1 rfl) rfl
theorem dq_27 {c : ByteArray} {p : Nat} (h : fd_U c p [27]) : decode c p = .ok (.iload_n 1, 1) := fd_dec (fd_b h.1 rfl) rfl
theorem dq_28 {c : ByteArray} {p : Nat} (h : fd_U c p [28]) : decode c p = .ok (.iload_n 2, 1) := fd_dec (fd_b h.1 rfl) rfl
theorem dq_29 {c : ByteArray} {p : Nat} (h : fd_U c p [29]) : decode c p = .ok (.iload_n 3, 1) := fd_dec (fd_b h.1 rfl) rfl
theorem dq_30 {c : ByteArray} {p : Nat} (h : fd_U c p [30]) : decode c p = .ok (.lload_n 0, 1) := fd_dec (fd_b h.1 rfl) rfl
theorem dq_31 {c : ByteArray} {p : Nat} (h : fd_U c p [31]) : decode c p = .ok (.lload_n 1, 1) := fd_dec (fd_b h.1 rfl) rfl
theorem dq_32 {c : ByteArray} {p : Nat} (h : fd_U c p [32]) : decode c p = .ok (.lload_n 2, 1) := fd_dec (fd_b h.1 rfl) rfl
theorem dq_33 {c : ByteArray} {p : Nat} (h : fd_U c p [33]) : decode c p = .ok (.lload_n 3, 1) := fd_dec (fd_b h.1 rfl) rfl
theorem dq_42 {c : ByteArray} {p : Nat} (h : fd_U c p [42]) : decode c p = .ok (.aload_n 0, 1) := fd_dec (fd_b h.1 rfl) rfl
theorem dq_43 {c : ByteArray} {p : Nat} (h : fd_U c p [43]) : decode c p = .ok (.aload_n 1, 1) := fd_dec (fd_b h.1 rfl) rfl
theorem dq_44 {c : ByteArray} {p : Nat} (h : fd_U c p [44]) : decode c p = .ok (.aload_n 2, 1) := fd_dec (fd_b h.1 rfl) rfl
theorem dq_45 {c : ByteArray} {p : Nat} (h : fd_U c p [45]) : decode c p = .ok (.aload_n 3, 1) := fd_dec (fd_b h.1 rfl) rfl
theorem dq_46 {c : ByteArray} {p : Nat} (h : fd_U c p [46]) : decode c p = .ok (.iaload, 1) := fd_dec (fd_b h.1 rfl) rfl
theorem dq_47 {c : ByteArray} {p : Nat} (h : fd_U c p [47]) : decode c p = .ok (.laload, 1) := fd_dec (fd_b h.1 rfl) rfl
theorem dq_50 {c : ByteArray} {p : Nat} (h : fd_U c p [50]) : decode c p = .ok (.aaload, 1) := fd_dec (fd_b h.1 rfl) rfl
theorem dq_51 {c : ByteArray} {p : Nat} (h : fd_U c p [51]) : decode c p = .ok (.baload, 1) := fd_dec (fd_b h.1 rfl) rfl
theorem dq_54 {c : ByteArray} {p : Nat} {a : Nat} (h : fd_U c p [54, a]) : decode c p = .ok (.istore a, 2) := fd_dec (fd_b h.1 (fd_b h.2.1 rfl)) rfl
theorem dq_55 {c : ByteArray} {p : Nat} {a : Nat} (h : fd_U c p [55, a]) : decode c p = .ok (.lstore a, 2) := fd_dec (fd_b h.1 (fd_b h.2.1 rfl)) rfl
theorem dq_58 {c : ByteArray} {p : Nat} {a : Nat} (h : fd_U c p [58, a]) : decode c p = .ok (.astore a, 2) := fd_dec (fd_b h.1 (fd_b h.2.1 rfl)) rfl
theorem dq_59 {c : ByteArray} {p : Nat} (h : fd_U c p [59]) : decode c p = .ok (.istore_n 0, 1) := fd_dec (fd_b h.1 rfl) rfl
theorem dq_60 {c : ByteArray} {p : Nat} (h : fd_U c p [60]) : decode c p = .ok (.istore_n 1, 1) := fd_dec (fd_b h.1 rfl) rfl
theorem dq_61 {c : ByteArray} {p : Nat} (h : fd_U c p [61]) : decode c p = .ok (.istore_n 2, 1) := fd_dec (fd_b h.1 rfl) rfl
theorem dq_62 {c : ByteArray} {p : Nat} (h : fd_U c p [62]) : decode c p = .ok (.istore_n 3, 1) := fd_dec (fd_b h.1 rfl) rfl
theorem dq_63 {c : ByteArray} {p : Nat} (h : fd_U c p [63]) : decode c p = .ok (.lstore_n 0, 1) := fd_dec (fd_b h.1 rfl) rfl
theorem dq_64 {c : ByteArray} {p : Nat} (h : fd_U c p [64]) : decode c p = .ok (.lstore_n 1, 1) := fd_dec (fd_b h.1 rfl) rfl
theorem dq_65 {c : ByteArray} {p : Nat} (h : fd_U c p [65]) : decode c p = .ok (.lstore_n 2, 1) := fd_dec (fd_b h.1 rfl) rfl
theorem dq_66 {c : ByteArray} {p : Nat} (h : fd_U c p [66]) : decode c p = .ok (.lstore_n 3, 1) := fd_dec (fd_b h.1 rfl) rfl
theorem dq_75 {c : ByteArray} {p : Nat} (h : fd_U c p [75]) : decode c p = .ok (.astore_n 0, 1) := fd_dec (fd_b h.1 rfl) rfl
theorem dq_76 {c : ByteArray} {p : Nat} (h : fd_U c p [76]) : decode c p = .ok (.astore_n 1, 1) := fd_dec (fd_b h.1 rfl) rfl
theorem dq_77 {c : ByteArray} {p : Nat} (h : fd_U c p [77]) : decode c p = .ok (.astore_n 2, 1) := fd_dec (fd_b h.1 rfl) rfl
theorem dq_78 {c : ByteArray} {p : Nat} (h : fd_U c p [78]) : decode c p = .ok (.astore_n 3, 1) := fd_dec (fd_b h.1 rfl) rfl
theorem dq_79 {c : ByteArray} {p : Nat} (h : fd_U c p [79]) : decode c p = .ok (.iastore, 1) := fd_dec (fd_b h.1 rfl) rfl
theorem dq_80 {c : ByteArray} {p : Nat} (h : fd_U c p [80]) : decode c p = .ok (.lastore, 1) := fd_dec (fd_b h.1 rfl) rfl
theorem dq_83 {c : ByteArray} {p : Nat} (h : fd_U c p [83]) : decode c p = .ok (.aastore, 1) := fd_dec (fd_b h.1 rfl) rfl
theorem dq_84 {c : ByteArray} {p : Nat} (h : fd_U c p [84]) : decode c p = .ok (.bastore, 1) := fd_dec (fd_b h.1 rfl) rfl
theorem dq_87 {c : ByteArray} {p : Nat} (h : fd_U c p [87]) : decode c p = .ok (.pop, 1) := fd_dec (fd_b h.1 rfl) rfl
theorem dq_89 {c : ByteArray} {p : Nat} (h : fd_U c p [89]) : decode c p = .ok (.dup, 1) := fd_dec (fd_b h.1 rfl) rfl
theorem dq_90 {c : ByteArray} {p : Nat} (h : fd_U c p [90]) : decode c p = .ok (.dup_x1, 1) := fd_dec (fd_b h.1 rfl) rfl
theorem dq_91 {c : ByteArray} {p : Nat} (h : fd_U c p [91]) : decode c p = .ok (.dup_x2, 1) := fd_dec (fd_b h.1 rfl) rfl
theorem dq_92 {c : ByteArray} {p : Nat} (h : fd_U c p [92]) : decode c p = .ok (.dup2, 1) := fd_dec (fd_b h.1 rfl) rfl
theorem dq_93 {c : ByteArray} {p : Nat} (h : fd_U c p [93]) : decode c p = .ok (.dup2_x1, 1) := fd_dec (fd_b h.1 rfl) rfl
theorem dq_94 {c : ByteArray} {p : Nat} (h : fd_U c p [94]) : decode c p = .ok (.dup2_x2, 1) := fd_dec (fd_b h.1 rfl) rfl
theorem dq_96 {c : ByteArray} {p : Nat} (h : fd_U c p [96]) : decode c p = .ok (.iadd, 1) := fd_dec (fd_b h.1 rfl) rfl
theorem dq_97 {c : ByteArray} {p : Nat} (h : fd_U c p [97]) : decode c p = .ok (.ladd, 1) := fd_dec (fd_b h.1 rfl) rfl
theorem dq_100 {c : ByteArray} {p : Nat} (h : fd_U c p [100]) : decode c p = .ok (.isub, 1) := fd_dec (fd_b h.1 rfl) rfl
theorem dq_101 {c : ByteArray} {p : Nat} (h : fd_U c p [101]) : decode c p = .ok (.lsub, 1) := fd_dec (fd_b h.1 rfl) rfl
theorem dq_104 {c : ByteArray} {p : Nat} (h : fd_U c p [104]) : decode c p = .ok (.imul, 1) := fd_dec (fd_b h.1 rfl) rfl
theorem dq_105 {c : ByteArray} {p : Nat} (h : fd_U c p [105]) : decode c p = .ok (.lmul, 1) := fd_dec (fd_b h.1 rfl) rfl
theorem dq_108 {c : ByteArray} {p : Nat} (h : fd_U c p [108]) : decode c p = .ok (.idiv, 1) := fd_dec (fd_b h.1 rfl) rfl
theorem dq_109 {c : ByteArray} {p : Nat} (h : fd_U c p [109]) : decode c p = .ok (.ldiv, 1) := fd_dec (fd_b h.1 rfl) rfl
theorem dq_112 {c : ByteArray} {p : Nat} (h : fd_U c p [112]) : decode c p = .ok (.irem, 1) := fd_dec (fd_b h.1 rfl) rfl
theorem dq_113 {c : ByteArray} {p : Nat} (h : fd_U c p [113]) : decode c p = .ok (.lrem, 1) := fd_dec (fd_b h.1 rfl) rfl
theorem dq_116 {c : ByteArray} {p : Nat} (h : fd_U c p [116]) : decode c p = .ok (.ineg, 1) := fd_dec (fd_b h.1 rfl) rfl
theorem dq_117 {c : ByteArray} {p : Nat} (h : fd_U c p [117]) : decode c p = .ok (.lneg, 1) := fd_dec (fd_b h.1 rfl) rfl
theorem dq_120 {c : ByteArray} {p : Nat} (h : fd_U c p [120]) : decode c p = .ok (.ishl, 1) := fd_dec (fd_b h.1 rfl) rfl
theorem dq_121 {c : ByteArray} {p : Nat} (h : fd_U c p [121]) : decode c p = .ok (.lshl, 1) := fd_dec (fd_b h.1 rfl) rfl
theorem dq_122 {c : ByteArray} {p : Nat} (h : fd_U c p [122]) : decode c p = .ok (.ishr, 1) := fd_dec (fd_b h.1 rfl) rfl
theorem dq_123 {c : ByteArray} {p : Nat} (h : fd_U c p [123]) : decode c p = .ok (.lshr, 1) := fd_dec (fd_b h.1 rfl) rfl
theorem dq_124 {c : ByteArray} {p : Nat} (h : fd_U c p [124]) : decode c p = .ok (.iushr, 1) := fd_dec (fd_b h.1 rfl) rfl
theorem dq_125 {c : ByteArray} {p : Nat} (h : fd_U c p [125]) : decode c p = .ok (.lushr, 1) := fd_dec (fd_b h.1 rfl) rfl
theorem dq_126 {c : ByteArray} {p : Nat} (h : fd_U c p [126]) : decode c p = .ok (.iand, 1) := fd_dec (fd_b h.1 rfl) rfl
theorem dq_127 {c : ByteArray} {p : Nat} (h : fd_U c p [127]) : decode c p = .ok (.land, 1) := fd_dec (fd_b h.1 rfl) rfl
theorem dq_128 {c : ByteArray} {p : Nat} (h : fd_U c p [128]) : decode c p = .ok (.ior, 1) := fd_dec (fd_b h.1 rfl) rfl
theorem dq_129 {c : ByteArray} {p : Nat} (h : fd_U c p [129]) : decode c p = .ok (.lor, 1) := fd_dec (fd_b h.1 rfl) rfl
theorem dq_130 {c : ByteArray} {p : Nat} (h : fd_U c p [130]) : decode c p = .ok (.ixor, 1) := fd_dec (fd_b h.1 rfl) rfl
theorem dq_131 {c : ByteArray} {p : Nat} (h : fd_U c p [131]) : decode c p = .ok (.lxor, 1) := fd_dec (fd_b h.1 rfl) rfl
theorem dq_132 {c : ByteArray} {p : Nat} {a b : Nat} {v : Int} (h : fd_U c p [132, a, b]) (hv : Reader.signed 8 b = v) : decode c p = .ok (.iinc a v, 3) := fd_dec (fd_b h.1 (fd_b h.2.1 (fd_b (fd_s1 h.2.2.1) (hv ▸ rfl)))) rfl
theorem dq_133 {c : ByteArray} {p : Nat} (h : fd_U c p [133]) : decode c p = .ok (.i2l, 1) := fd_dec (fd_b h.1 rfl) rfl
theorem dq_136 {c : ByteArray} {p : Nat} (h : fd_U c p [136]) : decode c p = .ok (.l2i, 1) := fd_dec (fd_b h.1 rfl) rfl
theorem dq_145 {c : ByteArray} {p : Nat} (h : fd_U c p [145]) : decode c p = .ok (.i2b, 1) := fd_dec (fd_b h.1 rfl) rfl
theorem dq_146 {c : ByteArray} {p : Nat} (h : fd_U c p [146]) : decode c p = .ok (.i2c, 1) := fd_dec (fd_b h.1 rfl) rfl
theorem dq_147 {c : ByteArray} {p : Nat} (h : fd_U c p [147]) : decode c p = .ok (.i2s, 1) := fd_dec (fd_b h.1 rfl) rfl
theorem dq_148 {c : ByteArray} {p : Nat} (h : fd_U c p [148]) : decode c p = .ok (.lcmp, 1) := fd_dec (fd_b h.1 rfl) rfl
theorem dq_153 {c : ByteArray} {p : Nat} {a b : Nat} {v : Int} (h : fd_U c p [153, a, b]) (hv : Reader.signed 16 (a * 256 + b) = v) : decode c p = .ok (.ifCond .eq v, 3) := fd_dec (fd_b h.1 (fd_b (fd_s2 h.2.1 h.2.2.1) (hv ▸ rfl))) rfl
theorem dq_154 {c : ByteArray} {p : Nat} {a b : Nat} {v : Int} (h : fd_U c p [154, a, b]) (hv : Reader.signed 16 (a * 256 + b) = v) : decode c p = .ok (.ifCond .ne v, 3) := fd_dec (fd_b h.1 (fd_b (fd_s2 h.2.1 h.2.2.1) (hv ▸ rfl))) rfl
theorem dq_155 {c : ByteArray} {p : Nat} {a b : Nat} {v : Int} (h : fd_U c p [155, a, b]) (hv : Reader.signed 16 (a * 256 + b) = v) : decode c p = .ok (.ifCond .lt v, 3) := fd_dec (fd_b h.1 (fd_b (fd_s2 h.2.1 h.2.2.1) (hv ▸ rfl))) rfl
theorem dq_156 {c : ByteArray} {p : Nat} {a b : Nat} {v : Int} (h : fd_U c p [156, a, b]) (hv : Reader.signed 16 (a * 256 + b) = v) : decode c p = .ok (.ifCond .ge v, 3) := fd_dec (fd_b h.1 (fd_b (fd_s2 h.2.1 h.2.2.1) (hv ▸ rfl))) rfl
theorem dq_157 {c : ByteArray} {p : Nat} {a b : Nat} {v : Int} (h : fd_U c p [157, a, b]) (hv : Reader.signed 16 (a * 256 + b) = v) : decode c p = .ok (.ifCond .gt v, 3) := fd_dec (fd_b h.1 (fd_b (fd_s2 h.2.1 h.2.2.1) (hv ▸ rfl))) rfl
theorem dq_158 {c : ByteArray} {p : Nat} {a b : Nat} {v : Int} (h : fd_U c p [158, a, b]) (hv : Reader.signed 16 (a * 256 + b) = v) : decode c p = .ok (.ifCond .le v, 3) := fd_dec (fd_b h.1 (fd_b (fd_s2 h.2.1 h.2.2.1) (hv ▸ rfl))) rfl
theorem dq_159 {c : ByteArray} {p : Nat} {a b : Nat} {v : Int} (h : fd_U c p [159, a, b]) (hv : Reader.signed 16 (a * 256 + b) = v) : decode c p = .ok (.if_icmp .eq v, 3) := fd_dec (fd_b h.1 (fd_b (fd_s2 h.2.1 h.2.2.1) (hv ▸ rfl))) rfl
theorem dq_160 {c : ByteArray} {p : Nat} {a b : Nat} {v : Int} (h : fd_U c p [160, a, b]) (hv : Reader.signed 16 (a * 256 + b) = v) : decode c p = .ok (.if_icmp .ne v, 3) := fd_dec (fd_b h.1 (fd_b (fd_s2 h.2.1 h.2.2.1) (hv ▸ rfl))) rfl
theorem dq_161 {c : ByteArray} {p : Nat} {a b : Nat} {v : Int} (h : fd_U c p [161, a, b]) (hv : Reader.signed 16 (a * 256 + b) = v) : decode c p = .ok (.if_icmp .lt v, 3) := fd_dec (fd_b h.1 (fd_b (fd_s2 h.2.1 h.2.2.1) (hv ▸ rfl))) rfl
theorem dq_162 {c : ByteArray} {p : Nat} {a b : Nat} {v : Int} (h : fd_U c p [162, a, b]) (hv : Reader.signed 16 (a * 256 + b) = v) : decode c p = .ok (.if_icmp .ge v, 3) := fd_dec (fd_b h.1 (fd_b (fd_s2 h.2.1 h.2.2.1) (hv ▸ rfl))) rfl
theorem dq_163 {c : ByteArray} {p : Nat} {a b : Nat} {v : Int} (h : fd_U c p [163, a, b]) (hv : Reader.signed 16 (a * 256 + b) = v) : decode c p = .ok (.if_icmp .gt v, 3) := fd_dec (fd_b h.1 (fd_b (fd_s2 h.2.1 h.2.2.1) (hv ▸ rfl))) rfl
theorem dq_164 {c : ByteArray} {p : Nat} {a b : Nat} {v : Int} (h : fd_U c p [164, a, b]) (hv : Reader.signed 16 (a * 256 + b) = v) : decode c p = .ok (.if_icmp .le v, 3) := fd_dec (fd_b h.1 (fd_b (fd_s2 h.2.1 h.2.2.1) (hv ▸ rfl))) rfl
theorem dq_165 {c : ByteArray} {p : Nat} {a b : Nat} {v : Int} (h : fd_U c p [165, a, b]) (hv : Reader.signed 16 (a * 256 + b) = v) : decode c p = .ok (.if_acmp .eq v, 3) := fd_dec (fd_b h.1 (fd_b (fd_s2 h.2.1 h.2.2.1) (hv ▸ rfl))) rfl
theorem dq_166 {c : ByteArray} {p : Nat} {a b : Nat} {v : Int} (h : fd_U c p [166, a, b]) (hv : Reader.signed 16 (a * 256 + b) = v) : decode c p = .ok (.if_acmp .ne v, 3) := fd_dec (fd_b h.1 (fd_b (fd_s2 h.2.1 h.2.2.1) (hv ▸ rfl))) rfl
theorem dq_167 {c : ByteArray} {p : Nat} {a b : Nat} {v : Int} (h : fd_U c p [167, a, b]) (hv : Reader.signed 16 (a * 256 + b) = v) : decode c p = .ok (.goto v, 3) := fd_dec (fd_b h.1 (fd_b (fd_s2 h.2.1 h.2.2.1) (hv ▸ rfl))) rfl
theorem dq_172 {c : ByteArray} {p : Nat} (h : fd_U c p [172]) : decode c p = .ok (.ireturn, 1) := fd_dec (fd_b h.1 rfl) rfl
theorem dq_173 {c : ByteArray} {p : Nat} (h : fd_U c p [173]) : decode c p = .ok (.lreturn, 1) := fd_dec (fd_b h.1 rfl) rfl
theorem dq_176 {c : ByteArray} {p : Nat} (h : fd_U c p [176]) : decode c p = .ok (.areturn, 1) := fd_dec (fd_b h.1 rfl) rfl
theorem dq_177 {c : ByteArray} {p : Nat} (h : fd_U c p [177]) : decode c p = .ok (.return_, 1) := fd_dec (fd_b h.1 rfl) rfl
theorem dq_178 {c : ByteArray} {p : Nat} {a b v : Nat} (h : fd_U c p [178, a, b]) (hv : a * 256 + b = v) : decode c p = .ok (.getstatic v, 3) := fd_dec (fd_b h.1 (fd_b (fd_u2 h.2.1 h.2.2.1) (hv ▸ rfl))) rfl
theorem dq_179 {c : ByteArray} {p : Nat} {a b v : Nat} (h : fd_U c p [179, a, b]) (hv : a * 256 + b = v) : decode c p = .ok (.putstatic v, 3) := fd_dec (fd_b h.1 (fd_b (fd_u2 h.2.1 h.2.2.1) (hv ▸ rfl))) rfl
theorem dq_180 {c : ByteArray} {p : Nat} {a b v : Nat} (h : fd_U c p [180, a, b]) (hv : a * 256 + b = v) : decode c p = .ok (.getfield v, 3) := fd_dec (fd_b h.1 (fd_b (fd_u2 h.2.1 h.2.2.1) (hv ▸ rfl))) rfl
theorem dq_181 {c : ByteArray} {p : Nat} {a b v : Nat} (h : fd_U c p [181, a, b]) (hv : a * 256 + b = v) : decode c p = .ok (.putfield v, 3) := fd_dec (fd_b h.1 (fd_b (fd_u2 h.2.1 h.2.2.1) (hv ▸ rfl))) rfl
theorem dq_182 {c : ByteArray} {p : Nat} {a b v : Nat} (h : fd_U c p [182, a, b]) (hv : a * 256 + b = v) : decode c p = .ok (.invokevirtual v, 3) := fd_dec (fd_b h.1 (fd_b (fd_u2 h.2.1 h.2.2.1) (hv ▸ rfl))) rfl
theorem dq_183 {c : ByteArray} {p : Nat} {a b v : Nat} (h : fd_U c p [183, a, b]) (hv : a * 256 + b = v) : decode c p = .ok (.invokespecial v, 3) := fd_dec (fd_b h.1 (fd_b (fd_u2 h.2.1 h.2.2.1) (hv ▸ rfl))) rfl
theorem dq_184 {c : ByteArray} {p : Nat} {a b v : Nat} (h : fd_U c p [184, a, b]) (hv : a * 256 + b = v) : decode c p = .ok (.invokestatic v, 3) := fd_dec (fd_b h.1 (fd_b (fd_u2 h.2.1 h.2.2.1) (hv ▸ rfl))) rfl
theorem dq_187 {c : ByteArray} {p : Nat} {a b v : Nat} (h : fd_U c p [187, a, b]) (hv : a * 256 + b = v) : decode c p = .ok (.new v, 3) := fd_dec (fd_b h.1 (fd_b (fd_u2 h.2.1 h.2.2.1) (hv ▸ rfl))) rfl
theorem dq_189 {c : ByteArray} {p : Nat} {a b v : Nat} (h : fd_U c p [189, a, b]) (hv : a * 256 + b = v) : decode c p = .ok (.anewarray v, 3) := fd_dec (fd_b h.1 (fd_b (fd_u2 h.2.1 h.2.2.1) (hv ▸ rfl))) rfl
theorem dq_190 {c : ByteArray} {p : Nat} (h : fd_U c p [190]) : decode c p = .ok (.arraylength, 1) := fd_dec (fd_b h.1 rfl) rfl
theorem dq_198 {c : ByteArray} {p : Nat} {a b : Nat} {v : Int} (h : fd_U c p [198, a, b]) (hv : Reader.signed 16 (a * 256 + b) = v) : decode c p = .ok (.ifnull v, 3) := fd_dec (fd_b h.1 (fd_b (fd_s2 h.2.1 h.2.2.1) (hv ▸ rfl))) rfl
theorem dq_199 {c : ByteArray} {p : Nat} {a b : Nat} {v : Int} (h : fd_U c p [199, a, b]) (hv : Reader.signed 16 (a * 256 + b) = v) : decode c p = .ok (.ifnonnull v, 3) := fd_dec (fd_b h.1 (fd_b (fd_s2 h.2.1 h.2.2.1) (hv ▸ rfl))) rfl
def LcX0_init : List (List Nat) := [[42, 183, 0, 3, 42, 17, 4, 0, 188, 10, 181, 0, 9, 42, 17, 4], [0, 188, 10, 181, 0, 15, 42, 17, 4, 0, 188, 10, 181, 0, 18, 42], [16, 20, 189, 0, 21, 181, 0, 23, 42, 16, 20, 188, 10, 181, 0, 27], [3, 60, 27, 16, 20, 162, 0, 22, 42, 180, 0, 23, 27, 187, 0, 21], [89, 183, 0, 30, 83, 132, 1, 1, 167, 255, 234, 177]]
theorem fcX0_init : fd_C cX0_init LcX0_init := ⟨by decide +kernel, by decide +kernel⟩
def LcX0_clear : List (List Nat) := [[42, 3, 181, 0, 31, 42, 3, 181, 0, 35, 177]]
theorem fcX0_clear : fd_C cX0_clear LcX0_clear := ⟨by decide +kernel, by decide +kernel⟩
def LcX0_keptTold : List (List Nat) := [[42, 180, 0, 31, 16, 40, 184, 0, 38, 172]]
theorem fcX0_keptTold : fd_C cX0_keptTold LcX0_keptTold := ⟨by decide +kernel, by decide +kernel⟩
def LcX0_keep : List (List Nat) := [[42, 180, 0, 31, 17, 4, 0, 184, 0, 44, 54, 4, 42, 180, 0, 9], [21, 4, 27, 79, 42, 180, 0, 15, 21, 4, 28, 79, 42, 180, 0, 18], [21, 4, 29, 79, 42, 89, 180, 0, 31, 4, 96, 181, 0, 31, 177]]
theorem fcX0_keep : fd_C cX0_keep LcX0_keep := ⟨by decide +kernel, by decide +kernel⟩
def LcX0_tellKept : List (List Nat) := [[27, 155, 0, 11, 27, 42, 182, 0, 47, 161, 0, 5, 2, 172, 42, 180], [0, 31, 42, 182, 0, 47, 100, 27, 96, 17, 4, 0, 184, 0, 44, 62], [28, 170, 0, 0, 0, 0, 0, 48, 0, 0, 0, 0, 0, 0, 0, 2], [0, 0, 0, 27, 0, 0, 0, 34, 0, 0, 0, 41, 42, 180, 0, 9], [29, 46, 172, 42, 180, 0, 15, 29, 46, 172, 42, 180, 0, 18, 29, 46], [172, 2, 172]]
theorem fcX0_tellKept : fd_C cX0_tellKept LcX0_tellKept := ⟨by decide +kernel, by decide +kernel⟩
def LcX0_remember : List (List Nat) := [[42, 180, 0, 51, 16, 20, 184, 0, 44, 61, 42, 180, 0, 23, 28, 50], [43, 182, 0, 54, 42, 180, 0, 27, 28, 42, 180, 0, 31, 79, 42, 28], [4, 96, 181, 0, 51, 42, 42, 180, 0, 35, 4, 96, 16, 20, 184, 0], [38, 181, 0, 35, 177]]
theorem fcX0_remember : fd_C cX0_remember LcX0_remember := ⟨by decide +kernel, by decide +kernel⟩
def LcX0_takeBack : List (List Nat) := [[42, 180, 0, 51, 4, 100, 16, 20, 184, 0, 44, 61, 43, 42, 180, 0], [23, 28, 50, 182, 0, 54, 42, 42, 180, 0, 27, 28, 46, 181, 0, 31], [42, 28, 181, 0, 51, 42, 42, 180, 0, 35, 4, 100, 3, 184, 0, 58], [181, 0, 35, 177]]
theorem fcX0_takeBack : fd_C cX0_takeBack LcX0_takeBack := ⟨by decide +kernel, by decide +kernel⟩
def LcX1_init : List (List Nat) := [[42, 183, 0, 3, 42, 27, 3, 184, 0, 9, 188, 10, 181, 0, 15, 177]]
theorem fcX1_init : fd_C cX1_init LcX1_init := ⟨by decide +kernel, by decide +kernel⟩
def LcX1_add : List (List Nat) := [[42, 180, 0, 21, 155, 0, 39, 42, 180, 0, 21, 42, 180, 0, 15, 190], [162, 0, 27, 42, 180, 0, 15, 42, 180, 0, 21, 27, 17, 0, 255, 126], [79, 42, 89, 180, 0, 21, 4, 96, 181, 0, 21, 177]]
theorem fcX1_add : fd_C cX1_add LcX1_add := ⟨by decide +kernel, by decide +kernel⟩
def LcX1_addFour : List (List Nat) := [[42, 27, 16, 24, 122, 182, 0, 25, 42, 27, 16, 16, 122, 182, 0, 25], [42, 27, 16, 8, 122, 182, 0, 25, 42, 27, 182, 0, 25, 177]]
theorem fcX1_addFour : fd_C cX1_addFour LcX1_addFour := ⟨by decide +kernel, by decide +kernel⟩
def LcX1_addNumber : List (List Nat) := [[27, 16, 10, 161, 0, 17, 42, 16, 48, 27, 16, 10, 108, 16, 10, 112], [96, 182, 0, 25, 42, 16, 48, 27, 16, 10, 112, 96, 182, 0, 25, 177]]
theorem fcX1_addNumber : fd_C cX1_addNumber LcX1_addNumber := ⟨by decide +kernel, by decide +kernel⟩
def LcX1_addName : List (List Nat) := [[3, 61, 28, 16, 6, 162, 0, 27, 27, 28, 184, 0, 29, 62, 29, 158], [0, 11, 42, 16, 96, 29, 96, 182, 0, 25, 132, 2, 1, 167, 255, 229], [177]]
theorem fcX1_addName : fd_C cX1_addName LcX1_addName := ⟨by decide +kernel, by decide +kernel⟩
def LcX1_byteAt : List (List Nat) := [[27, 155, 0, 29, 27, 42, 180, 0, 21, 162, 0, 21, 27, 42, 180, 0], [15, 190, 162, 0, 12, 42, 180, 0, 15, 27, 46, 167, 0, 4, 2, 172]]
theorem fcX1_byteAt : fd_C cX1_byteAt LcX1_byteAt := ⟨by decide +kernel, by decide +kernel⟩
def LcX1_checkByte : List (List Nat) := [[17, 0, 199, 61, 3, 62, 29, 27, 162, 0, 33, 29, 42, 180, 0, 15], [190, 162, 0, 24, 8, 28, 104, 42, 180, 0, 15, 29, 46, 96, 17, 0], [251, 112, 61, 132, 3, 1, 167, 255, 224, 28, 172]]
theorem fcX1_checkByte : fd_C cX1_checkByte LcX1_checkByte := ⟨by decide +kernel, by decide +kernel⟩
def LcX2_init : List (List Nat) := [[42, 183, 0, 3, 42, 27, 3, 184, 0, 9, 188, 10, 181, 0, 15, 42], [27, 3, 184, 0, 9, 188, 10, 181, 0, 21, 42, 44, 181, 0, 24, 177]]
theorem fcX2_init : fd_C cX2_init LcX2_init := ⟨by decide +kernel, by decide +kernel⟩
def LcX2_begin : List (List Nat) := [[42, 3, 181, 0, 28, 42, 180, 0, 24, 182, 0, 32, 177]]
theorem fcX2_begin : fd_C cX2_begin LcX2_begin := ⟨by decide +kernel, by decide +kernel⟩
def LcX2_add : List (List Nat) := [[27, 155, 0, 10, 27, 17, 16, 0, 161, 0, 4, 177, 42, 180, 0, 24], [27, 182, 0, 37, 153, 0, 59, 42, 180, 0, 28, 42, 180, 0, 15, 190], [162, 0, 46, 42, 180, 0, 24, 180, 0, 41, 27, 42, 180, 0, 28, 79], [42, 180, 0, 15, 42, 180, 0, 28, 27, 79, 42, 180, 0, 21, 42, 180], [0, 28, 28, 79, 42, 89, 180, 0, 28, 4, 96, 181, 0, 28, 177, 42], [180, 0, 24, 180, 0, 41, 27, 46, 62, 29, 155, 0, 21, 29, 42, 180], [0, 28, 162, 0, 13, 42, 180, 0, 21, 29, 92, 46, 28, 96, 79, 177]]
theorem fcX2_add : fd_C cX2_add LcX2_add := ⟨by decide +kernel, by decide +kernel⟩
def LcX2_addParts : List (List Nat) := [[3, 62, 29, 43, 180, 0, 28, 162, 0, 27, 42, 43, 180, 0, 15, 29], [46, 28, 126, 43, 180, 0, 21, 29, 46, 182, 0, 44, 132, 3, 1, 167], [255, 227, 177]]
theorem fcX2_addParts : fd_C cX2_addParts LcX2_addParts := ⟨by decide +kernel, by decide +kernel⟩
def LcX2_addProducts : List (List Nat) := [[3, 62, 29, 43, 180, 0, 28, 162, 0, 59, 3, 54, 4, 21, 4, 44], [180, 0, 28, 162, 0, 41, 42, 43, 180, 0, 15, 29, 46, 44, 180, 0], [15, 21, 4, 46, 126, 43, 180, 0, 21, 29, 46, 44, 180, 0, 21, 21], [4, 46, 104, 182, 0, 44, 132, 4, 1, 167, 255, 212, 132, 3, 1, 167], [255, 195, 177]]
theorem fcX2_addProducts : fd_C cX2_addProducts LcX2_addProducts := ⟨by decide +kernel, by decide +kernel⟩
def LcX2_copy : List (List Nat) := [[42, 43, 180, 0, 28, 42, 180, 0, 15, 190, 184, 0, 48, 181, 0, 28], [3, 61, 28, 42, 180, 0, 28, 162, 0, 33, 42, 180, 0, 15, 28, 43], [180, 0, 15, 28, 46, 79, 42, 180, 0, 21, 28, 43, 180, 0, 21, 28], [46, 79, 132, 2, 1, 167, 255, 221, 177]]
theorem fcX2_copy : fd_C cX2_copy LcX2_copy := ⟨by decide +kernel, by decide +kernel⟩
def LcX3_init : List (List Nat) := [[42, 183, 0, 3, 42, 7, 188, 10, 181, 0, 9, 42, 7, 188, 10, 181], [0, 15, 42, 7, 188, 10, 181, 0, 18, 42, 7, 188, 10, 181, 0, 21], [42, 16, 24, 188, 10, 181, 0, 24, 42, 16, 24, 188, 10, 181, 0, 27], [42, 16, 24, 188, 10, 181, 0, 30, 42, 16, 24, 188, 10, 181, 0, 33], [42, 16, 24, 188, 10, 181, 0, 36, 177]]
theorem fcX3_init : fd_C cX3_init LcX3_init := ⟨by decide +kernel, by decide +kernel⟩
def LcX3_clear : List (List Nat) := [[42, 3, 181, 0, 39, 42, 3, 181, 0, 43, 177]]
theorem fcX3_clear : fd_C cX3_clear LcX3_clear := ⟨by decide +kernel, by decide +kernel⟩
def LcX3_isKind : List (List Nat) := [[27, 155, 0, 15, 27, 42, 180, 0, 39, 162, 0, 7, 4, 167, 0, 4], [3, 172]]
theorem fcX3_isKind : fd_C cX3_isKind LcX3_isKind := ⟨by decide +kernel, by decide +kernel⟩
def LcX3_isCon : List (List Nat) := [[27, 155, 0, 15, 27, 42, 180, 0, 43, 162, 0, 7, 4, 167, 0, 4], [3, 172]]
theorem fcX3_isCon : fd_C cX3_isCon LcX3_isCon := ⟨by decide +kernel, by decide +kernel⟩
def LcX3_sizeOf : List (List Nat) := [[27, 2, 160, 0, 6, 16, 20, 172, 27, 155, 0, 20, 27, 42, 180, 0], [39, 162, 0, 12, 42, 180, 0, 21, 27, 46, 167, 0, 4, 3, 172]]
theorem fcX3_sizeOf : fd_C cX3_sizeOf LcX3_sizeOf := ⟨by decide +kernel, by decide +kernel⟩
def LcX3_consOf : List (List Nat) := [[42, 27, 182, 0, 46, 153, 0, 12, 42, 180, 0, 18, 27, 46, 167, 0], [4, 3, 172]]
theorem fcX3_consOf : fd_C cX3_consOf LcX3_consOf := ⟨by decide +kernel, by decide +kernel⟩
def LcX3_kindNamed : List (List Nat) := [[3, 61, 28, 42, 180, 0, 39, 162, 0, 21, 42, 180, 0, 9, 28, 46], [27, 160, 0, 5, 28, 172, 132, 2, 1, 167, 255, 233, 2, 172]]
theorem fcX3_kindNamed : fd_C cX3_kindNamed LcX3_kindNamed := ⟨by decide +kernel, by decide +kernel⟩
def LcX3_conNamed : List (List Nat) := [[3, 61, 28, 42, 180, 0, 43, 162, 0, 21, 42, 180, 0, 24, 28, 46], [27, 160, 0, 5, 28, 172, 132, 2, 1, 167, 255, 233, 2, 172]]
theorem fcX3_conNamed : fd_C cX3_conNamed LcX3_conNamed := ⟨by decide +kernel, by decide +kernel⟩
def LcX3_conNamedOf : List (List Nat) := [[42, 28, 182, 0, 50, 62, 29, 2, 159, 0, 11, 42, 27, 182, 0, 46], [154, 0, 5, 2, 172, 42, 180, 0, 15, 27, 46, 54, 4, 29, 21, 4], [161, 0, 20, 29, 21, 4, 42, 180, 0, 18, 27, 46, 96, 162, 0, 7], [29, 167, 0, 4, 2, 172]]
theorem fcX3_conNamedOf : fd_C cX3_conNamedOf LcX3_conNamedOf := ⟨by decide +kernel, by decide +kernel⟩
def LcX3_conOf : List (List Nat) := [[42, 27, 182, 0, 46, 154, 0, 5, 2, 172, 2, 62, 3, 54, 4, 21], [4, 42, 180, 0, 18, 27, 46, 162, 0, 43, 42, 180, 0, 15, 27, 46], [21, 4, 96, 54, 5, 42, 21, 5, 182, 0, 54, 153, 0, 17, 42, 180], [0, 27, 21, 5, 46, 28, 163, 0, 6, 21, 5, 62, 132, 4, 1, 167], [255, 208, 29, 172]]
theorem fcX3_conOf : fd_C cX3_conOf LcX3_conOf := ⟨by decide +kernel, by decide +kernel⟩
def LcX3_secondSize : List (List Nat) := [[42, 27, 182, 0, 54, 153, 0, 26, 42, 180, 0, 30, 27, 46, 5, 160], [0, 16, 42, 42, 180, 0, 36, 27, 46, 182, 0, 57, 167, 0, 4, 4], [172]]
theorem fcX3_secondSize : fd_C cX3_secondSize LcX3_secondSize := ⟨by decide +kernel, by decide +kernel⟩
def LcX3_addKind : List (List Nat) := [[42, 180, 0, 39, 7, 162, 0, 56, 42, 180, 0, 9, 42, 180, 0, 39], [27, 79, 42, 180, 0, 15, 42, 180, 0, 39, 42, 180, 0, 43, 79, 42], [180, 0, 18, 42, 180, 0, 39, 3, 79, 42, 180, 0, 21, 42, 180, 0], [39, 3, 79, 42, 89, 180, 0, 39, 4, 96, 181, 0, 39, 177]]
theorem fcX3_addKind : fd_C cX3_addKind LcX3_addKind := ⟨by decide +kernel, by decide +kernel⟩
def LcX3_addCon : List (List Nat) := [[42, 180, 0, 39, 4, 100, 54, 6, 42, 21, 6, 182, 0, 46, 153, 0], [117, 42, 180, 0, 18, 21, 6, 46, 16, 6, 162, 0, 105, 42, 180, 0], [43, 42, 180, 0, 24, 190, 162, 0, 93, 42, 180, 0, 24, 42, 180, 0], [43, 27, 79, 42, 180, 0, 27, 42, 180, 0, 43, 42, 180, 0, 21, 21], [6, 46, 79, 42, 180, 0, 30, 42, 180, 0, 43, 28, 79, 42, 180, 0], [33, 42, 180, 0, 43, 29, 79, 42, 180, 0, 36, 42, 180, 0, 43, 21], [4, 79, 42, 89, 180, 0, 43, 4, 96, 181, 0, 43, 42, 180, 0, 18], [21, 6, 92, 46, 4, 96, 79, 42, 180, 0, 21, 21, 6, 92, 46, 21], [5, 96, 79, 177]]
theorem fcX3_addCon : fd_C cX3_addCon LcX3_addCon := ⟨by decide +kernel, by decide +kernel⟩
def LcX4_init : List (List Nat) := [[42, 183, 0, 3, 42, 17, 16, 0, 188, 10, 181, 0, 9, 42, 17, 16], [0, 188, 10, 181, 0, 15, 177]]
theorem fcX4_init : fd_C cX4_init LcX4_init := ⟨by decide +kernel, by decide +kernel⟩
def LcX4_renew : List (List Nat) := [[42, 89, 180, 0, 18, 4, 96, 181, 0, 18, 177]]
theorem fcX4_renew : fd_C cX4_renew LcX4_renew := ⟨by decide +kernel, by decide +kernel⟩
def LcX4_isNew : List (List Nat) := [[27, 155, 0, 23, 27, 17, 16, 0, 162, 0, 16, 42, 180, 0, 9, 27], [46, 42, 180, 0, 18, 160, 0, 5, 3, 172, 42, 180, 0, 9, 27, 42], [180, 0, 18, 79, 4, 172]]
theorem fcX4_isNew : fd_C cX4_isNew LcX4_isNew := ⟨by decide +kernel, by decide +kernel⟩
def LcX5_init : List (List Nat) := [[42, 183, 0, 3, 42, 16, 12, 188, 10, 181, 0, 9, 177]]
theorem fcX5_init : fd_C cX5_init LcX5_init := ⟨by decide +kernel, by decide +kernel⟩
def LcX5_begin : List (List Nat) := [[42, 3, 27, 16, 12, 184, 0, 15, 184, 0, 21, 181, 0, 24, 3, 62], [29, 42, 180, 0, 24, 162, 0, 16, 42, 180, 0, 9, 29, 29, 79, 132], [3, 1, 167, 255, 238, 42, 17, 0, 255, 181, 0, 28, 42, 28, 181, 0], [31, 177]]
theorem fcX5_begin : fd_C cX5_begin LcX5_begin := ⟨by decide +kernel, by decide +kernel⟩
def LcX5_copy : List (List Nat) := [[3, 61, 28, 16, 12, 162, 0, 21, 42, 180, 0, 9, 28, 43, 180, 0], [9, 28, 46, 79, 132, 2, 1, 167, 255, 235, 42, 43, 180, 0, 24, 181], [0, 24, 42, 43, 180, 0, 28, 181, 0, 28, 42, 43, 180, 0, 31, 181], [0, 31, 177]]
theorem fcX5_copy : fd_C cX5_copy LcX5_copy := ⟨by decide +kernel, by decide +kernel⟩
def LcX5_isPlace : List (List Nat) := [[27, 155, 0, 15, 27, 42, 180, 0, 24, 162, 0, 7, 4, 167, 0, 4], [3, 172]]
theorem fcX5_isPlace : fd_C cX5_isPlace LcX5_isPlace := ⟨by decide +kernel, by decide +kernel⟩
def LcX5_armAt : List (List Nat) := [[42, 27, 182, 0, 34, 153, 0, 12, 42, 180, 0, 9, 27, 46, 167, 0], [4, 2, 172]]
theorem fcX5_armAt : fd_C cX5_armAt LcX5_armAt := ⟨by decide +kernel, by decide +kernel⟩
def LcX5_exchange : List (List Nat) := [[42, 27, 182, 0, 34, 153, 0, 37, 42, 28, 182, 0, 34, 153, 0, 29], [42, 180, 0, 9, 27, 46, 62, 42, 180, 0, 9, 27, 42, 180, 0, 9], [28, 46, 79, 42, 180, 0, 9, 28, 29, 79, 177]]
theorem fcX5_exchange : fd_C cX5_exchange LcX5_exchange := ⟨by decide +kernel, by decide +kernel⟩
def LcX5_takeOut : List (List Nat) := [[42, 27, 182, 0, 34, 153, 0, 45, 27, 61, 28, 4, 96, 42, 180, 0], [24, 162, 0, 23, 42, 180, 0, 9, 28, 42, 180, 0, 9, 28, 4, 96], [46, 79, 132, 2, 1, 167, 255, 229, 42, 89, 180, 0, 24, 4, 100, 181], [0, 24, 177]]
theorem fcX5_takeOut : fd_C cX5_takeOut LcX5_takeOut := ⟨by decide +kernel, by decide +kernel⟩
def LcX5_allArms : List (List Nat) := [[3, 60, 3, 61, 28, 42, 180, 0, 24, 162, 0, 20, 27, 4, 42, 180], [0, 9, 28, 46, 120, 128, 60, 132, 2, 1, 167, 255, 234, 27, 172]]
theorem fcX5_allArms : fd_C cX5_allArms LcX5_allArms := ⟨by decide +kernel, by decide +kernel⟩
def LcX5_firstOf : List (List Nat) := [[3, 61, 28, 42, 180, 0, 24, 162, 0, 29, 27, 42, 180, 0, 9, 28], [46, 184, 0, 38, 153, 0, 10, 42, 180, 0, 9, 28, 46, 172, 132, 2], [1, 167, 255, 225, 2, 172]]
theorem fcX5_firstOf : fd_C cX5_firstOf LcX5_firstOf := ⟨by decide +kernel, by decide +kernel⟩
def LcX5_unguarded : List (List Nat) := [[3, 62, 3, 54, 4, 21, 4, 28, 162, 0, 45, 21, 4, 42, 180, 0], [24, 162, 0, 36, 43, 42, 180, 0, 9, 21, 4, 46, 182, 0, 42, 2], [160, 0, 15, 29, 4, 42, 180, 0, 9, 21, 4, 46, 120, 128, 62, 132], [4, 1, 167, 255, 211, 29, 172]]
theorem fcX5_unguarded : fd_C cX5_unguarded LcX5_unguarded := ⟨by decide +kernel, by decide +kernel⟩
def LcX5_placeTaking : List (List Nat) := [[3, 54, 4, 21, 4, 42, 180, 0, 24, 162, 0, 54, 28, 42, 180, 0], [9, 21, 4, 46, 184, 0, 38, 153, 0, 34, 43, 42, 180, 0, 9, 21], [4, 46, 182, 0, 42, 54, 5, 21, 5, 2, 159, 0, 12, 29, 21, 5], [184, 0, 38, 153, 0, 6, 21, 4, 172, 132, 4, 1, 167, 255, 199, 2], [172]]
theorem fcX5_placeTaking : fd_C cX5_placeTaking LcX5_placeTaking := ⟨by decide +kernel, by decide +kernel⟩
def LcX5_takings : List (List Nat) := [[9, 66, 3, 54, 5, 3, 54, 6, 21, 6, 42, 180, 0, 24, 162, 0], [83, 42, 180, 0, 9, 21, 6, 46, 54, 7, 43, 21, 7, 182, 0, 42], [54, 8, 28, 21, 7, 184, 0, 38, 153, 0, 51, 21, 8, 2, 159, 0], [16, 21, 5, 21, 8, 184, 0, 38, 153, 0, 6, 167, 0, 32, 33, 20], [0, 48, 105, 21, 7, 133, 97, 10, 97, 66, 21, 8, 2, 160, 0, 5], [33, 173, 21, 5, 4, 21, 8, 120, 128, 54, 5, 132, 6, 1, 167, 255], [170, 33, 173]]
theorem fcX5_takings : fd_C cX5_takings LcX5_takings := ⟨by decide +kernel, by decide +kernel⟩
def LcX6_init : List (List Nat) := [[42, 183, 0, 3, 42, 187, 0, 9, 89, 183, 0, 11, 181, 0, 12, 42], [16, 10, 17, 8, 0, 197, 0, 18, 2, 181, 0, 20, 42, 2, 181, 0], [23, 42, 43, 181, 0, 27, 177]]
theorem fcX6_init : fd_C cX6_init LcX6_init := ⟨by decide +kernel, by decide +kernel⟩
def LcX6_readMatch : List (List Nat) := [[42, 44, 181, 0, 27, 42, 180, 0, 27, 182, 0, 31, 42, 43, 182, 0], [36, 3, 62, 42, 180, 0, 12, 180, 0, 40, 153, 0, 140, 29, 16, 60], [162, 0, 134, 42, 180, 0, 12, 180, 0, 43, 170, 0, 0, 0, 0, 96], [0, 0, 0, 0, 0, 0, 0, 6, 0, 0, 0, 42, 0, 0, 0, 51], [0, 0, 0, 60, 0, 0, 0, 69, 0, 0, 0, 96, 0, 0, 0, 78], [0, 0, 0, 87, 42, 182, 0, 46, 54, 4, 167, 0, 54, 42, 182, 0], [50, 54, 4, 167, 0, 45, 42, 182, 0, 53, 54, 4, 167, 0, 36, 42], [182, 0, 56, 54, 4, 167, 0, 27, 42, 182, 0, 59, 54, 4, 167, 0], [18, 42, 182, 0, 62, 54, 4, 167, 0, 9, 42, 182, 0, 65, 54, 4], [21, 4, 153, 0, 12, 42, 16, 59, 182, 0, 68, 154, 0, 5, 2, 172], [132, 3, 1, 167, 255, 112, 42, 180, 0, 12, 180, 0, 40, 153, 0, 19], [42, 16, 6, 42, 180, 0, 12, 180, 0, 72, 182, 0, 75, 87, 2, 172], [42, 180, 0, 27, 180, 0, 79, 154, 0, 10, 42, 182, 0, 65, 87, 2], [172, 29, 172]]
theorem fcX6_readMatch : fd_C cX6_readMatch LcX6_readMatch := ⟨by decide +kernel, by decide +kernel⟩
def LcX6_begin : List (List Nat) := [[42, 3, 181, 0, 82, 42, 2, 181, 0, 23, 42, 180, 0, 12, 43, 182], [0, 85, 177]]
theorem fcX6_begin : fd_C cX6_begin LcX6_begin := ⟨by decide +kernel, by decide +kernel⟩
def LcX6_fail : List (List Nat) := [[42, 27, 181, 0, 82, 42, 28, 181, 0, 23, 3, 172]]
theorem fcX6_fail : fd_C cX6_fail LcX6_fail := ⟨by decide +kernel, by decide +kernel⟩
def LcX6_failHere : List (List Nat) := [[42, 4, 181, 0, 82, 42, 42, 180, 0, 12, 180, 0, 40, 7, 160, 0], [13, 42, 180, 0, 12, 180, 0, 86, 167, 0, 10, 42, 180, 0, 12, 180], [0, 72, 181, 0, 23, 3, 172]]
theorem fcX6_failHere : fd_C cX6_failHere LcX6_failHere := ⟨by decide +kernel, by decide +kernel⟩
def LcX6_readSign : List (List Nat) := [[42, 180, 0, 12, 27, 182, 0, 89, 154, 0, 8, 42, 182, 0, 65, 172], [42, 180, 0, 12, 182, 0, 92, 4, 172]]
theorem fcX6_readSign : fd_C cX6_readSign LcX6_readSign := ⟨by decide +kernel, by decide +kernel⟩
def LcX6_readNumber : List (List Nat) := [[42, 180, 0, 12, 180, 0, 40, 5, 159, 0, 10, 42, 182, 0, 65, 87], [2, 172, 42, 180, 0, 12, 180, 0, 95, 62, 29, 27, 161, 0, 8, 29], [28, 164, 0, 18, 42, 7, 42, 180, 0, 12, 180, 0, 72, 182, 0, 75], [87, 2, 172, 42, 180, 0, 12, 182, 0, 92, 29, 172]]
theorem fcX6_readNumber : fd_C cX6_readNumber LcX6_readNumber := ⟨by decide +kernel, by decide +kernel⟩
def LcX6_readRule : List (List Nat) := [[42, 180, 0, 12, 182, 0, 92, 42, 180, 0, 27, 42, 3, 6, 182, 0], [98, 181, 0, 102, 42, 180, 0, 27, 180, 0, 102, 2, 159, 0, 7, 4], [167, 0, 4, 3, 172]]
theorem fcX6_readRule : fd_C cX6_readRule LcX6_readRule := ⟨by decide +kernel, by decide +kernel⟩
def LcX6_readBudget : List (List Nat) := [[42, 180, 0, 12, 182, 0, 92, 42, 180, 0, 27, 42, 4, 17, 3, 231], [182, 0, 98, 181, 0, 105, 42, 180, 0, 27, 180, 0, 105, 2, 159, 0], [7, 4, 167, 0, 4, 3, 172]]
theorem fcX6_readBudget : fd_C cX6_readBudget LcX6_readBudget := ⟨by decide +kernel, by decide +kernel⟩
def LcX6_readKind : List (List Nat) := [[42, 180, 0, 27, 180, 0, 79, 158, 0, 8, 42, 182, 0, 65, 172, 42], [180, 0, 27, 180, 0, 108, 180, 0, 112, 7, 161, 0, 17, 42, 16, 6], [42, 180, 0, 12, 180, 0, 72, 182, 0, 75, 172, 42, 180, 0, 12, 182], [0, 92, 42, 182, 0, 116, 154, 0, 5, 3, 172, 42, 180, 0, 27, 180], [0, 108, 42, 180, 0, 12, 180, 0, 95, 182, 0, 119, 42, 180, 0, 12], [182, 0, 92, 4, 172]]
theorem fcX6_readKind : fd_C cX6_readKind LcX6_readKind := ⟨by decide +kernel, by decide +kernel⟩
def LcX6_isNewName : List (List Nat) := [[42, 180, 0, 12, 182, 0, 123, 154, 0, 8, 42, 182, 0, 65, 172, 42], [180, 0, 27, 180, 0, 108, 76, 43, 42, 180, 0, 12, 180, 0, 95, 182], [0, 126, 2, 160, 0, 18, 43, 42, 180, 0, 12, 180, 0, 95, 182, 0], [130, 2, 159, 0, 16, 42, 5, 42, 180, 0, 12, 180, 0, 72, 182, 0], [75, 172, 4, 172]]
theorem fcX6_isNewName : fd_C cX6_isNewName LcX6_isNewName := ⟨by decide +kernel, by decide +kernel⟩
def LcX6_readCon : List (List Nat) := [[42, 180, 0, 27, 180, 0, 108, 76, 43, 180, 0, 112, 4, 100, 61, 42], [180, 0, 27, 180, 0, 79, 157, 0, 7, 28, 156, 0, 8, 42, 182, 0], [65, 172, 43, 28, 182, 0, 133, 16, 6, 161, 0, 17, 42, 16, 6, 42], [180, 0, 12, 180, 0, 72, 182, 0, 75, 172, 42, 180, 0, 12, 182, 0], [92, 42, 182, 0, 116, 154, 0, 5, 3, 172, 42, 180, 0, 12, 180, 0], [95, 62, 3, 54, 4, 2, 54, 5, 2, 54, 6, 4, 54, 7, 42, 180], [0, 12, 182, 0, 92, 42, 182, 0, 136, 153, 0, 123, 21, 4, 5, 163], [0, 117, 21, 4, 5, 160, 0, 17, 42, 16, 6, 42, 180, 0, 12, 180], [0, 72, 182, 0, 75, 172, 42, 28, 182, 0, 139, 154, 0, 16, 42, 6], [42, 180, 0, 12, 180, 0, 72, 182, 0, 75, 172, 42, 182, 0, 142, 54], [8, 21, 7, 43, 21, 8, 182, 0, 146, 104, 54, 7, 43, 28, 182, 0], [146, 21, 7, 96, 17, 7, 208, 164, 0, 16, 42, 7, 42, 180, 0, 12], [180, 0, 72, 182, 0, 75, 172, 21, 4, 154, 0, 10, 21, 8, 54, 5], [167, 0, 7, 21, 8, 54, 6, 132, 4, 1, 42, 180, 0, 12, 182, 0], [92, 167, 255, 132, 43, 29, 21, 4, 21, 5, 21, 6, 21, 7, 182, 0], [149, 4, 172]]
theorem fcX6_readCon : fd_C cX6_readCon LcX6_readCon := ⟨by decide +kernel, by decide +kernel⟩
def LcX6_isKindWord : List (List Nat) := [[42, 180, 0, 12, 182, 0, 123, 154, 0, 15, 42, 180, 0, 12, 180, 0], [43, 16, 7, 160, 0, 7, 4, 167, 0, 4, 3, 172]]
theorem fcX6_isKindWord : fd_C cX6_isKindWord LcX6_isKindWord := ⟨by decide +kernel, by decide +kernel⟩
def LcX6_kindHere : List (List Nat) := [[42, 180, 0, 12, 180, 0, 43, 16, 7, 160, 0, 7, 2, 167, 0, 20], [42, 180, 0, 27, 180, 0, 108, 42, 180, 0, 12, 180, 0, 95, 182, 0], [126, 172]]
theorem fcX6_kindHere : fd_C cX6_kindHere LcX6_kindHere := ⟨by decide +kernel, by decide +kernel⟩
def LcX6_isKindHere : List (List Nat) := [[42, 180, 0, 12, 180, 0, 43, 16, 7, 160, 0, 5, 4, 172, 42, 182], [0, 142, 61, 28, 2, 159, 0, 26, 28, 27, 159, 0, 21, 42, 180, 0], [27, 180, 0, 108, 28, 182, 0, 133, 158, 0, 7, 4, 167, 0, 4, 3], [172]]
theorem fcX6_isKindHere : fd_C cX6_isKindHere LcX6_isKindHere := ⟨by decide +kernel, by decide +kernel⟩
def LcX6_readColumns : List (List Nat) := [[42, 180, 0, 27, 180, 0, 79, 158, 0, 17, 42, 16, 6, 42, 180, 0], [12, 180, 0, 72, 182, 0, 75, 172, 42, 180, 0, 12, 182, 0, 92, 42], [182, 0, 136, 154, 0, 8, 42, 182, 0, 65, 172, 4, 60, 3, 61, 28], [7, 163, 0, 110, 42, 182, 0, 136, 153, 0, 103, 28, 7, 160, 0, 17], [42, 16, 6, 42, 180, 0, 12, 180, 0, 72, 182, 0, 75, 172, 42, 2], [182, 0, 139, 154, 0, 16, 42, 6, 42, 180, 0, 12, 180, 0, 72, 182], [0, 75, 172, 42, 182, 0, 142, 62, 27, 42, 180, 0, 27, 180, 0, 108], [29, 182, 0, 146, 104, 60, 27, 17, 78, 32, 164, 0, 16, 42, 7, 42], [180, 0, 12, 180, 0, 72, 182, 0, 75, 172, 42, 180, 0, 27, 29, 182], [0, 153, 42, 180, 0, 12, 182, 0, 92, 132, 2, 1, 167, 255, 147, 4], [172]]
theorem fcX6_readColumns : fd_C cX6_readColumns LcX6_readColumns := ⟨by decide +kernel, by decide +kernel⟩
def LcX6_readArm : List (List Nat) := [[42, 180, 0, 27, 180, 0, 79, 154, 0, 8, 42, 182, 0, 65, 172, 42], [180, 0, 27, 180, 0, 156, 16, 12, 161, 0, 17, 42, 16, 6, 42, 180], [0, 12, 180, 0, 72, 182, 0, 75, 172, 42, 180, 0, 12, 182, 0, 92], [3, 60, 27, 42, 180, 0, 27, 180, 0, 79, 162, 0, 58, 27, 158, 0], [14, 42, 16, 44, 182, 0, 68, 154, 0, 5, 3, 172, 42, 42, 180, 0], [27, 180, 0, 159, 27, 46, 3, 3, 184, 0, 163, 154, 0, 5, 3, 172], [42, 180, 0, 27, 27, 42, 180, 0, 20, 3, 50, 182, 0, 167, 132, 1], [1, 167, 255, 193, 2, 60, 42, 180, 0, 12, 180, 0, 43, 7, 160, 0], [25, 42, 180, 0, 12, 182, 0, 92, 42, 3, 16, 7, 182, 0, 98, 60], [27, 2, 160, 0, 5, 3, 172, 42, 180, 0, 27, 27, 182, 0, 171, 4], [172]]
theorem fcX6_readArm : fd_C cX6_readArm LcX6_readArm := ⟨by decide +kernel, by decide +kernel⟩
def LcX6_readPattern : List (List Nat) := [[29, 7, 163, 0, 16, 28, 155, 0, 12, 28, 42, 180, 0, 20, 190, 161], [0, 8, 42, 182, 0, 65, 172, 42, 180, 0, 20, 28, 50, 3, 42, 180], [0, 27, 180, 0, 108, 27, 182, 0, 146, 4, 100, 3, 184, 0, 174, 3], [54, 4, 21, 4, 17, 6, 64, 163, 0, 59, 27, 2, 160, 0, 11, 42], [28, 182, 0, 178, 167, 0, 10, 42, 27, 28, 29, 184, 0, 181, 54, 5], [21, 5, 154, 0, 5, 3, 172, 42, 180, 0, 12, 180, 0, 43, 16, 9], [159, 0, 5, 4, 172, 42, 180, 0, 12, 182, 0, 92, 132, 4, 1, 167], [255, 195, 42, 182, 0, 65, 172]]
theorem fcX6_readPattern : fd_C cX6_readPattern LcX6_readPattern := ⟨by decide +kernel, by decide +kernel⟩
def LcX6_readRange : List (List Nat) := [[42, 180, 0, 12, 180, 0, 43, 16, 8, 160, 0, 25, 42, 180, 0, 20], [27, 50, 3, 16, 19, 4, 184, 0, 174, 42, 180, 0, 12, 182, 0, 92], [4, 172, 42, 3, 16, 19, 182, 0, 98, 61, 28, 2, 160, 0, 5, 3], [172, 28, 62, 42, 180, 0, 12, 180, 0, 43, 16, 10, 160, 0, 25, 42], [180, 0, 12, 182, 0, 92, 42, 28, 16, 19, 182, 0, 98, 62, 29, 2], [160, 0, 5, 3, 172, 42, 180, 0, 20, 27, 50, 28, 29, 4, 184, 0], [174, 4, 172]]
theorem fcX6_readRange : fd_C cX6_readRange LcX6_readRange := ⟨by decide +kernel, by decide +kernel⟩
def LcX6_readCase : List (List Nat) := [[42, 180, 0, 27, 180, 0, 108, 58, 4, 42, 180, 0, 12, 180, 0, 43], [16, 8, 160, 0, 31, 42, 180, 0, 20, 28, 50, 3, 25, 4, 27, 182], [0, 146, 4, 100, 4, 184, 0, 174, 42, 180, 0, 12, 182, 0, 92, 4], [172, 42, 27, 182, 0, 184, 54, 5, 21, 5, 2, 160, 0, 5, 3, 172], [25, 4, 180, 0, 187, 21, 5, 46, 154, 0, 31, 42, 180, 0, 20, 28], [50, 25, 4, 180, 0, 190, 21, 5, 46, 25, 4, 180, 0, 190, 21, 5], [46, 4, 184, 0, 174, 4, 172, 5, 29, 4, 96, 104, 54, 6, 42, 16], [40, 182, 0, 68, 153, 0, 23, 42, 25, 4, 180, 0, 193, 21, 5, 46], [21, 6, 29, 4, 96, 184, 0, 163, 154, 0, 5, 3, 172, 25, 4, 180], [0, 187, 21, 5, 46, 5, 160, 0, 36, 42, 16, 44, 182, 0, 68, 153], [0, 25, 42, 25, 4, 180, 0, 196, 21, 5, 46, 21, 6, 4, 96, 29], [4, 96, 184, 0, 163, 154, 0, 5, 3, 172, 42, 21, 5, 28, 21, 6], [182, 0, 199, 42, 16, 41, 182, 0, 68, 172]]
theorem fcX6_readCase : fd_C cX6_readCase LcX6_readCase := ⟨by decide +kernel, by decide +kernel⟩
def LcX6_readConName : List (List Nat) := [[42, 180, 0, 12, 182, 0, 123, 154, 0, 10, 42, 182, 0, 65, 87, 2], [172, 42, 180, 0, 27, 180, 0, 108, 27, 42, 180, 0, 12, 180, 0, 95], [182, 0, 203, 61, 28, 2, 160, 0, 18, 42, 6, 42, 180, 0, 12, 180], [0, 72, 182, 0, 75, 87, 2, 172, 42, 180, 0, 12, 182, 0, 92, 28], [172]]
theorem fcX6_readConName : fd_C cX6_readConName LcX6_readConName := ⟨by decide +kernel, by decide +kernel⟩
def LcX6_fillCase : List (List Nat) := [[29, 155, 0, 14, 29, 4, 96, 42, 180, 0, 20, 190, 161, 0, 4, 177], [42, 180, 0, 27, 180, 0, 108, 58, 4, 25, 4, 25, 4, 180, 0, 193], [27, 46, 182, 0, 146, 54, 5, 25, 4, 27, 182, 0, 206, 54, 6, 25], [4, 180, 0, 187, 27, 46, 5, 162, 0, 7, 4, 167, 0, 4, 3, 54], [7, 3, 54, 8, 21, 8, 21, 5, 162, 0, 110, 21, 8, 17, 8, 0], [162, 0, 102, 42, 180, 0, 20, 29, 50, 21, 8, 46, 154, 0, 6, 167], [0, 81, 25, 4, 180, 0, 190, 27, 46, 21, 8, 21, 6, 104, 96, 54], [9, 3, 54, 10, 21, 10, 21, 6, 162, 0, 56, 21, 10, 17, 8, 0], [162, 0, 48, 21, 7, 154, 0, 17, 42, 180, 0, 20, 29, 4, 96, 50], [21, 10, 46, 153, 0, 23, 42, 180, 0, 20, 28, 50, 21, 9, 21, 10], [96, 21, 9, 21, 10, 96, 4, 184, 0, 174, 132, 10, 1, 167, 255, 199], [132, 8, 1, 167, 255, 145, 177]]
theorem fcX6_fillCase : fd_C cX6_fillCase LcX6_fillCase := ⟨by decide +kernel, by decide +kernel⟩
def LcX6_fill : List (List Nat) := [[27, 3, 184, 0, 209, 54, 4, 21, 4, 28, 163, 0, 21, 21, 4, 42], [190, 162, 0, 14, 42, 21, 4, 29, 79, 132, 4, 1, 167, 255, 235, 177]]
theorem fcX6_fill : fd_C cX6_fill LcX6_fill := ⟨by decide +kernel, by decide +kernel⟩
def LcX6_readRow : List (List Nat) := [[42, 44, 181, 0, 27, 42, 43, 182, 0, 36, 42, 180, 0, 27, 180, 0], [79, 154, 0, 12, 42, 4, 3, 182, 0, 75, 87, 2, 172, 3, 62, 3], [54, 4, 21, 4, 42, 180, 0, 27, 180, 0, 79, 162, 0, 66, 21, 4], [158, 0, 14, 42, 16, 44, 182, 0, 68, 154, 0, 5, 2, 172, 42, 42], [180, 0, 27, 180, 0, 159, 21, 4, 46, 3, 184, 0, 214, 54, 5, 21], [5, 2, 160, 0, 5, 2, 172, 29, 42, 180, 0, 27, 180, 0, 218, 21], [4, 46, 104, 21, 5, 96, 62, 132, 4, 1, 167, 255, 184, 42, 180, 0], [12, 180, 0, 40, 153, 0, 10, 42, 182, 0, 65, 87, 2, 172, 29, 172]]
theorem fcX6_readRow : fd_C cX6_readRow LcX6_readRow := ⟨by decide +kernel, by decide +kernel⟩
def LcX6_readValue : List (List Nat) := [[27, 2, 160, 0, 11, 42, 3, 16, 19, 182, 0, 98, 172, 28, 7, 164], [0, 7, 2, 167, 0, 8, 42, 27, 182, 0, 184, 62, 29, 2, 160, 0], [5, 2, 172, 42, 180, 0, 27, 180, 0, 108, 58, 4, 25, 4, 180, 0], [187, 29, 46, 154, 0, 11, 25, 4, 180, 0, 190, 29, 46, 172, 42, 16], [40, 182, 0, 68, 153, 0, 20, 42, 25, 4, 180, 0, 193, 29, 46, 28], [4, 96, 184, 0, 214, 167, 0, 4, 2, 54, 5, 21, 5, 2, 160, 0], [5, 2, 172, 3, 54, 6, 25, 4, 180, 0, 187, 29, 46, 5, 160, 0], [32, 42, 16, 44, 182, 0, 68, 153, 0, 20, 42, 25, 4, 180, 0, 196], [29, 46, 28, 4, 96, 184, 0, 214, 167, 0, 4, 2, 54, 6, 21, 6], [2, 159, 0, 12, 42, 16, 41, 182, 0, 68, 154, 0, 5, 2, 172, 25], [4, 180, 0, 190, 29, 46, 21, 5, 25, 4, 29, 182, 0, 206, 104, 96], [21, 6, 96, 172]]
theorem fcX6_readValue : fd_C cX6_readValue LcX6_readValue := ⟨by decide +kernel, by decide +kernel⟩
def LcX7_init : List (List Nat) := [[42, 183, 0, 3, 42, 16, 11, 188, 10, 89, 3, 18, 9, 184, 0, 11], [79, 89, 4, 18, 17, 184, 0, 11, 79, 89, 5, 18, 19, 184, 0, 11], [79, 89, 6, 18, 21, 184, 0, 11, 79, 89, 7, 18, 23, 184, 0, 11], [79, 89, 8, 18, 25, 184, 0, 11, 79, 89, 16, 6, 18, 27, 184, 0], [11, 79, 89, 16, 7, 18, 29, 184, 0, 11, 79, 89, 16, 8, 18, 31], [184, 0, 11, 79, 89, 16, 9, 18, 33, 184, 0, 11, 79, 89, 16, 10], [18, 35, 184, 0, 11, 79, 181, 0, 37, 42, 3, 188, 10, 181, 0, 41], [177]]
theorem fcX7_init : fd_C cX7_init LcX7_init := ⟨by decide +kernel, by decide +kernel⟩
def LcX7_spell : List (List Nat) := [[3, 60, 3, 61, 28, 16, 6, 162, 0, 37, 27, 16, 27, 104, 28, 42], [182, 0, 44, 162, 0, 16, 42, 28, 182, 0, 50, 16, 97, 100, 4, 96], [167, 0, 4, 3, 96, 60, 132, 2, 1, 167, 255, 219, 27, 172]]
theorem fcX7_spell : fd_C cX7_spell LcX7_spell := ⟨by decide +kernel, by decide +kernel⟩
def LcX7_begin : List (List Nat) := [[42, 43, 180, 0, 54, 181, 0, 41, 42, 3, 43, 180, 0, 59, 42, 180], [0, 41, 190, 184, 0, 62, 184, 0, 68, 181, 0, 71, 42, 3, 181, 0], [72, 42, 3, 181, 0, 75, 42, 182, 0, 78, 177]]
theorem fcX7_begin : fd_C cX7_begin LcX7_begin := ⟨by decide +kernel, by decide +kernel⟩
def LcX7_step : List (List Nat) := [[42, 180, 0, 75, 4, 159, 0, 11, 42, 180, 0, 75, 5, 160, 0, 7], [4, 167, 0, 4, 3, 60, 42, 180, 0, 72, 61, 42, 180, 0, 72, 155], [0, 55, 42, 180, 0, 72, 42, 180, 0, 71, 162, 0, 44, 42, 180, 0], [41, 42, 180, 0, 72, 46, 16, 32, 159, 0, 17, 42, 180, 0, 41, 42], [180, 0, 72, 46, 16, 10, 160, 0, 16, 42, 89, 180, 0, 72, 4, 96], [181, 0, 72, 167, 255, 200, 42, 42, 180, 0, 72, 181, 0, 81, 42, 42], [180, 0, 72, 181, 0, 84, 42, 2, 181, 0, 87, 42, 3, 181, 0, 90], [42, 180, 0, 72, 155, 0, 14, 42, 180, 0, 72, 42, 180, 0, 71, 161], [0, 9, 42, 3, 181, 0, 75, 177, 42, 180, 0, 41, 42, 180, 0, 72], [46, 62, 29, 16, 97, 161, 0, 13, 29, 16, 122, 163, 0, 7, 4, 167], [0, 4, 3, 54, 4, 29, 16, 48, 161, 0, 13, 29, 16, 57, 163, 0], [7, 4, 167, 0, 4, 3, 54, 5, 21, 4, 154, 0, 31, 21, 5, 154], [0, 26, 42, 6, 181, 0, 75, 42, 29, 181, 0, 90, 42, 89, 180, 0], [72, 4, 96, 181, 0, 72, 167, 0, 39, 27, 153, 0, 19, 28, 42, 180], [0, 81, 160, 0, 11, 42, 7, 181, 0, 75, 167, 0, 19, 21, 4, 153], [0, 10, 42, 182, 0, 93, 167, 0, 7, 42, 182, 0, 96, 177]]
theorem fcX7_step : fd_C cX7_step LcX7_step := ⟨by decide +kernel, by decide +kernel⟩
def LcX7_stepWord : List (List Nat) := [[42, 4, 181, 0, 75, 3, 60, 42, 180, 0, 72, 155, 0, 104, 42, 180], [0, 72, 42, 180, 0, 71, 162, 0, 93, 42, 180, 0, 41, 42, 180, 0], [72, 46, 16, 97, 161, 0, 79, 42, 180, 0, 41, 42, 180, 0, 72, 46], [16, 122, 163, 0, 65, 27, 16, 6, 160, 0, 17, 42, 7, 181, 0, 75], [42, 42, 180, 0, 72, 181, 0, 84, 177, 42, 42, 180, 0, 90, 16, 27], [104, 42, 180, 0, 41, 42, 180, 0, 72, 46, 96, 16, 97, 100, 4, 96], [181, 0, 90, 132, 1, 1, 42, 89, 180, 0, 72, 4, 96, 181, 0, 72], [167, 255, 151, 27, 61, 28, 16, 6, 162, 0, 20, 42, 89, 180, 0, 90], [16, 27, 104, 181, 0, 90, 132, 2, 1, 167, 255, 236, 3, 61, 28, 42], [180, 0, 37, 190, 162, 0, 27, 42, 180, 0, 37, 28, 46, 42, 180, 0], [90, 160, 0, 8, 42, 28, 181, 0, 87, 132, 2, 1, 167, 255, 226, 177]]
theorem fcX7_stepWord : fd_C cX7_stepWord LcX7_stepWord := ⟨by decide +kernel, by decide +kernel⟩
def LcX7_stepNumber : List (List Nat) := [[42, 5, 181, 0, 75, 3, 60, 42, 180, 0, 72, 155, 0, 101, 42, 180], [0, 72, 42, 180, 0, 71, 162, 0, 90, 42, 180, 0, 41, 42, 180, 0], [72, 46, 16, 48, 161, 0, 76, 42, 180, 0, 41, 42, 180, 0, 72, 46], [16, 57, 163, 0, 62, 27, 7, 160, 0, 17, 42, 7, 181, 0, 75, 42], [42, 180, 0, 72, 181, 0, 84, 177, 42, 42, 180, 0, 90, 16, 10, 104], [42, 180, 0, 41, 42, 180, 0, 72, 46, 96, 16, 48, 100, 181, 0, 90], [132, 1, 1, 42, 89, 180, 0, 72, 4, 96, 181, 0, 72, 167, 255, 154], [177]]
theorem fcX7_stepNumber : fd_C cX7_stepNumber LcX7_stepNumber := ⟨by decide +kernel, by decide +kernel⟩
def LcX7_isName : List (List Nat) := [[42, 180, 0, 75, 4, 160, 0, 15, 42, 180, 0, 87, 2, 160, 0, 7], [4, 167, 0, 4, 3, 172]]
theorem fcX7_isName : fd_C cX7_isName LcX7_isName := ⟨by decide +kernel, by decide +kernel⟩
def LcX7_isSign : List (List Nat) := [[42, 180, 0, 75, 6, 160, 0, 15, 42, 180, 0, 90, 27, 160, 0, 7], [4, 167, 0, 4, 3, 172]]
theorem fcX7_isSign : fd_C cX7_isSign LcX7_isSign := ⟨by decide +kernel, by decide +kernel⟩
def LcX8_init : List (List Nat) := [[42, 183, 0, 3, 42, 16, 16, 188, 10, 181, 0, 9, 42, 16, 16, 188], [10, 181, 0, 15, 42, 17, 1, 0, 188, 10, 181, 0, 18, 42, 16, 13], [188, 10, 181, 0, 21, 177]]
theorem fcX8_init : fd_C cX8_init LcX8_init := ⟨by decide +kernel, by decide +kernel⟩
def LcX8_read : List (List Nat) := [[43, 180, 0, 24, 6, 108, 54, 4, 21, 4, 4, 161, 0, 21, 21, 4], [16, 16, 163, 0, 14, 43, 180, 0, 24, 6, 21, 4, 104, 159, 0, 5], [3, 172, 3, 54, 5, 21, 5, 21, 4, 162, 0, 53, 43, 6, 21, 5], [104, 5, 96, 182, 0, 30, 54, 6, 44, 43, 21, 5, 184, 0, 34, 182], [0, 38, 153, 0, 20, 21, 6, 17, 0, 255, 159, 0, 14, 45, 21, 6], [182, 0, 44, 154, 0, 5, 3, 172, 132, 5, 1, 167, 255, 202, 42, 21], [4, 181, 0, 49, 3, 54, 5, 21, 5, 21, 4, 162, 0, 43, 42, 180], [0, 9, 21, 5, 43, 21, 5, 184, 0, 34, 79, 42, 180, 0, 15, 21], [5, 45, 43, 6, 21, 5, 104, 5, 96, 182, 0, 30, 182, 0, 52, 79], [132, 5, 1, 167, 255, 212, 4, 172]]
theorem fcX8_read : fd_C cX8_read LcX8_read := ⟨by decide +kernel, by decide +kernel⟩
def LcX8_rowOn : List (List Nat) := [[42, 6, 27, 104, 182, 0, 30, 17, 1, 0, 104, 42, 6, 27, 104, 4], [96, 182, 0, 30, 96, 172]]
theorem fcX8_rowOn : fd_C cX8_rowOn LcX8_rowOn := ⟨by decide +kernel, by decide +kernel⟩
def LcX8_findSets : List (List Nat) := [[42, 3, 181, 0, 55, 3, 62, 29, 17, 1, 0, 162, 0, 39, 42, 43], [44, 29, 182, 0, 58, 153, 0, 23, 42, 180, 0, 18, 42, 180, 0, 55], [29, 79, 42, 89, 180, 0, 55, 4, 96, 181, 0, 55, 132, 3, 1, 167], [255, 216, 177]]
theorem fcX8_findSets : fd_C cX8_findSets LcX8_findSets := ⟨by decide +kernel, by decide +kernel⟩
def LcX8_agrees : List (List Nat) := [[3, 54, 4, 21, 4, 42, 180, 0, 49, 162, 0, 46, 44, 43, 43, 42], [180, 0, 9, 21, 4, 46, 182, 0, 62, 29, 182, 0, 65, 54, 5, 44], [21, 5, 182, 0, 52, 42, 180, 0, 15, 21, 4, 46, 159, 0, 5, 3], [172, 132, 4, 1, 167, 255, 207, 4, 172]]
theorem fcX8_agrees : fd_C cX8_agrees LcX8_agrees := ⟨by decide +kernel, by decide +kernel⟩
def LcX8_mostLeft : List (List Nat) := [[3, 54, 4, 21, 4, 16, 12, 163, 0, 17, 42, 180, 0, 21, 21, 4], [3, 79, 132, 4, 1, 167, 255, 238, 3, 54, 4, 3, 54, 5, 21, 5], [42, 180, 0, 55, 162, 0, 71, 21, 5, 17, 1, 0, 162, 0, 63, 44], [43, 29, 42, 180, 0, 18, 21, 5, 46, 182, 0, 65, 4, 96, 54, 6], [21, 6, 155, 0, 35, 21, 6, 16, 12, 163, 0, 28, 42, 180, 0, 21], [21, 6, 92, 46, 4, 96, 79, 21, 4, 42, 180, 0, 21, 21, 6, 46], [184, 0, 69, 54, 4, 132, 5, 1, 167, 255, 182, 21, 4, 172]]
theorem fcX8_mostLeft : fd_C cX8_mostLeft LcX8_mostLeft := ⟨by decide +kernel, by decide +kernel⟩
def LcX9_init : List (List Nat) := [[42, 183, 0, 3, 42, 187, 0, 9, 89, 183, 0, 11, 181, 0, 12, 42], [7, 188, 10, 181, 0, 18, 42, 7, 188, 10, 181, 0, 22, 42, 7, 188], [10, 181, 0, 25, 42, 16, 12, 188, 10, 181, 0, 28, 42, 7, 17, 8], [0, 197, 0, 31, 2, 181, 0, 33, 177]]
theorem fcX9_init : fd_C cX9_init LcX9_init := ⟨by decide +kernel, by decide +kernel⟩
def LcX9_clear : List (List Nat) := [[42, 180, 0, 12, 182, 0, 36, 42, 3, 181, 0, 39, 42, 3, 181, 0], [43, 42, 3, 181, 0, 46, 42, 3, 181, 0, 49, 42, 17, 1, 44, 181], [0, 52, 177]]
theorem fcX9_clear : fd_C cX9_clear LcX9_clear := ⟨by decide +kernel, by decide +kernel⟩
def LcX9_addColumn : List (List Nat) := [[42, 180, 0, 12, 27, 182, 0, 55, 61, 42, 180, 0, 39, 7, 162, 0], [10, 28, 17, 8, 0, 164, 0, 4, 177, 42, 180, 0, 18, 42, 180, 0], [39, 27, 79, 42, 180, 0, 22, 42, 180, 0, 39, 28, 79, 42, 180, 0], [25, 42, 180, 0, 39, 3, 79, 3, 62, 29, 28, 162, 0, 21, 42, 180], [0, 33, 42, 180, 0, 39, 50, 29, 3, 79, 132, 3, 1, 167, 255, 236], [42, 42, 180, 0, 39, 154, 0, 7, 28, 167, 0, 9, 42, 180, 0, 43], [28, 104, 181, 0, 43, 42, 89, 180, 0, 39, 4, 96, 181, 0, 39, 177]]
theorem fcX9_addColumn : fd_C cX9_addColumn LcX9_addColumn := ⟨by decide +kernel, by decide +kernel⟩
def LcX9_setPattern : List (List Nat) := [[27, 155, 0, 20, 27, 42, 180, 0, 39, 162, 0, 12, 42, 180, 0, 46], [16, 12, 161, 0, 4, 177, 4, 42, 180, 0, 46, 120, 62, 4, 54, 4], [3, 54, 5, 21, 5, 42, 180, 0, 22, 27, 46, 162, 0, 42, 21, 5], [44, 190, 162, 0, 35, 44, 21, 5, 46, 153, 0, 19, 42, 180, 0, 33], [27, 50, 21, 5, 92, 46, 29, 128, 79, 167, 0, 6, 3, 54, 4, 132], [5, 1, 167, 255, 209, 21, 4, 153, 0, 13, 42, 180, 0, 25, 27, 92], [46, 29, 128, 79, 177]]
theorem fcX9_setPattern : fd_C cX9_setPattern LcX9_setPattern := ⟨by decide +kernel, by decide +kernel⟩
def LcX9_addArm : List (List Nat) := [[42, 180, 0, 46, 16, 12, 162, 0, 23, 42, 180, 0, 28, 42, 180, 0], [46, 27, 79, 42, 89, 180, 0, 46, 4, 96, 181, 0, 46, 177]]
theorem fcX9_addArm : fd_C cX9_addArm LcX9_addArm := ⟨by decide +kernel, by decide +kernel⟩
def LcX9_guardOf : List (List Nat) := [[27, 155, 0, 20, 27, 42, 180, 0, 46, 162, 0, 12, 42, 180, 0, 28], [27, 46, 167, 0, 4, 2, 172]]
theorem fcX9_guardOf : fd_C cX9_guardOf LcX9_guardOf := ⟨by decide +kernel, by decide +kernel⟩
def LcX9_isRow : List (List Nat) := [[27, 155, 0, 15, 27, 42, 180, 0, 43, 162, 0, 7, 4, 167, 0, 4], [3, 172]]
theorem fcX9_isRow : fd_C cX9_isRow LcX9_isRow := ⟨by decide +kernel, by decide +kernel⟩
def LcX9_armsFitting : List (List Nat) := [[27, 155, 0, 22, 27, 42, 180, 0, 39, 162, 0, 14, 28, 155, 0, 10], [28, 17, 8, 0, 161, 0, 5, 3, 172, 42, 180, 0, 33, 27, 50, 28], [46, 172]]
theorem fcX9_armsFitting : fd_C cX9_armsFitting LcX9_armsFitting := ⟨by decide +kernel, by decide +kernel⟩
def LcX9_valueOf : List (List Nat) := [[27, 62, 42, 180, 0, 39, 4, 100, 54, 4, 21, 4, 28, 164, 0, 33], [42, 180, 0, 22, 21, 4, 46, 158, 0, 15, 29, 42, 180, 0, 22, 21], [4, 46, 108, 167, 0, 4, 3, 62, 132, 4, 255, 167, 255, 223, 28, 155], [0, 31, 28, 42, 180, 0, 39, 162, 0, 23, 42, 180, 0, 22, 28, 46], [158, 0, 14, 29, 42, 180, 0, 22, 28, 46, 112, 167, 0, 4, 3, 172]]
theorem fcX9_valueOf : fd_C cX9_valueOf LcX9_valueOf := ⟨by decide +kernel, by decide +kernel⟩
def LcX9_armsOf : List (List Nat) := [[4, 42, 180, 0, 46, 120, 4, 100, 61, 27, 62, 42, 180, 0, 39, 4], [100, 54, 4, 21, 4, 155, 0, 40, 42, 180, 0, 22, 21, 4, 46, 4], [184, 0, 59, 54, 5, 28, 42, 21, 4, 29, 21, 5, 112, 182, 0, 65], [126, 61, 29, 21, 5, 108, 62, 132, 4, 255, 167, 255, 217, 28, 172]]
theorem fcX9_armsOf : fd_C cX9_armsOf LcX9_armsOf := ⟨by decide +kernel, by decide +kernel⟩
def LcX10_init : List (List Nat) := [[42, 183, 0, 3, 42, 7, 189, 0, 9, 181, 0, 11, 42, 7, 189, 0], [9, 181, 0, 17, 42, 18, 20, 188, 11, 181, 0, 21, 42, 17, 3, 231], [188, 10, 181, 0, 25, 42, 43, 181, 0, 29, 42, 44, 181, 0, 33, 42], [45, 181, 0, 37, 3, 54, 4, 21, 4, 7, 162, 0, 45, 42, 180, 0], [11, 21, 4, 187, 0, 9, 89, 17, 8, 0, 45, 183, 0, 41, 83, 42], [180, 0, 17, 21, 4, 187, 0, 9, 89, 17, 8, 0, 45, 183, 0, 41], [83, 132, 4, 1, 167, 255, 211, 177]]
theorem fcX10_init : fd_C cX10_init LcX10_init := ⟨by decide +kernel, by decide +kernel⟩
def LcX10_setTable : List (List Nat) := [[42, 43, 181, 0, 29, 3, 61, 28, 42, 180, 0, 29, 180, 0, 44, 162], [0, 63, 28, 7, 162, 0, 58, 42, 180, 0, 11, 28, 50, 182, 0, 50], [3, 62, 29, 42, 180, 0, 29, 180, 0, 53, 28, 46, 162, 0, 28, 42], [180, 0, 11, 28, 50, 42, 180, 0, 29, 28, 29, 182, 0, 56, 4, 182], [0, 60, 132, 3, 1, 167, 255, 221, 132, 2, 1, 167, 255, 188, 177]]
theorem fcX10_setTable : fd_C cX10_setTable LcX10_setTable := ⟨by decide +kernel, by decide +kernel⟩
def LcX10_allColumns : List (List Nat) := [[4, 42, 180, 0, 29, 180, 0, 44, 120, 4, 100, 172]]
theorem fcX10_allColumns : fd_C cX10_allColumns LcX10_allColumns := ⟨by decide +kernel, by decide +kernel⟩
def LcX10_columnAsked : List (List Nat) := [[42, 180, 0, 33, 27, 182, 0, 64, 62, 2, 54, 4, 3, 54, 5, 3], [54, 6, 29, 2, 159, 0, 77, 21, 6, 42, 180, 0, 29, 180, 0, 44], [162, 0, 65, 28, 21, 6, 184, 0, 70, 153, 0, 50, 42, 180, 0, 29], [180, 0, 74, 21, 6, 46, 29, 184, 0, 70, 154, 0, 33, 42, 27, 21], [6, 182, 0, 77, 54, 7, 21, 4, 2, 159, 0, 10, 21, 7, 21, 5], [162, 0, 11, 21, 6, 54, 4, 21, 7, 54, 5, 132, 6, 1, 167, 255], [180, 21, 4, 172]]
theorem fcX10_columnAsked : fd_C cX10_columnAsked LcX10_columnAsked := ⟨by decide +kernel, by decide +kernel⟩
def LcX10_costOf : List (List Nat) := [[42, 180, 0, 80, 170, 0, 0, 0, 0, 0, 0, 50, 0, 0, 0, 1], [0, 0, 0, 3, 0, 0, 0, 28, 0, 0, 0, 36, 0, 0, 0, 43], [42, 27, 28, 182, 0, 83, 116, 172, 42, 27, 28, 182, 0, 86, 172, 42], [27, 28, 182, 0, 89, 172, 3, 172]]
theorem fcX10_costOf : fd_C cX10_costOf LcX10_costOf := ⟨by decide +kernel, by decide +kernel⟩
def LcX10_notFullInRow : List (List Nat) := [[3, 62, 3, 54, 4, 21, 4, 42, 180, 0, 33, 180, 0, 92, 162, 0], [52, 42, 180, 0, 33, 180, 0, 95, 21, 4, 46, 54, 5, 27, 21, 5], [184, 0, 70, 153, 0, 25, 42, 180, 0, 29, 180, 0, 74, 28, 46, 21], [5, 184, 0, 70, 153, 0, 5, 29, 172, 132, 3, 1, 132, 4, 1, 167], [255, 198, 29, 172]]
theorem fcX10_notFullInRow : fd_C cX10_notFullInRow LcX10_notFullInRow := ⟨by decide +kernel, by decide +kernel⟩
def LcX10_countBranches : List (List Nat) := [[3, 62, 42, 180, 0, 37, 182, 0, 98, 3, 54, 4, 21, 4, 42, 180], [0, 11, 28, 50, 180, 0, 103, 162, 0, 36, 42, 180, 0, 37, 42, 180], [0, 11, 28, 50, 180, 0, 104, 21, 4, 46, 27, 126, 182, 0, 107, 153], [0, 6, 132, 3, 1, 132, 4, 1, 167, 255, 212, 29, 172]]
theorem fcX10_countBranches : fd_C cX10_countBranches LcX10_countBranches := ⟨by decide +kernel, by decide +kernel⟩
def LcX10_mostArms : List (List Nat) := [[3, 62, 3, 54, 4, 21, 4, 42, 180, 0, 11, 28, 50, 180, 0, 103], [162, 0, 31, 29, 42, 180, 0, 11, 28, 50, 180, 0, 104, 21, 4, 46], [27, 126, 184, 0, 111, 184, 0, 116, 62, 132, 4, 1, 167, 255, 217, 29], [172]]
theorem fcX10_mostArms : fd_C cX10_mostArms LcX10_mostArms := ⟨by decide +kernel, by decide +kernel⟩
def LcX10_split : List (List Nat) := [[28, 184, 0, 111, 4, 100, 54, 4, 42, 180, 0, 17, 3, 21, 4, 6], [184, 0, 121, 184, 0, 116, 50, 58, 5, 25, 5, 182, 0, 50, 25, 5], [42, 180, 0, 11, 29, 50, 27, 182, 0, 124, 25, 5, 176]]
theorem fcX10_split : fd_C cX10_split LcX10_split := ⟨by decide +kernel, by decide +kernel⟩
def LcX10_rowsOf : List (List Nat) := [[4, 61, 3, 62, 29, 42, 180, 0, 29, 180, 0, 44, 162, 0, 29, 27], [29, 184, 0, 70, 153, 0, 15, 28, 42, 180, 0, 29, 180, 0, 53, 29], [46, 104, 61, 132, 3, 1, 167, 255, 222, 28, 172]]
theorem fcX10_rowsOf : fd_C cX10_rowsOf LcX10_rowsOf := ⟨by decide +kernel, by decide +kernel⟩
def LcX10_measureAll : List (List Nat) := [[42, 43, 181, 0, 33, 42, 28, 181, 0, 80, 42, 89, 180, 0, 128, 4], [96, 181, 0, 128, 42, 3, 181, 0, 131, 42, 42, 180, 0, 33, 182, 0], [134, 42, 182, 0, 138, 3, 184, 0, 141, 173]]
theorem fcX10_measureAll : fd_C cX10_measureAll LcX10_measureAll := ⟨by decide +kernel, by decide +kernel⟩
def LcX10_measure : List (List Nat) := [[28, 17, 16, 0, 104, 27, 96, 54, 4, 21, 4, 155, 0, 16, 21, 4], [18, 20, 162, 0, 9, 29, 16, 20, 164, 0, 5, 9, 173, 42, 180, 0], [21, 21, 4, 47, 16, 40, 125, 42, 180, 0, 128, 133, 148, 154, 0, 11], [42, 180, 0, 21, 21, 4, 47, 173, 42, 89, 180, 0, 131, 4, 96, 181], [0, 131, 4, 54, 5, 3, 54, 6, 3, 54, 7, 42, 27, 28, 182, 0], [145, 54, 8, 42, 180, 0, 33, 27, 182, 0, 64, 54, 9, 42, 180, 0], [29, 21, 9, 182, 0, 148, 54, 10, 21, 8, 2, 159, 0, 119, 42, 28], [182, 0, 151, 54, 6, 42, 27, 28, 21, 8, 182, 0, 154, 58, 11, 28], [4, 21, 8, 120, 2, 130, 126, 54, 12, 3, 54, 13, 21, 13, 25, 11], [180, 0, 103, 162, 0, 76, 42, 25, 11, 180, 0, 104, 21, 13, 46, 21], [12, 29, 4, 96, 184, 0, 141, 55, 14, 18, 158, 21, 5, 22, 14, 184], [0, 159, 96, 184, 0, 121, 54, 5, 21, 6, 25, 11, 180, 0, 163, 21], [13, 46, 22, 14, 184, 0, 164, 104, 96, 54, 6, 21, 7, 22, 14, 184], [0, 167, 4, 96, 184, 0, 116, 54, 7, 132, 13, 1, 167, 255, 176, 167], [0, 75, 21, 10, 2, 159, 0, 69, 42, 27, 4, 21, 9, 120, 2, 130], [126, 28, 29, 4, 96, 184, 0, 141, 55, 11, 18, 158, 21, 5, 22, 11], [184, 0, 159, 96, 184, 0, 121, 54, 5, 42, 180, 0, 33, 180, 0, 170], [21, 10, 184, 0, 70, 153, 0, 7, 3, 167, 0, 8, 22, 11, 184, 0], [164, 54, 6, 22, 11, 184, 0, 167, 54, 7, 21, 7, 133, 16, 17, 121], [21, 6, 133, 129, 16, 20, 121, 21, 5, 133, 129, 55, 11, 42, 180, 0], [21, 21, 4, 42, 180, 0, 128, 133, 16, 40, 121, 22, 11, 129, 80, 42], [180, 0, 21, 21, 4, 47, 173]]
theorem fcX10_measure : fd_C cX10_measure LcX10_measure := ⟨by decide +kernel, by decide +kernel⟩
def LcX10_nodesIn : List (List Nat) := [[30, 20, 0, 173, 127, 136, 172]]
theorem fcX10_nodesIn : fd_C cX10_nodesIn LcX10_nodesIn := ⟨by decide +kernel, by decide +kernel⟩
def LcX10_testsIn : List (List Nat) := [[30, 16, 20, 125, 20, 0, 175, 127, 136, 172]]
theorem fcX10_testsIn : fd_C cX10_testsIn LcX10_testsIn := ⟨by decide +kernel, by decide +kernel⟩
def LcX10_longestIn : List (List Nat) := [[30, 16, 37, 125, 20, 0, 177, 127, 136, 172]]
theorem fcX10_longestIn : fd_C cX10_longestIn LcX10_longestIn := ⟨by decide +kernel, by decide +kernel⟩
def LcX10_firstColumn : List (List Nat) := [[42, 43, 181, 0, 33, 42, 28, 181, 0, 80, 42, 180, 0, 33, 182, 0], [134, 62, 3, 54, 4, 21, 4, 16, 12, 163, 0, 67, 42, 29, 42, 182], [0, 138, 182, 0, 145, 54, 5, 42, 180, 0, 33, 29, 182, 0, 64, 54], [6, 21, 5, 2, 160, 0, 22, 21, 6, 2, 159, 0, 16, 42, 180, 0], [29, 21, 6, 182, 0, 148, 2, 160, 0, 6, 21, 5, 172, 29, 4, 21], [6, 120, 2, 130, 126, 62, 132, 4, 1, 167, 255, 188, 2, 172]]
theorem fcX10_firstColumn : fd_C cX10_firstColumn LcX10_firstColumn := ⟨by decide +kernel, by decide +kernel⟩
def LcX10_columnsAsked : List (List Nat) := [[42, 43, 181, 0, 33, 42, 43, 180, 0, 179, 181, 0, 80, 42, 180, 0], [33, 182, 0, 134, 62, 42, 182, 0, 138, 54, 4, 3, 54, 5, 3, 54], [6, 21, 6, 16, 20, 163, 0, 127, 29, 153, 0, 123, 42, 29, 21, 4], [182, 0, 145, 54, 7, 21, 7, 2, 159, 0, 42, 132, 5, 1, 29, 42], [180, 0, 29, 21, 7, 42, 180, 0, 29, 28, 21, 7, 182, 0, 180, 182], [0, 56, 126, 62, 21, 4, 4, 21, 7, 120, 2, 130, 126, 54, 4, 167], [0, 63, 42, 180, 0, 33, 29, 182, 0, 64, 54, 8, 42, 180, 0, 29], [21, 8, 182, 0, 148, 54, 9, 21, 8, 2, 159, 0, 24, 21, 9, 2], [159, 0, 18, 42, 180, 0, 33, 180, 0, 170, 21, 9, 184, 0, 70, 153], [0, 6, 21, 5, 172, 29, 4, 21, 8, 120, 2, 130, 126, 62, 132, 6], [1, 167, 255, 128, 21, 5, 172]]
theorem fcX10_columnsAsked : fd_C cX10_columnsAsked LcX10_columnsAsked := ⟨by decide +kernel, by decide +kernel⟩
def LcX10_buildAll : List (List Nat) := [[42, 43, 181, 0, 33, 42, 28, 181, 0, 80, 42, 3, 181, 0, 183, 42], [3, 181, 0, 186, 42, 3, 181, 0, 189, 42, 3, 181, 0, 192, 42, 3], [181, 0, 195, 42, 42, 180, 0, 33, 182, 0, 134, 42, 182, 0, 138, 3], [184, 0, 199, 177]]
theorem fcX10_buildAll : fd_C cX10_buildAll LcX10_buildAll := ⟨by decide +kernel, by decide +kernel⟩
def LcX10_build : List (List Nat) := [[42, 180, 0, 183, 42, 180, 0, 29, 180, 0, 203, 162, 0, 9, 29, 16], [20, 164, 0, 9, 42, 4, 181, 0, 195, 177, 42, 180, 0, 183, 54, 4], [42, 182, 0, 206, 42, 27, 28, 182, 0, 145, 54, 5, 42, 180, 0, 33], [27, 182, 0, 64, 54, 6, 21, 5, 2, 159, 0, 69, 42, 27, 28, 21], [5, 182, 0, 154, 58, 7, 28, 4, 21, 5, 120, 2, 130, 126, 54, 8], [3, 54, 9, 21, 9, 25, 7, 180, 0, 103, 162, 0, 33, 42, 180, 0], [195, 154, 0, 26, 42, 25, 7, 180, 0, 104, 21, 9, 46, 21, 8, 29], [4, 96, 184, 0, 199, 132, 9, 1, 167, 255, 219, 167, 0, 32, 42, 180], [0, 29, 21, 6, 182, 0, 148, 2, 159, 0, 19, 42, 27, 4, 21, 6], [120, 2, 130, 126, 28, 29, 4, 96, 184, 0, 199, 42, 21, 4, 182, 0], [209, 177]]
theorem fcX10_build : fd_C cX10_build LcX10_build := ⟨by decide +kernel, by decide +kernel⟩
def LcX10_openScope : List (List Nat) := [[42, 89, 180, 0, 183, 4, 96, 181, 0, 183, 42, 89, 180, 0, 186, 4], [96, 181, 0, 186, 42, 42, 180, 0, 189, 42, 180, 0, 186, 184, 0, 116], [181, 0, 189, 177]]
theorem fcX10_openScope : fd_C cX10_openScope LcX10_openScope := ⟨by decide +kernel, by decide +kernel⟩
def LcX10_shutScope : List (List Nat) := [[42, 180, 0, 192, 155, 0, 35, 42, 180, 0, 192, 42, 180, 0, 25, 190], [162, 0, 23, 42, 180, 0, 25, 42, 180, 0, 192, 27, 79, 42, 89, 180], [0, 192, 4, 96, 181, 0, 192, 42, 89, 180, 0, 186, 4, 100, 181, 0], [186, 177]]
theorem fcX10_shutScope : fd_C cX10_shutScope LcX10_shutScope := ⟨by decide +kernel, by decide +kernel⟩
def LcX10_scopeShutAs : List (List Nat) := [[27, 155, 0, 29, 27, 42, 180, 0, 192, 162, 0, 21, 27, 42, 180, 0], [25, 190, 162, 0, 12, 42, 180, 0, 25, 27, 46, 167, 0, 4, 2, 172]]
theorem fcX10_scopeShutAs : fd_C cX10_scopeShutAs LcX10_scopeShutAs := ⟨by decide +kernel, by decide +kernel⟩
def LcX11_init : List (List Nat) := [[42, 183, 0, 3, 42, 187, 0, 9, 89, 17, 6, 64, 183, 0, 11, 181], [0, 14, 42, 187, 0, 9, 89, 17, 4, 0, 183, 0, 11, 181, 0, 18], [42, 187, 0, 21, 89, 183, 0, 23, 181, 0, 24, 42, 187, 0, 28, 89], [17, 16, 0, 42, 180, 0, 24, 183, 0, 30, 181, 0, 33, 42, 187, 0], [28, 89, 17, 16, 0, 42, 180, 0, 24, 183, 0, 30, 181, 0, 37, 42], [187, 0, 40, 89, 183, 0, 42, 181, 0, 43, 42, 187, 0, 40, 89, 183], [0, 42, 181, 0, 47, 42, 187, 0, 50, 89, 183, 0, 52, 181, 0, 53], [42, 187, 0, 57, 89, 183, 0, 59, 181, 0, 60, 42, 16, 6, 188, 10], [181, 0, 64, 42, 187, 0, 68, 89, 183, 0, 70, 181, 0, 71, 42, 187], [0, 68, 89, 183, 0, 70, 181, 0, 75, 42, 187, 0, 78, 89, 42, 180], [0, 71, 183, 0, 80, 181, 0, 83, 42, 187, 0, 87, 89, 42, 180, 0], [71, 42, 180, 0, 43, 42, 180, 0, 24, 183, 0, 89, 181, 0, 92, 42], [4, 181, 0, 96, 177]]
theorem fcX11_init : fd_C cX11_init LcX11_init := ⟨by decide +kernel, by decide +kernel⟩
def LcX11_feed : List (List Nat) := [[42, 180, 0, 14, 180, 0, 100, 16, 20, 96, 17, 6, 64, 164, 0, 11], [42, 3, 182, 0, 103, 87, 2, 172, 42, 180, 0, 14, 27, 182, 0, 107], [42, 180, 0, 14, 28, 182, 0, 107, 42, 180, 0, 14, 29, 182, 0, 107], [42, 180, 0, 14, 21, 4, 182, 0, 107, 42, 180, 0, 14, 21, 5, 182], [0, 107, 42, 180, 0, 14, 180, 0, 100, 172]]
theorem fcX11_feed : fd_C cX11_feed LcX11_feed := ⟨by decide +kernel, by decide +kernel⟩
def LcX11_end : List (List Nat) := [[27, 155, 0, 14, 27, 42, 180, 0, 14, 180, 0, 100, 164, 0, 9, 42], [3, 182, 0, 103, 172, 42, 180, 0, 14, 27, 181, 0, 100, 4, 172]]
theorem fcX11_end : fd_C cX11_end LcX11_end := ⟨by decide +kernel, by decide +kernel⟩
def LcX11_match : List (List Nat) := [[42, 180, 0, 83, 42, 180, 0, 14, 42, 180, 0, 75, 182, 0, 110, 60], [42, 180, 0, 14, 3, 181, 0, 100, 27, 2, 160, 0, 11, 42, 4, 182], [0, 103, 87, 2, 172, 42, 180, 0, 71, 77, 42, 42, 180, 0, 75, 181], [0, 71, 42, 44, 181, 0, 75, 42, 182, 0, 114, 27, 172]]
theorem fcX11_match : fd_C cX11_match LcX11_match := ⟨by decide +kernel, by decide +kernel⟩
def LcX11_startMatch : List (List Nat) := [[42, 180, 0, 92, 42, 180, 0, 71, 182, 0, 117, 42, 180, 0, 33, 182], [0, 120, 42, 180, 0, 33, 4, 42, 180, 0, 71, 180, 0, 123, 120, 4], [100, 4, 182, 0, 126, 3, 60, 27, 42, 180, 0, 71, 180, 0, 130, 162], [0, 47, 42, 180, 0, 37, 42, 180, 0, 33, 182, 0, 133, 42, 180, 0], [33, 182, 0, 120, 42, 180, 0, 33, 42, 180, 0, 37, 42, 180, 0, 92], [180, 0, 137, 27, 50, 182, 0, 141, 132, 1, 1, 167, 255, 204, 42, 180], [0, 43, 42, 180, 0, 71, 180, 0, 123, 42, 180, 0, 71, 180, 0, 145], [182, 0, 148, 42, 180, 0, 53, 182, 0, 150, 42, 180, 0, 60, 3, 181], [0, 153, 177]]
theorem fcX11_startMatch : fd_C cX11_startMatch LcX11_startMatch := ⟨by decide +kernel, by decide +kernel⟩
def LcX11_fault : List (List Nat) := [[27, 154, 0, 11, 42, 180, 0, 83, 180, 0, 156, 172, 27, 4, 160, 0], [13, 42, 180, 0, 83, 180, 0, 159, 167, 0, 4, 2, 172]]
theorem fcX11_fault : fd_C cX11_fault LcX11_fault := ⟨by decide +kernel, by decide +kernel⟩
def LcX11_has : List (List Nat) := [[27, 170, 0, 0, 0, 0, 0, 150, 0, 0, 0, 0, 0, 0, 0, 10], [0, 0, 0, 59, 0, 0, 0, 70, 0, 0, 0, 81, 0, 0, 0, 89], [0, 0, 0, 97, 0, 0, 0, 105, 0, 0, 0, 113, 0, 0, 0, 121], [0, 0, 0, 129, 0, 0, 0, 137, 0, 0, 0, 145, 42, 180, 0, 71], [180, 0, 162, 180, 0, 166, 172, 42, 180, 0, 71, 180, 0, 162, 180, 0], [170, 172, 42, 180, 0, 71, 180, 0, 130, 172, 42, 180, 0, 71, 180, 0], [173, 172, 42, 180, 0, 43, 180, 0, 176, 172, 42, 180, 0, 43, 180, 0], [177, 172, 42, 180, 0, 43, 180, 0, 180, 172, 42, 180, 0, 53, 182, 0], [181, 172, 42, 180, 0, 60, 180, 0, 153, 172, 42, 180, 0, 53, 180, 0], [185, 172, 42, 180, 0, 96, 172, 2, 172]]
theorem fcX11_has : fd_C cX11_has LcX11_has := ⟨by decide +kernel, by decide +kernel⟩
def LcX11_letter : List (List Nat) := [[42, 180, 0, 71, 180, 0, 162, 58, 4, 29, 155, 0, 13, 29, 16, 6], [162, 0, 7, 28, 156, 0, 5, 2, 172, 27, 154, 0, 24, 25, 4, 28], [182, 0, 188, 153, 0, 15, 25, 4, 180, 0, 191, 28, 46, 29, 184, 0], [194, 172, 27, 4, 160, 0, 24, 25, 4, 28, 182, 0, 198, 153, 0, 15], [25, 4, 180, 0, 201, 28, 46, 29, 184, 0, 194, 172, 2, 172]]
theorem fcX11_letter : fd_C cX11_letter LcX11_letter := ⟨by decide +kernel, by decide +kernel⟩
def LcX11_values : List (List Nat) := [[42, 182, 0, 204, 153, 0, 22, 27, 2, 159, 0, 19, 42, 180, 0, 71], [180, 0, 162, 27, 182, 0, 188, 154, 0, 5, 2, 172, 42, 180, 0, 71], [180, 0, 162, 27, 182, 0, 208, 172]]
theorem fcX11_values : fd_C cX11_values LcX11_values := ⟨by decide +kernel, by decide +kernel⟩
def LcX11_arm : List (List Nat) := [[42, 180, 0, 43, 27, 182, 0, 212, 62, 29, 2, 160, 0, 5, 2, 172], [28, 170, 0, 0, 0, 0, 0, 72, 0, 0, 0, 0, 0, 0, 0, 4], [0, 0, 0, 35, 0, 0, 0, 37, 0, 0, 0, 46, 0, 0, 0, 60], [0, 0, 0, 66, 29, 172, 42, 180, 0, 71, 29, 182, 0, 215, 172, 42], [27, 182, 0, 218, 153, 0, 7, 4, 167, 0, 4, 3, 172, 42, 29, 182], [0, 221, 172, 42, 27, 182, 0, 224, 172, 2, 172]]
theorem fcX11_arm : fd_C cX11_arm LcX11_arm := ⟨by decide +kernel, by decide +kernel⟩
def LcX11_isUseful : List (List Nat) := [[42, 180, 0, 43, 27, 182, 0, 212, 61, 42, 180, 0, 43, 42, 180, 0], [71, 27, 182, 0, 227, 62, 3, 54, 4, 21, 4, 42, 180, 0, 33, 180], [0, 231, 162, 0, 39, 42, 180, 0, 33, 180, 0, 232, 21, 4, 46, 54], [5, 21, 5, 28, 184, 0, 234, 153, 0, 12, 21, 5, 29, 126, 154, 0], [5, 4, 172, 132, 4, 1, 167, 255, 211, 3, 172]]
theorem fcX11_isUseful : fd_C cX11_isUseful LcX11_isUseful := ⟨by decide +kernel, by decide +kernel⟩
def LcX11_rowsFitting : List (List Nat) := [[3, 61, 3, 62, 29, 42, 180, 0, 33, 180, 0, 231, 162, 0, 37, 42], [180, 0, 33, 180, 0, 232, 29, 46, 27, 184, 0, 234, 153, 0, 15, 28], [42, 180, 0, 33, 180, 0, 238, 29, 46, 96, 61, 132, 3, 1, 167, 255], [214, 28, 172]]
theorem fcX11_rowsFitting : fd_C cX11_rowsFitting LcX11_rowsFitting := ⟨by decide +kernel, by decide +kernel⟩
def LcX11_rowsTaken : List (List Nat) := [[3, 61, 3, 62, 29, 42, 180, 0, 33, 180, 0, 231, 162, 0, 52, 42], [180, 0, 43, 42, 180, 0, 71, 42, 180, 0, 33, 180, 0, 232, 29, 46], [42, 180, 0, 43, 180, 0, 177, 182, 0, 241, 27, 160, 0, 15, 28, 42], [180, 0, 33, 180, 0, 238, 29, 46, 96, 61, 132, 3, 1, 167, 255, 199], [28, 172]]
theorem fcX11_rowsTaken : fd_C cX11_rowsTaken LcX11_rowsTaken := ⟨by decide +kernel, by decide +kernel⟩
def LcX11_fits : List (List Nat) := [[42, 180, 0, 43, 27, 182, 0, 212, 54, 4, 21, 4, 2, 159, 0, 18], [28, 155, 0, 14, 28, 42, 180, 0, 71, 180, 0, 130, 161, 0, 5, 2], [172, 29, 155, 0, 16, 29, 42, 180, 0, 71, 180, 0, 245, 28, 46, 161], [0, 5, 2, 172, 42, 180, 0, 71, 28, 29, 182, 0, 246, 21, 4, 184], [0, 234, 153, 0, 7, 4, 167, 0, 4, 3, 172]]
theorem fcX11_fits : fd_C cX11_fits LcX11_fits := ⟨by decide +kernel, by decide +kernel⟩
def LcX11_holds : List (List Nat) := [[42, 180, 0, 43, 27, 182, 0, 212, 62, 42, 180, 0, 43, 28, 182, 0], [212, 54, 4, 29, 2, 159, 0, 9, 21, 4, 2, 160, 0, 5, 2, 172], [3, 54, 5, 21, 5, 42, 180, 0, 33, 180, 0, 231, 162, 0, 42, 42], [180, 0, 33, 180, 0, 232, 21, 5, 46, 54, 6, 21, 6, 21, 4, 184], [0, 234, 153, 0, 14, 21, 6, 29, 184, 0, 234, 154, 0, 5, 3, 172], [132, 5, 1, 167, 255, 208, 4, 172]]
theorem fcX11_holds : fd_C cX11_holds LcX11_holds := ⟨by decide +kernel, by decide +kernel⟩
def LcX11_missing : List (List Nat) := [[42, 182, 0, 204, 153, 0, 8, 27, 2, 162, 0, 5, 2, 172, 42, 180], [0, 43, 42, 180, 0, 71, 42, 180, 0, 43, 180, 0, 176, 182, 0, 227], [61, 27, 2, 160, 0, 11, 42, 28, 182, 0, 249, 167, 0, 9, 42, 28], [27, 182, 0, 252, 172]]
theorem fcX11_missing : fd_C cX11_missing LcX11_missing := ⟨by decide +kernel, by decide +kernel⟩
def LcX11_countMissing : List (List Nat) := [[3, 61, 3, 62, 29, 42, 180, 0, 33, 180, 0, 231, 162, 0, 35, 42], [180, 0, 33, 180, 0, 232, 29, 46, 27, 126, 154, 0, 15, 28, 42, 180], [0, 33, 180, 0, 238, 29, 46, 96, 61, 132, 3, 1, 167, 255, 216, 28], [172]]
theorem fcX11_countMissing : fd_C cX11_countMissing LcX11_countMissing := ⟨by decide +kernel, by decide +kernel⟩
def LcX11_findMissing : List (List Nat) := [[3, 62, 3, 54, 4, 21, 4, 42, 180, 0, 71, 180, 0, 173, 162, 0], [34, 42, 180, 0, 71, 21, 4, 182, 0, 255, 27, 126, 154, 0, 14, 29], [28, 160, 0, 6, 21, 4, 172, 132, 3, 1, 132, 4, 1, 167, 255, 216], [2, 172]]
theorem fcX11_findMissing : fd_C cX11_findMissing LcX11_findMissing := ⟨by decide +kernel, by decide +kernel⟩
def LcX11_taken : List (List Nat) := [[42, 180, 0, 71, 27, 182, 1, 2, 154, 0, 5, 2, 172, 42, 180, 0], [43, 42, 180, 0, 71, 42, 180, 0, 71, 27, 182, 0, 255, 42, 180, 0], [43, 180, 0, 177, 182, 0, 241, 172]]
theorem fcX11_taken : fd_C cX11_taken LcX11_taken := ⟨by decide +kernel, by decide +kernel⟩
def LcX11_row : List (List Nat) := [[42, 180, 0, 83, 42, 180, 0, 14, 42, 180, 0, 71, 182, 1, 5, 60], [42, 180, 0, 14, 3, 181, 0, 100, 27, 2, 160, 0, 9, 42, 4, 182], [0, 103, 87, 27, 172]]
theorem fcX11_row : fd_C cX11_row LcX11_row := ⟨by decide +kernel, by decide +kernel⟩
def LcX11_text : List (List Nat) := [[42, 180, 0, 71, 27, 182, 1, 2, 154, 0, 5, 2, 172, 42, 180, 0], [18, 3, 181, 0, 100, 3, 61, 28, 42, 180, 0, 71, 180, 0, 130, 162], [0, 55, 28, 158, 0, 12, 42, 180, 0, 18, 16, 44, 182, 1, 8, 42], [180, 0, 18, 42, 180, 0, 71, 180, 0, 162, 42, 180, 0, 71, 180, 1], [10, 28, 46, 42, 180, 0, 71, 27, 28, 182, 1, 13, 3, 184, 1, 16], [132, 2, 1, 167, 255, 196, 42, 180, 0, 18, 180, 0, 100, 172]]
theorem fcX11_text : fd_C cX11_text LcX11_text := ⟨by decide +kernel, by decide +kernel⟩
def LcX11_writeValue : List (List Nat) := [[28, 2, 160, 0, 9, 42, 29, 182, 1, 20, 177, 43, 28, 29, 182, 1], [23, 54, 5, 21, 5, 2, 159, 0, 9, 21, 4, 7, 164, 0, 4, 177], [42, 43, 180, 0, 201, 21, 5, 46, 182, 1, 26, 43, 21, 5, 182, 1], [29, 54, 6, 43, 180, 1, 32, 21, 5, 46, 153, 0, 8, 21, 6, 157], [0, 4, 177, 29, 43, 180, 1, 35, 21, 5, 46, 100, 54, 7, 42, 16], [40, 182, 1, 8, 42, 43, 43, 180, 1, 38, 21, 5, 46, 21, 7, 21], [6, 108, 21, 4, 4, 96, 184, 1, 16, 43, 180, 1, 32, 21, 5, 46], [5, 160, 0, 30, 42, 16, 44, 182, 1, 8, 42, 43, 43, 180, 1, 41], [21, 5, 46, 21, 7, 21, 6, 112, 21, 4, 4, 96, 184, 1, 16, 42], [16, 41, 182, 1, 8, 177]]
theorem fcX11_writeValue : fd_C cX11_writeValue LcX11_writeValue := ⟨by decide +kernel, by decide +kernel⟩
def LcX11_octet : List (List Nat) := [[42, 180, 0, 18, 27, 182, 1, 44, 172]]
theorem fcX11_octet : fd_C cX11_octet LcX11_octet := ⟨by decide +kernel, by decide +kernel⟩
def LcX11_tree : List (List Nat) := [[42, 182, 0, 204, 153, 0, 10, 27, 184, 1, 47, 154, 0, 5, 2, 172], [42, 180, 0, 92, 42, 180, 0, 43, 27, 182, 1, 50, 66, 28, 170, 0], [0, 0, 0, 53, 0, 0, 0, 0, 0, 0, 0, 3, 0, 0, 0, 30], [0, 0, 0, 35, 0, 0, 0, 43, 0, 0, 0, 48, 33, 184, 1, 54], [172, 42, 180, 0, 92, 180, 1, 58, 172, 33, 184, 1, 61, 172, 33, 184], [1, 64, 172, 2, 172]]
theorem fcX11_tree : fd_C cX11_tree LcX11_tree := ⟨by decide +kernel, by decide +kernel⟩
def LcX11_first : List (List Nat) := [[42, 182, 0, 204, 153, 0, 10, 27, 184, 1, 47, 154, 0, 5, 2, 172], [42, 180, 0, 92, 42, 180, 0, 43, 27, 182, 1, 67, 172]]
theorem fcX11_first : fd_C cX11_first LcX11_first := ⟨by decide +kernel, by decide +kernel⟩
def LcX11_scopes : List (List Nat) := [[42, 182, 0, 204, 153, 0, 10, 27, 184, 1, 47, 154, 0, 5, 2, 172], [42, 180, 0, 92, 42, 180, 0, 43, 27, 182, 1, 71, 28, 170, 0, 0], [0, 0, 0, 72, 0, 0, 0, 0, 0, 0, 0, 3, 0, 0, 0, 31], [0, 0, 0, 39, 0, 0, 0, 47, 0, 0, 0, 63, 42, 180, 0, 92], [180, 1, 75, 172, 42, 180, 0, 92, 180, 1, 78, 172, 42, 180, 0, 92], [180, 1, 81, 153, 0, 7, 4, 167, 0, 4, 3, 172, 42, 180, 0, 92], [29, 182, 1, 85, 172, 2, 172]]
theorem fcX11_scopes : fd_C cX11_scopes LcX11_scopes := ⟨by decide +kernel, by decide +kernel⟩
def LcX11_safe : List (List Nat) := [[42, 180, 0, 43, 27, 182, 1, 88, 153, 0, 14, 42, 180, 0, 43, 28], [182, 1, 88, 154, 0, 5, 2, 172, 42, 180, 0, 47, 42, 180, 0, 43], [182, 1, 91, 42, 180, 0, 47, 27, 28, 182, 1, 94, 42, 182, 1, 97], [153, 0, 7, 4, 167, 0, 4, 3, 172]]
theorem fcX11_safe : fd_C cX11_safe LcX11_safe := ⟨by decide +kernel, by decide +kernel⟩
def LcX11_trialTakesAlike : List (List Nat) := [[3, 60, 27, 42, 180, 0, 33, 180, 0, 231, 162, 0, 49, 42, 180, 0], [33, 180, 0, 232, 27, 46, 61, 42, 180, 0, 43, 42, 180, 0, 71, 28], [182, 1, 100, 42, 180, 0, 47, 42, 180, 0, 71, 28, 182, 1, 100, 148], [153, 0, 5, 3, 172, 132, 1, 1, 167, 255, 202, 4, 172]]
theorem fcX11_trialTakesAlike : fd_C cX11_trialTakesAlike LcX11_trialTakesAlike := ⟨by decide +kernel, by decide +kernel⟩
def LcX11_best : List (List Nat) := [[42, 182, 0, 204, 153, 0, 12, 27, 155, 0, 8, 27, 4, 164, 0, 5], [2, 172, 42, 42, 180, 0, 43, 182, 1, 104, 61, 2, 62, 3, 54, 4], [21, 4, 4, 96, 42, 180, 0, 43, 180, 0, 176, 162, 0, 62, 42, 180], [0, 47, 42, 180, 0, 43, 182, 1, 91, 42, 180, 0, 47, 21, 4, 21], [4, 4, 96, 182, 1, 94, 42, 182, 1, 97, 153, 0, 25, 42, 42, 180], [0, 47, 182, 1, 104, 54, 5, 21, 5, 28, 162, 0, 9, 21, 5, 61], [21, 4, 62, 132, 4, 1, 167, 255, 186, 27, 154, 0, 7, 29, 167, 0], [4, 28, 172]]
theorem fcX11_best : fd_C cX11_best LcX11_best := ⟨by decide +kernel, by decide +kernel⟩
def LcX11_allTests : List (List Nat) := [[42, 180, 0, 92, 43, 43, 180, 0, 180, 182, 1, 50, 184, 1, 64, 172]]
theorem fcX11_allTests : fd_C cX11_allTests LcX11_allTests := ⟨by decide +kernel, by decide +kernel⟩
def LcX11_see : List (List Nat) := [[42, 182, 0, 204, 153, 0, 29, 42, 180, 0, 60, 42, 180, 0, 14, 42], [180, 0, 71, 42, 180, 0, 43, 182, 1, 108, 153, 0, 7, 4, 167, 0], [4, 3, 60, 42, 180, 0, 14, 3, 181, 0, 100, 27, 154, 0, 11, 42], [8, 182, 0, 103, 87, 2, 172, 42, 180, 0, 60, 180, 0, 153, 172]]
theorem fcX11_see : fd_C cX11_see LcX11_see := ⟨by decide +kernel, by decide +kernel⟩
def LcX11_sets : List (List Nat) := [[42, 182, 0, 204, 153, 0, 8, 27, 2, 162, 0, 5, 2, 172, 42, 180], [0, 60, 42, 180, 0, 71, 42, 180, 0, 43, 182, 1, 112, 27, 2, 160], [0, 11, 42, 180, 0, 60, 180, 1, 116, 172, 27, 42, 180, 0, 60, 180], [1, 116, 162, 0, 15, 42, 180, 0, 60, 180, 1, 119, 27, 46, 167, 0], [4, 2, 172]]
theorem fcX11_sets : fd_C cX11_sets LcX11_sets := ⟨by decide +kernel, by decide +kernel⟩
def LcX11_tells : List (List Nat) := [[42, 182, 0, 204, 153, 0, 12, 27, 155, 0, 8, 27, 4, 164, 0, 5], [2, 172, 42, 180, 0, 60, 42, 180, 0, 71, 42, 180, 0, 43, 182, 1], [112, 42, 180, 0, 60, 180, 1, 116, 154, 0, 5, 2, 172, 2, 61, 3], [62, 42, 180, 0, 24, 182, 1, 122, 3, 54, 4, 21, 4, 17, 3, 232], [162, 0, 80, 21, 4, 42, 180, 0, 71, 180, 0, 173, 162, 0, 68, 42], [180, 0, 71, 21, 4, 182, 0, 255, 54, 5, 42, 180, 0, 24, 21, 5], [182, 1, 125, 153, 0, 39, 42, 180, 0, 60, 42, 180, 0, 71, 42, 180], [0, 43, 21, 5, 182, 1, 128, 54, 6, 28, 2, 159, 0, 9, 21, 6], [29, 162, 0, 9, 21, 4, 61, 21, 6, 62, 132, 4, 1, 167, 255, 174], [27, 154, 0, 7, 28, 167, 0, 4, 29, 172]]
theorem fcX11_tells : fd_C cX11_tells LcX11_tells := ⟨by decide +kernel, by decide +kernel⟩
def LcX11_run : List (List Nat) := [[42, 180, 0, 71, 27, 182, 1, 2, 154, 0, 11, 42, 5, 182, 0, 103], [87, 2, 172, 42, 182, 1, 132, 42, 27, 182, 1, 135, 172]]
theorem fcX11_run : fd_C cX11_run LcX11_run := ⟨by decide +kernel, by decide +kernel⟩
def LcX11_runRow : List (List Nat) := [[42, 180, 0, 43, 42, 180, 0, 71, 42, 180, 0, 71, 27, 182, 0, 255], [42, 180, 0, 43, 180, 0, 177, 182, 0, 241, 61, 42, 180, 0, 53, 27], [42, 180, 0, 43, 28, 182, 0, 212, 42, 180, 0, 92, 42, 180, 0, 43], [27, 182, 1, 138, 182, 1, 141, 28, 172]]
theorem fcX11_runRow : fd_C cX11_runRow LcX11_runRow := ⟨by decide +kernel, by decide +kernel⟩
def LcX11_chance : List (List Nat) := [[42, 182, 0, 204, 153, 0, 14, 27, 4, 161, 0, 9, 27, 16, 40, 164], [0, 11, 42, 5, 182, 0, 103, 87, 2, 172, 42, 182, 1, 132, 3, 61], [3, 62, 29, 27, 162, 0, 31, 42, 42, 42, 180, 0, 71, 180, 0, 173], [182, 1, 145, 182, 1, 135, 2, 160, 0, 6, 132, 2, 1, 132, 3, 1], [167, 255, 226, 28, 172]]
theorem fcX11_chance : fd_C cX11_chance LcX11_chance := ⟨by decide +kernel, by decide +kernel⟩
def LcX11_draw : List (List Nat) := [[42, 19, 1, 148, 42, 180, 0, 96, 104, 17, 48, 57, 96, 19, 1, 149], [126, 181, 0, 96, 27, 158, 0, 15, 42, 180, 0, 96, 16, 6, 122, 27], [112, 167, 0, 4, 3, 172]]
theorem fcX11_draw : fd_C cX11_draw LcX11_draw := ⟨by decide +kernel, by decide +kernel⟩
def LcX11_swap : List (List Nat) := [[27, 28, 159, 0, 25, 42, 180, 0, 43, 27, 182, 1, 88, 153, 0, 14], [42, 180, 0, 43, 28, 182, 1, 88, 154, 0, 9, 42, 6, 182, 0, 103], [172, 42, 182, 1, 132, 42, 180, 0, 43, 27, 28, 182, 1, 94, 4, 172]]
theorem fcX11_swap : fd_C cX11_swap LcX11_swap := ⟨by decide +kernel, by decide +kernel⟩
def LcX11_drop : List (List Nat) := [[42, 180, 0, 43, 27, 182, 1, 88, 154, 0, 9, 42, 6, 182, 0, 103], [172, 42, 182, 1, 132, 42, 180, 0, 43, 27, 182, 1, 150, 4, 172]]
theorem fcX11_drop : fd_C cX11_drop LcX11_drop := ⟨by decide +kernel, by decide +kernel⟩
def LcX11_turn : List (List Nat) := [[42, 182, 0, 204, 153, 0, 13, 27, 155, 0, 9, 27, 16, 8, 161, 0], [11, 42, 6, 182, 0, 103, 87, 2, 172, 42, 182, 1, 132, 42, 180, 0], [43, 89, 180, 0, 177, 4, 27, 120, 130, 181, 0, 177, 42, 180, 0, 43], [180, 0, 177, 27, 184, 0, 234, 153, 0, 7, 4, 167, 0, 4, 3, 172]]
theorem fcX11_turn : fd_C cX11_turn LcX11_turn := ⟨by decide +kernel, by decide +kernel⟩
def LcX11_choose : List (List Nat) := [[42, 182, 0, 204, 153, 0, 21, 27, 184, 1, 47, 153, 0, 14, 27, 42], [180, 0, 43, 180, 0, 180, 160, 0, 9, 42, 6, 182, 0, 103, 172, 42], [182, 1, 132, 42, 180, 0, 43, 27, 181, 0, 180, 4, 172]]
theorem fcX11_choose : fd_C cX11_choose LcX11_choose := ⟨by decide +kernel, by decide +kernel⟩
def LcX11_undo : List (List Nat) := [[42, 180, 0, 53, 180, 0, 185, 154, 0, 9, 42, 7, 182, 0, 103, 172], [42, 180, 0, 53, 42, 180, 0, 43, 182, 1, 153, 4, 172]]
theorem fcX11_undo : fd_C cX11_undo LcX11_undo := ⟨by decide +kernel, by decide +kernel⟩
def LcX11_remember : List (List Nat) := [[42, 180, 0, 53, 42, 180, 0, 43, 182, 1, 156, 177]]
theorem fcX11_remember : fd_C cX11_remember LcX11_remember := ⟨by decide +kernel, by decide +kernel⟩
def LcX11_seed : List (List Nat) := [[27, 156, 0, 9, 42, 8, 182, 0, 103, 172, 42, 27, 181, 0, 96, 4], [172]]
theorem fcX11_seed : fd_C cX11_seed LcX11_seed := ⟨by decide +kernel, by decide +kernel⟩
def LcX11_kept : List (List Nat) := [[42, 180, 0, 53, 27, 28, 182, 1, 158, 172]]
theorem fcX11_kept : fd_C cX11_kept LcX11_kept := ⟨by decide +kernel, by decide +kernel⟩
def LcX11_image : List (List Nat) := [[42, 180, 0, 18, 3, 181, 0, 100, 42, 180, 0, 18, 42, 180, 0, 43], [180, 0, 176, 182, 1, 8, 3, 60, 27, 42, 180, 0, 43, 180, 0, 176], [162, 0, 25, 42, 180, 0, 18, 42, 180, 0, 43, 180, 1, 161, 27, 46], [182, 1, 8, 132, 1, 1, 167, 255, 226, 42, 180, 0, 18, 42, 180, 0], [43, 180, 0, 177, 182, 1, 8, 42, 180, 0, 18, 42, 180, 0, 43, 180], [0, 180, 182, 1, 8, 42, 180, 0, 18, 42, 180, 0, 18, 42, 180, 0], [18, 180, 0, 100, 182, 1, 164, 182, 1, 8, 42, 180, 0, 18, 180, 0], [100, 172]]
theorem fcX11_image : fd_C cX11_image LcX11_image := ⟨by decide +kernel, by decide +kernel⟩
def LcX11_on : List (List Nat) := [[42, 182, 0, 204, 153, 0, 14, 42, 182, 1, 167, 153, 0, 7, 4, 167], [0, 4, 3, 60, 27, 153, 0, 7, 42, 182, 1, 170, 42, 180, 0, 14], [3, 181, 0, 100, 27, 154, 0, 11, 42, 8, 182, 0, 103, 153, 0, 7], [4, 167, 0, 4, 3, 172]]
theorem fcX11_on : fd_C cX11_on LcX11_on := ⟨by decide +kernel, by decide +kernel⟩
def LcX11_isImage : List (List Nat) := [[42, 180, 0, 14, 3, 182, 1, 44, 60, 27, 155, 0, 27, 27, 42, 180], [0, 71, 180, 0, 123, 163, 0, 16, 42, 180, 0, 14, 180, 0, 100, 27], [7, 96, 159, 0, 5, 3, 172, 3, 61, 3, 62, 29, 27, 162, 0, 56], [42, 180, 0, 14, 4, 29, 96, 182, 1, 44, 54, 4, 21, 4, 155, 0], [24, 21, 4, 42, 180, 0, 71, 180, 0, 123, 162, 0, 12, 28, 21, 4], [184, 0, 234, 153, 0, 5, 3, 172, 28, 4, 21, 4, 120, 128, 61, 132], [3, 1, 167, 255, 201, 42, 180, 0, 14, 27, 5, 96, 182, 1, 44, 184], [1, 47, 153, 0, 30, 42, 180, 0, 14, 27, 6, 96, 182, 1, 44, 42], [180, 0, 14, 27, 6, 96, 182, 1, 164, 160, 0, 7, 4, 167, 0, 4], [3, 172]]
theorem fcX11_isImage : fd_C cX11_isImage LcX11_isImage := ⟨by decide +kernel, by decide +kernel⟩
def LcX11_takeImage : List (List Nat) := [[42, 180, 0, 14, 3, 182, 1, 44, 16, 12, 184, 1, 173, 60, 3, 61], [28, 27, 162, 0, 28, 42, 180, 0, 43, 180, 1, 161, 28, 42, 180, 0], [14, 4, 28, 96, 182, 1, 44, 79, 132, 2, 1, 167, 255, 229, 42, 180], [0, 43, 27, 3, 184, 1, 178, 181, 0, 176, 42, 180, 0, 43, 42, 180], [0, 14, 27, 4, 96, 182, 1, 44, 181, 0, 177, 42, 180, 0, 43, 42], [180, 0, 14, 27, 5, 96, 182, 1, 44, 181, 0, 180, 42, 180, 0, 53], [182, 0, 150, 177]]
theorem fcX11_takeImage : fd_C cX11_takeImage LcX11_takeImage := ⟨by decide +kernel, by decide +kernel⟩
def LcX11_status : List (List Nat) := [[27, 155, 0, 18, 27, 16, 6, 162, 0, 12, 42, 180, 0, 64, 27, 46], [167, 0, 4, 2, 172]]
theorem fcX11_status : fd_C cX11_status LcX11_status := ⟨by decide +kernel, by decide +kernel⟩
def LcX11_refuse : List (List Nat) := [[27, 155, 0, 19, 27, 16, 6, 162, 0, 13, 42, 180, 0, 64, 27, 92], [46, 4, 96, 79, 3, 172]]
theorem fcX11_refuse : fd_C cX11_refuse LcX11_refuse := ⟨by decide +kernel, by decide +kernel⟩
def LcX11_matched : List (List Nat) := [[42, 180, 0, 71, 180, 0, 130, 158, 0, 7, 4, 167, 0, 4, 3, 172]]
theorem fcX11_matched : fd_C cX11_matched LcX11_matched := ⟨by decide +kernel, by decide +kernel⟩
def LcX11_isRule : List (List Nat) := [[26, 155, 0, 12, 26, 7, 162, 0, 7, 4, 167, 0, 4, 3, 172]]
theorem fcX11_isRule : fd_C cX11_isRule LcX11_isRule := ⟨by decide +kernel, by decide +kernel⟩
def LcX11_isIn : List (List Nat) := [[26, 27, 122, 4, 126, 153, 0, 7, 4, 167, 0, 4, 3, 172]]
theorem fcX11_isIn : fd_C cX11_isIn LcX11_isIn := ⟨by decide +kernel, by decide +kernel⟩
def LcX11_letterOf : List (List Nat) := [[26, 61, 8, 62, 29, 27, 164, 0, 14, 28, 16, 27, 108, 61, 132, 3], [255, 167, 255, 243, 28, 16, 27, 112, 172]]
theorem fcX11_letterOf : fd_C cX11_letterOf LcX11_letterOf := ⟨by decide +kernel, by decide +kernel⟩
def LcX12_init : List (List Nat) := [[42, 183, 0, 1, 42, 17, 7, 8, 188, 10, 181, 0, 7, 42, 3, 181], [0, 13, 42, 3, 181, 0, 17, 42, 3, 181, 0, 20, 42, 3, 181, 0], [23, 42, 3, 181, 0, 26, 42, 3, 181, 0, 29, 42, 9, 181, 0, 32], [42, 3, 181, 0, 36, 42, 2, 181, 0, 39, 42, 3, 181, 0, 42, 42], [2, 181, 0, 45, 42, 2, 181, 0, 48, 42, 3, 181, 0, 51, 42, 5], [188, 10, 181, 0, 54, 42, 16, 10, 188, 10, 181, 0, 57, 42, 16, 10], [188, 10, 181, 0, 60, 42, 5, 188, 10, 181, 0, 63, 42, 16, 48, 188], [10, 181, 0, 66, 42, 16, 48, 188, 10, 181, 0, 69, 42, 16, 96, 188], [10, 181, 0, 72, 42, 16, 48, 188, 10, 181, 0, 75, 42, 16, 48, 188], [10, 181, 0, 78, 42, 5, 188, 10, 181, 0, 81, 42, 16, 8, 188, 10], [181, 0, 84, 42, 5, 188, 10, 181, 0, 87, 42, 16, 24, 188, 10, 181], [0, 90, 42, 5, 188, 10, 181, 0, 93, 42, 5, 188, 10, 181, 0, 96], [42, 16, 96, 188, 10, 181, 0, 99, 42, 16, 96, 188, 10, 181, 0, 102], [42, 17, 21, 224, 188, 10, 181, 0, 105, 42, 17, 21, 224, 188, 10, 181], [0, 108, 42, 17, 21, 224, 188, 10, 181, 0, 111, 42, 16, 8, 188, 11], [181, 0, 114, 42, 16, 48, 188, 11, 181, 0, 118, 42, 3, 181, 0, 121], [42, 4, 181, 0, 124, 42, 3, 181, 0, 127, 42, 16, 10, 188, 10, 181], [0, 131, 42, 16, 10, 188, 10, 181, 0, 134, 42, 16, 10, 188, 10, 181], [0, 137, 42, 16, 10, 188, 10, 181, 0, 140, 42, 3, 181, 0, 143, 42], [3, 181, 0, 146, 42, 16, 6, 188, 10, 181, 0, 149, 42, 16, 12, 188], [10, 181, 0, 152, 42, 17, 3, 132, 188, 10, 181, 0, 155, 42, 17, 31], [104, 188, 10, 181, 0, 158, 42, 17, 31, 104, 188, 10, 181, 0, 161, 42], [7, 188, 10, 181, 0, 164, 42, 17, 16, 0, 188, 10, 181, 0, 167, 42], [3, 181, 0, 170, 42, 16, 22, 188, 10, 181, 0, 173, 42, 17, 1, 8], [188, 10, 181, 0, 176, 42, 16, 22, 188, 10, 181, 0, 179, 42, 16, 22], [188, 10, 181, 0, 182, 42, 16, 22, 188, 10, 181, 0, 185, 42, 17, 10], [80, 188, 10, 181, 0, 188, 42, 3, 181, 0, 191, 42, 3, 181, 0, 194], [42, 10, 181, 0, 197, 42, 3, 181, 0, 200, 42, 17, 31, 104, 188, 10], [181, 0, 203, 42, 7, 188, 10, 181, 0, 206, 42, 16, 12, 188, 10, 181], [0, 209, 42, 3, 181, 0, 212, 42, 7, 188, 10, 181, 0, 215, 42, 17], [16, 0, 188, 10, 181, 0, 218, 42, 17, 7, 8, 188, 10, 181, 0, 221], [42, 3, 181, 0, 224, 42, 16, 40, 188, 10, 181, 0, 227, 42, 16, 40], [188, 10, 181, 0, 230, 42, 3, 181, 0, 233, 42, 3, 181, 0, 236, 42], [18, 239, 188, 10, 181, 0, 240, 42, 3, 181, 0, 243, 42, 17, 16, 0], [188, 10, 181, 0, 246, 42, 3, 181, 0, 249, 42, 18, 239, 188, 10, 181], [0, 252, 42, 18, 239, 188, 10, 181, 0, 255, 42, 3, 181, 1, 2, 42], [18, 239, 188, 10, 181, 1, 5, 42, 16, 40, 188, 10, 181, 1, 8, 42], [16, 40, 188, 10, 181, 1, 11, 42, 16, 40, 188, 10, 181, 1, 14, 42], [17, 3, 232, 188, 10, 181, 1, 17, 42, 3, 181, 1, 20, 42, 3, 181], [1, 23, 42, 3, 181, 1, 26, 42, 3, 181, 1, 29, 42, 16, 12, 188], [10, 181, 1, 32, 42, 3, 181, 1, 35, 42, 16, 16, 188, 10, 181, 1], [38, 42, 16, 16, 188, 10, 181, 1, 41, 42, 17, 1, 0, 188, 10, 181], [1, 44, 42, 17, 1, 0, 188, 10, 181, 1, 47, 42, 16, 13, 188, 10], [181, 1, 50, 42, 182, 1, 53, 177]]
theorem fcX12_init : fd_C cX12_init LcX12_init := ⟨by decide +kernel, by decide +kernel⟩
def LcX12_is : List (List Nat) := [[26, 27, 161, 0, 12, 26, 28, 163, 0, 7, 4, 167, 0, 4, 3, 172]]
theorem fcX12_is : fd_C cX12_is LcX12_is := ⟨by decide +kernel, by decide +kernel⟩
def LcX12_put : List (List Nat) := [[16, 24, 61, 28, 155, 0, 35, 42, 180, 0, 7, 42, 180, 0, 13, 27], [28, 122, 17, 0, 255, 126, 79, 42, 89, 180, 0, 13, 4, 96, 181, 0], [13, 132, 2, 248, 167, 255, 223, 177]]
theorem fcX12_put : fd_C cX12_put LcX12_put := ⟨by decide +kernel, by decide +kernel⟩
def LcX12_feed : List (List Nat) := [[42, 180, 0, 13, 16, 20, 96, 17, 6, 64, 164, 0, 9, 42, 3, 182], [1, 56, 172, 42, 27, 182, 1, 60, 42, 28, 182, 1, 60, 42, 29, 182], [1, 60, 42, 21, 4, 182, 1, 60, 42, 21, 5, 182, 1, 60, 42, 180], [0, 13, 172]]
theorem fcX12_feed : fd_C cX12_feed LcX12_feed := ⟨by decide +kernel, by decide +kernel⟩
def LcX12_end : List (List Nat) := [[27, 155, 0, 11, 27, 42, 180, 0, 13, 164, 0, 17, 42, 3, 182, 1], [56, 155, 0, 7, 4, 167, 0, 4, 3, 172, 42, 27, 181, 0, 13, 4], [172]]
theorem fcX12_end : fd_C cX12_end LcX12_end := ⟨by decide +kernel, by decide +kernel⟩
def LcX12_blame : List (List Nat) := [[42, 180, 0, 36, 158, 0, 4, 177, 42, 27, 181, 0, 36, 42, 28, 181], [0, 39, 177]]
theorem fcX12_blame : fd_C cX12_blame LcX12_blame := ⟨by decide +kernel, by decide +kernel⟩
def LcX12_isLetter : List (List Nat) := [[26, 16, 97, 161, 0, 13, 26, 16, 122, 163, 0, 7, 4, 167, 0, 4], [3, 172]]
theorem fcX12_isLetter : fd_C cX12_isLetter LcX12_isLetter := ⟨by decide +kernel, by decide +kernel⟩
def LcX12_isDigit : List (List Nat) := [[26, 16, 48, 161, 0, 13, 26, 16, 57, 163, 0, 7, 4, 167, 0, 4], [3, 172]]
theorem fcX12_isDigit : fd_C cX12_isDigit LcX12_isDigit := ⟨by decide +kernel, by decide +kernel⟩
def LcX12_lex : List (List Nat) := [[42, 180, 0, 48, 2, 159, 0, 12, 42, 4, 42, 180, 0, 48, 182, 1], [64, 177]]
theorem fcX12_lex : fd_C cX12_lex LcX12_lex := ⟨by decide +kernel, by decide +kernel⟩
def LcX12_ahead : List (List Nat) := [[42, 180, 0, 26, 60, 27, 42, 180, 0, 17, 162, 0, 31, 42, 180, 0], [7, 27, 46, 16, 32, 159, 0, 14, 42, 180, 0, 7, 27, 46, 16, 10], [160, 0, 9, 132, 1, 1, 167, 255, 223, 42, 27, 181, 0, 23, 42, 27], [181, 0, 26, 42, 3, 181, 0, 20, 42, 2, 181, 0, 48, 27, 42, 180], [0, 17, 161, 0, 4, 177, 42, 180, 0, 7, 27, 46, 184, 1, 68, 61], [42, 180, 0, 7, 27, 46, 184, 1, 72, 62, 28, 154, 0, 7, 29, 153], [0, 40, 27, 158, 0, 36, 42, 180, 0, 7, 27, 4, 100, 46, 184, 1], [68, 154, 0, 17, 42, 180, 0, 7, 27, 4, 100, 46, 184, 1, 72, 153], [0, 8, 42, 27, 181, 0, 48, 42, 3, 181, 0, 29, 42, 9, 181, 0], [32, 42, 6, 181, 0, 20, 42, 27, 4, 96, 181, 0, 26, 28, 154, 0], [18, 29, 154, 0, 14, 42, 42, 180, 0, 7, 27, 46, 181, 0, 29, 177], [42, 28, 153, 0, 7, 4, 167, 0, 4, 5, 181, 0, 20, 28, 153, 0], [8, 16, 6, 167, 0, 4, 7, 54, 4, 3, 54, 5, 27, 42, 180, 0], [17, 162, 0, 125, 28, 153, 0, 18, 42, 180, 0, 7, 27, 46, 184, 1], [68, 153, 0, 109, 167, 0, 15, 42, 180, 0, 7, 27, 46, 184, 1, 72], [153, 0, 94, 21, 5, 21, 4, 160, 0, 16, 42, 180, 0, 48, 2, 160], [0, 8, 42, 27, 181, 0, 48, 21, 5, 21, 4, 162, 0, 26, 28, 153], [0, 22, 42, 42, 180, 0, 32, 16, 8, 121, 42, 180, 0, 7, 27, 46], [133, 129, 181, 0, 32, 21, 5, 21, 4, 162, 0, 28, 29, 153, 0, 24], [42, 16, 10, 42, 180, 0, 29, 104, 42, 180, 0, 7, 27, 46, 96, 16], [48, 100, 181, 0, 29, 132, 5, 1, 132, 1, 1, 167, 255, 129, 42, 27], [181, 0, 26, 177]]
theorem fcX12_ahead : fd_C cX12_ahead LcX12_ahead := ⟨by decide +kernel, by decide +kernel⟩
def LcX12_isSign : List (List Nat) := [[42, 180, 0, 20, 6, 160, 0, 15, 42, 180, 0, 29, 27, 160, 0, 7], [4, 167, 0, 4, 3, 172]]
theorem fcX12_isSign : fd_C cX12_isSign LcX12_isSign := ⟨by decide +kernel, by decide +kernel⟩
def LcX12_isWord : List (List Nat) := [[42, 180, 0, 20, 4, 160, 0, 16, 42, 180, 0, 32, 31, 148, 154, 0], [7, 4, 167, 0, 4, 3, 172]]
theorem fcX12_isWord : fd_C cX12_isWord LcX12_isWord := ⟨by decide +kernel, by decide +kernel⟩
def LcX12_must : List (List Nat) := [[42, 182, 1, 75, 42, 27, 182, 1, 78, 154, 0, 12, 42, 4, 42, 180], [0, 23, 182, 1, 64, 42, 180, 0, 36, 154, 0, 7, 42, 182, 1, 81], [177]]
theorem fcX12_must : fd_C cX12_must LcX12_must := ⟨by decide +kernel, by decide +kernel⟩
def LcX12_isOwn : List (List Nat) := [[31, 20, 1, 84, 148, 153, 0, 35, 31, 20, 1, 86, 148, 153, 0, 27], [31, 20, 1, 88, 148, 153, 0, 19, 31, 20, 1, 90, 148, 153, 0, 11], [31, 20, 1, 92, 148, 154, 0, 5, 4, 172, 31, 20, 1, 94, 148, 153], [0, 35, 31, 20, 1, 96, 148, 153, 0, 27, 31, 20, 1, 98, 148, 153], [0, 19, 31, 20, 1, 100, 148, 153, 0, 11, 31, 20, 1, 102, 148, 154], [0, 5, 4, 172, 31, 20, 1, 104, 148, 154, 0, 5, 4, 172, 3, 172]]
theorem fcX12_isOwn : fd_C cX12_isOwn LcX12_isOwn := ⟨by decide +kernel, by decide +kernel⟩
def LcX12_number : List (List Nat) := [[42, 182, 1, 75, 42, 180, 0, 36, 158, 0, 5, 3, 172, 42, 180, 0], [20, 5, 159, 0, 12, 42, 4, 42, 180, 0, 23, 182, 1, 64, 42, 180], [0, 36, 154, 0, 24, 42, 180, 0, 29, 27, 28, 184, 1, 106, 154, 0], [12, 42, 7, 42, 180, 0, 23, 182, 1, 64, 42, 180, 0, 29, 62, 42], [180, 0, 36, 154, 0, 7, 42, 182, 1, 81, 29, 172]]
theorem fcX12_number : fd_C cX12_number LcX12_number := ⟨by decide +kernel, by decide +kernel⟩
def LcX12_isCounted : List (List Nat) := [[42, 180, 0, 36, 154, 0, 17, 27, 153, 0, 13, 42, 16, 6, 42, 180], [0, 23, 182, 1, 64, 42, 180, 0, 36, 154, 0, 7, 42, 182, 1, 81], [42, 180, 0, 36, 154, 0, 7, 4, 167, 0, 4, 3, 172]]
theorem fcX12_isCounted : fd_C cX12_isCounted LcX12_isCounted := ⟨by decide +kernel, by decide +kernel⟩
def LcX12_kindNamed : List (List Nat) := [[3, 62, 29, 42, 180, 0, 54, 42, 180, 0, 124, 46, 162, 0, 29, 42], [180, 0, 114, 7, 42, 180, 0, 124, 104, 29, 96, 47, 31, 148, 154, 0], [5, 29, 172, 132, 3, 1, 167, 255, 220, 2, 172]]
theorem fcX12_kindNamed : fd_C cX12_kindNamed LcX12_kindNamed := ⟨by decide +kernel, by decide +kernel⟩
def LcX12_conNamed : List (List Nat) := [[3, 54, 4, 21, 4, 42, 180, 0, 63, 27, 46, 162, 0, 29, 42, 180], [0, 118, 16, 24, 27, 104, 21, 4, 96, 47, 32, 148, 154, 0, 6, 21], [4, 172, 132, 4, 1, 167, 255, 222, 2, 172]]
theorem fcX12_conNamed : fd_C cX12_conNamed LcX12_conNamed := ⟨by decide +kernel, by decide +kernel⟩
def LcX12_valuesOf : List (List Nat) := [[28, 7, 160, 0, 8, 16, 20, 167, 0, 13, 42, 180, 0, 57, 7, 27], [104, 28, 96, 46, 172]]
theorem fcX12_valuesOf : fd_C cX12_valuesOf LcX12_valuesOf := ⟨by decide +kernel, by decide +kernel⟩
def LcX12_fresh : List (List Nat) := [[42, 182, 1, 75, 42, 180, 0, 36, 158, 0, 5, 9, 173, 42, 180, 0], [20, 4, 160, 0, 14, 42, 42, 180, 0, 32, 182, 1, 110, 153, 0, 12], [42, 4, 42, 180, 0, 23, 182, 1, 64, 42, 180, 0, 36, 154, 0, 40], [42, 42, 180, 0, 32, 182, 1, 114, 2, 160, 0, 19, 42, 42, 180, 0], [124, 42, 180, 0, 32, 182, 1, 118, 2, 159, 0, 12, 42, 5, 42, 180], [0, 23, 182, 1, 64, 42, 180, 0, 32, 64, 42, 180, 0, 36, 154, 0], [7, 42, 182, 1, 81, 31, 173]]
theorem fcX12_fresh : fd_C cX12_fresh LcX12_fresh := ⟨by decide +kernel, by decide +kernel⟩
def LcX12_kindIs : List (List Nat) := [[42, 180, 0, 127, 153, 0, 12, 42, 4, 42, 180, 0, 23, 182, 1, 64], [42, 42, 180, 0, 54, 42, 180, 0, 124, 46, 7, 160, 0, 7, 4, 167], [0, 4, 3, 182, 1, 122, 154, 0, 4, 177, 42, 182, 1, 126, 64, 42], [180, 0, 36, 158, 0, 4, 177, 7, 42, 180, 0, 124, 104, 42, 180, 0], [54, 42, 180, 0, 124, 46, 96, 62, 42, 180, 0, 114, 29, 31, 80, 42], [180, 0, 57, 29, 3, 79, 42, 180, 0, 60, 29, 3, 79, 42, 180, 0], [54, 42, 180, 0, 124, 92, 46, 4, 96, 79, 177]]
theorem fcX12_kindIs : fd_C cX12_kindIs LcX12_kindIs := ⟨by decide +kernel, by decide +kernel⟩
def LcX12_known : List (List Nat) := [[42, 182, 1, 75, 42, 180, 0, 36, 158, 0, 5, 3, 172, 42, 20, 1], [98, 182, 1, 130, 61, 42, 180, 0, 20, 4, 160, 0, 18, 42, 42, 180], [0, 32, 182, 1, 110, 153, 0, 16, 28, 154, 0, 12, 42, 4, 42, 180], [0, 23, 182, 1, 64, 42, 180, 0, 36, 157, 0, 7, 28, 153, 0, 7], [7, 167, 0, 11, 42, 42, 180, 0, 32, 182, 1, 114, 62, 42, 180, 0], [36, 154, 0, 42, 28, 154, 0, 38, 29, 2, 159, 0, 24, 29, 27, 162], [0, 19, 42, 180, 0, 57, 7, 42, 180, 0, 124, 104, 29, 96, 46, 154], [0, 12, 42, 6, 42, 180, 0, 23, 182, 1, 64, 42, 180, 0, 36, 158], [0, 7, 7, 167, 0, 4, 29, 172]]
theorem fcX12_known : fd_C cX12_known LcX12_known := ⟨by decide +kernel, by decide +kernel⟩
def LcX12_isKindHere : List (List Nat) := [[42, 180, 0, 20, 4, 160, 0, 36, 42, 180, 0, 48, 2, 160, 0, 28], [42, 20, 1, 98, 182, 1, 130, 154, 0, 14, 42, 42, 180, 0, 32, 182], [1, 110, 154, 0, 7, 4, 167, 0, 4, 3, 172]]
theorem fcX12_isKindHere : fd_C cX12_isKindHere LcX12_isKindHere := ⟨by decide +kernel, by decide +kernel⟩
def LcX12_conIs : List (List Nat) := [[42, 180, 0, 54, 42, 180, 0, 124, 46, 4, 100, 60, 42, 180, 0, 127], [154, 0, 7, 27, 156, 0, 12, 42, 4, 42, 180, 0, 23, 182, 1, 64], [42, 27, 155, 0, 25, 42, 180, 0, 60, 7, 42, 180, 0, 124, 104, 27], [96, 46, 16, 6, 160, 0, 7, 4, 167, 0, 4, 3, 182, 1, 122, 154], [0, 4, 177, 42, 182, 1, 126, 65, 42, 180, 0, 36, 158, 0, 4, 177], [16, 24, 42, 180, 0, 124, 104, 42, 180, 0, 63, 42, 180, 0, 124, 46], [96, 54, 4, 42, 180, 0, 57, 7, 42, 180, 0, 124, 104, 27, 96, 46], [54, 5, 42, 180, 0, 118, 21, 4, 32, 80, 42, 180, 0, 66, 21, 4], [27, 79, 42, 180, 0, 69, 21, 4, 3, 79, 42, 180, 0, 75, 21, 4], [21, 5, 79, 42, 180, 0, 78, 21, 4, 4, 79, 42, 182, 1, 75, 42], [180, 0, 36, 154, 0, 140, 42, 182, 1, 133, 153, 0, 133, 42, 180, 0], [69, 21, 4, 46, 5, 160, 0, 13, 42, 16, 6, 42, 180, 0, 23, 182], [1, 64, 42, 27, 182, 1, 137, 54, 6, 42, 180, 0, 36, 158, 0, 4], [177, 42, 180, 0, 72, 5, 21, 4, 104, 42, 180, 0, 69, 21, 4, 46], [96, 21, 6, 79, 42, 180, 0, 69, 21, 4, 92, 46, 4, 96, 79, 42], [180, 0, 78, 21, 4, 92, 46, 42, 42, 180, 0, 124, 21, 6, 182, 1], [140, 104, 79, 21, 5, 42, 180, 0, 78, 21, 4, 46, 96, 17, 7, 208], [164, 0, 12, 42, 7, 42, 180, 0, 23, 182, 1, 64, 42, 180, 0, 36], [158, 0, 4, 177, 42, 182, 1, 81, 42, 182, 1, 75, 167, 255, 115, 42], [180, 0, 36, 158, 0, 4, 177, 42, 180, 0, 57, 7, 42, 180, 0, 124], [104, 27, 96, 92, 46, 42, 180, 0, 78, 21, 4, 46, 96, 79, 42, 180], [0, 60, 7, 42, 180, 0, 124, 104, 27, 96, 92, 46, 4, 96, 79, 42], [180, 0, 63, 42, 180, 0, 124, 92, 46, 4, 96, 79, 177]]
theorem fcX12_conIs : fd_C cX12_conIs LcX12_conIs := ⟨by decide +kernel, by decide +kernel⟩
def LcX12_matchIs : List (List Nat) := [[42, 42, 180, 0, 127, 182, 1, 122, 154, 0, 4, 177, 42, 4, 181, 0], [127, 4, 60, 42, 182, 1, 75, 42, 180, 0, 36, 154, 0, 19, 42, 182], [1, 133, 154, 0, 12, 42, 4, 42, 180, 0, 23, 182, 1, 64, 42, 180], [0, 36, 154, 0, 129, 42, 182, 1, 133, 153, 0, 122, 42, 180, 0, 81], [42, 180, 0, 124, 46, 7, 160, 0, 13, 42, 16, 6, 42, 180, 0, 23], [182, 1, 64, 42, 7, 182, 1, 137, 61, 42, 180, 0, 36, 158, 0, 4], [177, 42, 180, 0, 84, 7, 42, 180, 0, 124, 104, 42, 180, 0, 81, 42], [180, 0, 124, 46, 96, 28, 79, 42, 180, 0, 81, 42, 180, 0, 124, 92], [46, 4, 96, 79, 27, 42, 42, 180, 0, 124, 28, 182, 1, 140, 104, 60], [27, 17, 78, 32, 164, 0, 12, 42, 7, 42, 180, 0, 23, 182, 1, 64], [42, 180, 0, 36, 158, 0, 4, 177, 42, 182, 1, 81, 42, 182, 1, 75], [167, 255, 126, 177]]
theorem fcX12_matchIs : fd_C cX12_matchIs LcX12_matchIs := ⟨by decide +kernel, by decide +kernel⟩
def LcX12_emits : List (List Nat) := [[17, 10, 240, 42, 180, 0, 124, 104, 42, 180, 0, 121, 96, 54, 4, 42], [180, 0, 105, 21, 4, 27, 79, 42, 180, 0, 108, 21, 4, 28, 79, 42], [180, 0, 111, 21, 4, 29, 79, 42, 89, 180, 0, 121, 4, 96, 181, 0], [121, 177]]
theorem fcX12_emits : fd_C cX12_emits LcX12_emits := ⟨by decide +kernel, by decide +kernel⟩
def LcX12_opensPattern : List (List Nat) := [[42, 89, 180, 0, 143, 4, 96, 181, 0, 143, 42, 180, 0, 131, 42, 180], [0, 143, 27, 79, 42, 180, 0, 134, 42, 180, 0, 143, 3, 79, 177]]
theorem fcX12_opensPattern : fd_C cX12_opensPattern LcX12_opensPattern := ⟨by decide +kernel, by decide +kernel⟩
def LcX12_fieldBegins : List (List Nat) := [[42, 180, 0, 137, 42, 180, 0, 143, 27, 79, 42, 180, 0, 140, 42, 180], [0, 143, 28, 79, 42, 6, 27, 28, 182, 1, 144, 42, 42, 180, 0, 72], [5, 16, 24, 42, 180, 0, 124, 104, 27, 96, 104, 28, 96, 46, 182, 1], [148, 177]]
theorem fcX12_fieldBegins : fd_C cX12_fieldBegins LcX12_fieldBegins := ⟨by decide +kernel, by decide +kernel⟩
def LcX12_range : List (List Nat) := [[42, 3, 16, 19, 182, 1, 151, 60, 42, 180, 0, 36, 158, 0, 4, 177], [42, 182, 1, 75, 27, 61, 42, 180, 0, 36, 154, 0, 25, 42, 20, 1], [104, 182, 1, 130, 153, 0, 15, 42, 182, 1, 81, 42, 27, 16, 19, 182], [1, 151, 61, 42, 180, 0, 36, 154, 0, 10, 42, 4, 27, 28, 182, 1], [144, 177]]
theorem fcX12_range : fd_C cX12_range LcX12_range := ⟨by decide +kernel, by decide +kernel⟩
def LcX12_alternative : List (List Nat) := [[42, 182, 1, 75, 42, 180, 0, 36, 158, 0, 5, 4, 172, 42, 20, 1], [100, 182, 1, 130, 153, 0, 16, 42, 182, 1, 81, 42, 3, 3, 3, 182], [1, 144, 4, 172, 42, 180, 0, 131, 42, 180, 0, 143, 46, 60, 27, 7], [160, 0, 9, 42, 182, 1, 154, 4, 172, 42, 180, 0, 20, 4, 160, 0], [14, 42, 42, 180, 0, 32, 182, 1, 110, 153, 0, 12, 42, 4, 42, 180], [0, 23, 182, 1, 64, 42, 180, 0, 36, 158, 0, 7, 2, 167, 0, 15], [42, 42, 180, 0, 124, 42, 180, 0, 32, 182, 1, 118, 61, 42, 180, 0], [36, 154, 0, 35, 28, 2, 159, 0, 21, 42, 180, 0, 66, 16, 24, 42], [180, 0, 124, 104, 28, 96, 46, 27, 159, 0, 12, 42, 6, 42, 180, 0], [23, 182, 1, 64, 42, 180, 0, 36, 158, 0, 5, 4, 172, 42, 182, 1], [81, 42, 5, 28, 3, 182, 1, 144, 42, 180, 0, 69, 16, 24, 42, 180], [0, 124, 104, 28, 96, 46, 154, 0, 5, 4, 172, 42, 16, 40, 182, 1], [157, 42, 180, 0, 36, 154, 0, 9, 42, 28, 3, 182, 1, 160, 42, 180], [0, 36, 158, 0, 7, 4, 167, 0, 4, 3, 172]]
theorem fcX12_alternative : fd_C cX12_alternative LcX12_alternative := ⟨by decide +kernel, by decide +kernel⟩
def LcX12_goesOn : List (List Nat) := [[42, 180, 0, 36, 154, 0, 188, 42, 180, 0, 134, 42, 180, 0, 143, 46], [158, 0, 11, 42, 16, 6, 3, 3, 182, 1, 144, 42, 180, 0, 134, 42], [180, 0, 143, 92, 46, 4, 96, 79, 42, 182, 1, 75, 42, 180, 0, 36], [158, 0, 5, 3, 172, 42, 20, 1, 102, 182, 1, 130, 153, 0, 9, 42], [182, 1, 81, 4, 172, 42, 89, 180, 0, 143, 4, 100, 181, 0, 143, 42], [180, 0, 143, 27, 160, 0, 5, 3, 172, 42, 7, 3, 3, 182, 1, 144], [42, 8, 3, 3, 182, 1, 144, 42, 180, 0, 137, 42, 180, 0, 143, 46], [61, 42, 180, 0, 140, 42, 180, 0, 143, 46, 4, 96, 42, 180, 0, 69], [16, 24, 42, 180, 0, 124, 104, 28, 96, 46, 162, 0, 45, 42, 16, 44], [182, 1, 157, 42, 180, 0, 36, 154, 0, 19, 42, 28, 42, 180, 0, 140], [42, 180, 0, 143, 46, 4, 96, 182, 1, 160, 42, 180, 0, 36, 154, 0], [7, 4, 167, 0, 4, 3, 172, 42, 16, 41, 182, 1, 157, 167, 255, 67], [3, 172]]
theorem fcX12_goesOn : fd_C cX12_goesOn LcX12_goesOn := ⟨by decide +kernel, by decide +kernel⟩
def LcX12_pattern : List (List Nat) := [[42, 3, 181, 0, 143, 42, 27, 182, 1, 148, 4, 61, 28, 153, 0, 26], [42, 180, 0, 36, 154, 0, 19, 42, 182, 1, 163, 153, 255, 241, 42, 3], [182, 1, 166, 61, 167, 255, 232, 177]]
theorem fcX12_pattern : fd_C cX12_pattern LcX12_pattern := ⟨by decide +kernel, by decide +kernel⟩
def LcX12_armIs : List (List Nat) := [[42, 180, 0, 127, 154, 0, 12, 42, 4, 42, 180, 0, 23, 182, 1, 64], [42, 42, 180, 0, 87, 42, 180, 0, 124, 46, 16, 12, 160, 0, 7, 4], [167, 0, 4, 3, 182, 1, 122, 154, 0, 4, 177, 16, 12, 42, 180, 0], [124, 104, 42, 180, 0, 87, 42, 180, 0, 124, 46, 96, 60, 3, 61, 28], [42, 180, 0, 81, 42, 180, 0, 124, 46, 162, 0, 78, 42, 180, 0, 36], [154, 0, 71, 28, 158, 0, 9, 42, 16, 44, 182, 1, 157, 42, 180, 0], [99, 7, 27, 104, 28, 96, 42, 180, 0, 121, 79, 42, 180, 0, 36, 154], [0, 20, 42, 42, 180, 0, 84, 7, 42, 180, 0, 124, 104, 28, 96, 46], [182, 1, 169, 42, 180, 0, 102, 7, 27, 104, 28, 96, 42, 180, 0, 121], [79, 132, 2, 1, 167, 255, 171, 42, 180, 0, 90, 27, 2, 79, 42, 182], [1, 75, 42, 180, 0, 36, 154, 0, 30, 42, 20, 1, 92, 182, 1, 130], [153, 0, 20, 42, 182, 1, 81, 42, 180, 0, 90, 27, 42, 3, 16, 7], [182, 1, 151, 79, 42, 180, 0, 36, 154, 0, 16, 42, 180, 0, 87, 42], [180, 0, 124, 92, 46, 4, 96, 79, 177]]
theorem fcX12_armIs : fd_C cX12_armIs LcX12_armIs := ⟨by decide +kernel, by decide +kernel⟩
def LcX12_ruleIs : List (List Nat) := [[42, 3, 182, 1, 122, 154, 0, 4, 177, 42, 180, 0, 93, 42, 180, 0], [124, 42, 3, 6, 182, 1, 151, 79, 177]]
theorem fcX12_ruleIs : fd_C cX12_ruleIs LcX12_ruleIs := ⟨by decide +kernel, by decide +kernel⟩
def LcX12_budgetIs : List (List Nat) := [[42, 3, 182, 1, 122, 154, 0, 4, 177, 42, 180, 0, 96, 42, 180, 0], [124, 42, 4, 17, 3, 231, 182, 1, 151, 79, 177]]
theorem fcX12_budgetIs : fd_C cX12_budgetIs LcX12_budgetIs := ⟨by decide +kernel, by decide +kernel⟩
def LcX12_statement : List (List Nat) := [[42, 182, 1, 75, 42, 180, 0, 36, 158, 0, 4, 177, 42, 20, 1, 84], [182, 1, 130, 153, 0, 10, 42, 182, 1, 172, 167, 0, 97, 42, 20, 1], [86, 182, 1, 130, 153, 0, 10, 42, 182, 1, 175, 167, 0, 80, 42, 20], [1, 88, 182, 1, 130, 153, 0, 10, 42, 182, 1, 178, 167, 0, 63, 42], [20, 1, 90, 182, 1, 130, 153, 0, 10, 42, 182, 1, 181, 167, 0, 46], [42, 20, 1, 94, 182, 1, 130, 153, 0, 10, 42, 182, 1, 184, 167, 0], [29, 42, 20, 1, 96, 182, 1, 130, 153, 0, 10, 42, 182, 1, 187, 167], [0, 12, 42, 4, 42, 180, 0, 23, 182, 1, 64, 177]]
theorem fcX12_statement : fd_C cX12_statement LcX12_statement := ⟨by decide +kernel, by decide +kernel⟩
def LcX12_finishes : List (List Nat) := [[42, 182, 1, 75, 42, 180, 0, 36, 158, 0, 4, 177, 42, 180, 0, 26], [61, 28, 42, 180, 0, 17, 162, 0, 31, 42, 180, 0, 7, 28, 46, 16], [32, 159, 0, 14, 42, 180, 0, 7, 28, 46, 16, 10, 160, 0, 9, 132], [2, 1, 167, 255, 223, 42, 16, 59, 182, 1, 78, 153, 0, 24, 27, 16], [60, 160, 0, 18, 28, 42, 180, 0, 17, 162, 0, 10, 42, 16, 6, 28], [182, 1, 64, 42, 16, 59, 182, 1, 157, 177]]
theorem fcX12_finishes : fd_C cX12_finishes LcX12_finishes := ⟨by decide +kernel, by decide +kernel⟩
def LcX12_match : List (List Nat) := [[42, 42, 180, 0, 13, 181, 0, 17, 42, 3, 181, 0, 13, 42, 3, 181], [0, 26, 42, 3, 181, 0, 36, 42, 2, 181, 0, 39, 42, 4, 42, 180], [0, 51, 100, 181, 0, 124, 42, 180, 0, 54, 42, 180, 0, 124, 3, 79], [42, 180, 0, 63, 42, 180, 0, 124, 3, 79, 42, 180, 0, 81, 42, 180], [0, 124, 3, 79, 42, 180, 0, 87, 42, 180, 0, 124, 3, 79, 42, 180], [0, 93, 42, 180, 0, 124, 3, 79, 42, 180, 0, 96, 42, 180, 0, 124], [17, 1, 44, 79, 42, 3, 181, 0, 127, 42, 3, 181, 0, 121, 3, 60], [42, 182, 1, 81, 42, 180, 0, 36, 154, 0, 25, 42, 180, 0, 20, 153], [0, 18, 42, 182, 1, 190, 132, 1, 1, 42, 27, 182, 1, 193, 167, 255], [230, 42, 180, 0, 36, 154, 0, 19, 42, 180, 0, 127, 154, 0, 12, 42], [4, 42, 180, 0, 17, 182, 1, 64, 42, 42, 180, 0, 36, 181, 0, 42], [42, 42, 180, 0, 39, 181, 0, 45, 42, 180, 0, 36, 158, 0, 9, 42], [4, 182, 1, 56, 172, 42, 42, 180, 0, 124, 181, 0, 51, 42, 4, 181], [0, 146, 42, 182, 1, 196, 42, 182, 1, 53, 27, 172]]
theorem fcX12_match : fd_C cX12_match LcX12_match := ⟨by decide +kernel, by decide +kernel⟩
def LcX12_fault : List (List Nat) := [[27, 154, 0, 10, 42, 180, 0, 42, 167, 0, 16, 27, 4, 160, 0, 10], [42, 180, 0, 45, 167, 0, 4, 2, 172]]
theorem fcX12_fault : fd_C cX12_fault LcX12_fault := ⟨by decide +kernel, by decide +kernel⟩
def LcX12_refuses : List (List Nat) := [[42, 180, 0, 149, 27, 92, 46, 4, 96, 79, 2, 172]]
theorem fcX12_refuses : fd_C cX12_refuses LcX12_refuses := ⟨by decide +kernel, by decide +kernel⟩
def LcX12_status : List (List Nat) := [[27, 3, 8, 184, 1, 106, 153, 0, 12, 42, 180, 0, 149, 27, 46, 167], [0, 4, 2, 172]]
theorem fcX12_status : fd_C cX12_status LcX12_status := ⟨by decide +kernel, by decide +kernel⟩
def LcX12_fieldOf : List (List Nat) := [[16, 24, 42, 180, 0, 51, 104, 28, 96, 54, 4, 27, 42, 180, 0, 75], [21, 4, 46, 161, 0, 22, 27, 42, 180, 0, 75, 21, 4, 46, 42, 180], [0, 78, 21, 4, 46, 96, 161, 0, 5, 2, 172, 27, 42, 180, 0, 75], [21, 4, 46, 100, 54, 5, 42, 180, 0, 69, 21, 4, 46, 4, 160, 0], [6, 21, 5, 172, 42, 42, 180, 0, 51, 42, 180, 0, 72, 5, 21, 4], [104, 4, 96, 46, 182, 1, 140, 54, 6, 29, 154, 0, 11, 21, 5, 21], [6, 108, 167, 0, 8, 21, 5, 21, 6, 112, 172]]
theorem fcX12_fieldOf : fd_C cX12_fieldOf LcX12_fieldOf := ⟨by decide +kernel, by decide +kernel⟩
def LcX12_isFitting : List (List Nat) := [[3, 54, 4, 3, 54, 5, 42, 180, 0, 152, 3, 29, 79, 7, 16, 12], [42, 180, 0, 51, 104, 27, 96, 104, 28, 96, 54, 6, 17, 10, 240, 42], [180, 0, 51, 104, 42, 180, 0, 99, 21, 6, 46, 96, 54, 7, 21, 7], [17, 10, 240, 42, 180, 0, 51, 104, 42, 180, 0, 102, 21, 6, 46, 96], [162, 1, 27, 42, 180, 0, 108, 21, 7, 46, 54, 8, 42, 180, 0, 105], [21, 7, 46, 170, 0, 0, 0, 236, 0, 0, 0, 0, 0, 0, 0, 5], [0, 0, 0, 37, 0, 0, 0, 51, 0, 0, 0, 91, 0, 0, 0, 170], [0, 0, 0, 205, 0, 0, 0, 211, 42, 180, 0, 155, 21, 4, 4, 79], [132, 4, 1, 167, 0, 210, 42, 180, 0, 155, 21, 4, 42, 180, 0, 152], [21, 5, 46, 21, 8, 42, 180, 0, 111, 21, 7, 46, 184, 1, 106, 153], [0, 7, 4, 167, 0, 4, 3, 79, 132, 4, 1, 167, 0, 170, 42, 180], [0, 155, 21, 4, 42, 180, 0, 152, 21, 5, 46, 42, 180, 0, 75, 16], [24, 42, 180, 0, 51, 104, 21, 8, 96, 46, 42, 180, 0, 75, 16, 24], [42, 180, 0, 51, 104, 21, 8, 96, 46, 42, 180, 0, 78, 16, 24, 42], [180, 0, 51, 104, 21, 8, 96, 46, 96, 4, 100, 184, 1, 106, 153, 0], [7, 4, 167, 0, 4, 3, 79, 132, 4, 1, 167, 0, 91, 42, 180, 0], [152, 21, 5, 4, 96, 42, 42, 180, 0, 152, 21, 5, 46, 21, 8, 42], [180, 0, 111, 21, 7, 46, 182, 1, 199, 79, 132, 5, 1, 167, 0, 56], [132, 5, 255, 167, 0, 50, 132, 4, 255, 42, 180, 0, 155, 21, 4, 4], [100, 92, 46, 42, 180, 0, 155, 21, 4, 46, 126, 79, 167, 0, 25, 132], [4, 255, 42, 180, 0, 155, 21, 4, 4, 100, 92, 46, 42, 180, 0, 155], [21, 4, 46, 128, 79, 132, 7, 1, 167, 254, 214, 42, 180, 0, 155, 3], [46, 4, 160, 0, 7, 4, 167, 0, 4, 3, 172]]
theorem fcX12_isFitting : fd_C cX12_isFitting LcX12_isFitting := ⟨by decide +kernel, by decide +kernel⟩
def LcX12_columns : List (List Nat) := [[42, 180, 0, 81, 42, 180, 0, 51, 46, 172]]
theorem fcX12_columns : fd_C cX12_columns LcX12_columns := ⟨by decide +kernel, by decide +kernel⟩
def LcX12_columnValues : List (List Nat) := [[42, 42, 180, 0, 51, 42, 180, 0, 84, 7, 42, 180, 0, 51, 104, 27], [96, 46, 182, 1, 140, 172]]
theorem fcX12_columnValues : fd_C cX12_columnValues LcX12_columnValues := ⟨by decide +kernel, by decide +kernel⟩
def LcX12_lays : List (List Nat) := [[42, 4, 181, 0, 170, 3, 60, 27, 42, 182, 1, 203, 162, 0, 184, 3], [61, 28, 17, 16, 0, 162, 0, 16, 42, 180, 0, 167, 28, 2, 79, 132], [2, 1, 167, 255, 239, 42, 180, 0, 164, 27, 3, 79, 3, 61, 28, 42], [27, 182, 1, 207, 162, 0, 124, 3, 62, 3, 54, 4, 21, 4, 42, 180], [0, 87, 42, 180, 0, 51, 46, 162, 0, 31, 29, 42, 21, 4, 27, 28], [182, 1, 210, 153, 0, 10, 4, 21, 4, 120, 167, 0, 4, 3, 128, 62], [132, 4, 1, 167, 255, 217, 42, 180, 0, 167, 29, 46, 2, 160, 0, 43], [42, 180, 0, 167, 29, 42, 180, 0, 164, 27, 46, 79, 42, 180, 0, 161], [17, 7, 218, 27, 104, 42, 180, 0, 164, 27, 46, 96, 29, 79, 42, 180], [0, 164, 27, 92, 46, 4, 96, 79, 42, 180, 0, 158, 17, 7, 218, 27], [104, 28, 96, 42, 180, 0, 167, 29, 46, 79, 132, 2, 1, 167, 255, 129], [42, 89, 180, 0, 170, 42, 27, 182, 1, 207, 104, 181, 0, 170, 132, 1], [1, 167, 255, 70, 177]]
theorem fcX12_lays : fd_C cX12_lays LcX12_lays := ⟨by decide +kernel, by decide +kernel⟩
def LcX12_copies : List (List Nat) := [[42, 180, 0, 173, 27, 42, 180, 0, 173, 28, 46, 79, 3, 62, 29, 16], [12, 162, 0, 31, 42, 180, 0, 176, 16, 12, 27, 104, 29, 96, 42, 180], [0, 176, 16, 12, 28, 104, 29, 96, 46, 79, 132, 3, 1, 167, 255, 225], [42, 180, 0, 179, 27, 42, 180, 0, 179, 28, 46, 79, 42, 180, 0, 182], [27, 42, 180, 0, 182, 28, 46, 79, 42, 180, 0, 185, 27, 42, 180, 0], [185, 28, 46, 79, 3, 62, 29, 6, 42, 180, 0, 185, 28, 46, 104, 162], [0, 31, 42, 180, 0, 188, 16, 120, 27, 104, 29, 96, 42, 180, 0, 188], [16, 120, 28, 104, 29, 96, 46, 79, 132, 3, 1, 167, 255, 219, 177]]
theorem fcX12_copies : fd_C cX12_copies LcX12_copies := ⟨by decide +kernel, by decide +kernel⟩
def LcX12_begin : List (List Nat) := [[42, 180, 0, 173, 3, 42, 180, 0, 87, 42, 180, 0, 51, 46, 79, 3], [60, 27, 16, 12, 162, 0, 16, 42, 180, 0, 176, 27, 27, 79, 132, 1], [1, 167, 255, 240, 42, 180, 0, 179, 3, 42, 180, 0, 146, 153, 0, 9], [17, 0, 255, 167, 0, 4, 3, 79, 42, 180, 0, 182, 3, 42, 180, 0], [93, 42, 180, 0, 51, 46, 79, 42, 180, 0, 185, 3, 3, 79, 42, 3], [181, 0, 194, 42, 3, 181, 1, 35, 177]]
theorem fcX12_begin : fd_C cX12_begin LcX12_begin := ⟨by decide +kernel, by decide +kernel⟩
def LcX12_slot : List (List Nat) := [[5, 42, 180, 0, 191, 27, 96, 16, 20, 112, 96, 172]]
theorem fcX12_slot : fd_C cX12_slot LcX12_slot := ⟨by decide +kernel, by decide +kernel⟩
def LcX12_keeps : List (List Nat) := [[42, 180, 0, 194, 16, 20, 160, 0, 26, 42, 42, 180, 0, 191, 4, 96], [16, 20, 112, 181, 0, 191, 42, 89, 180, 0, 194, 4, 100, 181, 0, 194], [42, 42, 42, 180, 0, 194, 182, 1, 213, 3, 182, 1, 216, 42, 89, 180], [0, 194, 4, 96, 181, 0, 194, 177]]
theorem fcX12_keeps : fd_C cX12_keeps LcX12_keeps := ⟨by decide +kernel, by decide +kernel⟩
def LcX12_undo : List (List Nat) := [[42, 180, 0, 194, 154, 0, 17, 42, 7, 182, 1, 56, 155, 0, 7, 4], [167, 0, 4, 3, 172, 42, 89, 180, 0, 194, 4, 100, 181, 0, 194, 42], [3, 42, 42, 180, 0, 194, 182, 1, 213, 182, 1, 216, 4, 172]]
theorem fcX12_undo : fd_C cX12_undo LcX12_undo := ⟨by decide +kernel, by decide +kernel⟩
def LcX12_placed : List (List Nat) := [[3, 62, 3, 54, 4, 21, 4, 42, 180, 0, 200, 162, 0, 31, 29, 28], [42, 180, 0, 176, 16, 12, 27, 104, 21, 4, 96, 46, 122, 4, 126, 21], [4, 120, 128, 62, 132, 4, 1, 167, 255, 222, 29, 172]]
theorem fcX12_placed : fd_C cX12_placed LcX12_placed := ⟨by decide +kernel, by decide +kernel⟩
def LcX12_arranges : List (List Nat) := [[42, 42, 180, 0, 173, 27, 46, 181, 0, 200, 42, 3, 181, 0, 212, 3], [61, 28, 42, 180, 0, 200, 162, 0, 65, 42, 180, 0, 209, 28, 42, 180], [0, 90, 16, 12, 42, 180, 0, 51, 104, 42, 180, 0, 176, 16, 12, 27], [104, 28, 96, 46, 96, 46, 79, 42, 89, 180, 0, 212, 42, 180, 0, 209], [28, 46, 2, 160, 0, 9, 4, 28, 120, 167, 0, 4, 3, 128, 181, 0], [212, 132, 2, 1, 167, 255, 189, 3, 61, 28, 42, 182, 1, 203, 162, 0], [91, 42, 180, 0, 206, 28, 4, 42, 180, 0, 200, 120, 4, 100, 79, 3], [62, 29, 42, 180, 0, 164, 28, 46, 162, 0, 59, 42, 180, 0, 203, 17], [7, 218, 28, 104, 29, 96, 42, 27, 42, 180, 0, 161, 17, 7, 218, 28], [104, 29, 96, 46, 182, 1, 219, 79, 42, 180, 0, 206, 28, 92, 46, 42], [180, 0, 203, 17, 7, 218, 28, 104, 29, 96, 46, 126, 79, 132, 3, 1], [167, 255, 193, 132, 2, 1, 167, 255, 163, 42, 89, 180, 0, 236, 4, 96], [181, 0, 236, 177]]
theorem fcX12_arranges : fd_C cX12_arranges LcX12_arranges := ⟨by decide +kernel, by decide +kernel⟩
def LcX12_openBy : List (List Nat) := [[42, 180, 0, 212, 61, 3, 62, 29, 42, 180, 0, 200, 162, 0, 43, 28], [42, 180, 0, 209, 29, 46, 2, 159, 0, 23, 27, 42, 180, 0, 209, 29], [46, 122, 4, 126, 4, 160, 0, 9, 4, 29, 120, 167, 0, 4, 3, 128], [61, 132, 3, 1, 167, 255, 211, 28, 172]]
theorem fcX12_openBy : fd_C cX12_openBy LcX12_openBy := ⟨by decide +kernel, by decide +kernel⟩
def LcX12_lowest : List (List Nat) := [[26, 154, 0, 5, 2, 172, 3, 60, 26, 27, 122, 4, 126, 154, 0, 9], [132, 1, 1, 167, 255, 245, 27, 172]]
theorem fcX12_lowest : fd_C cX12_lowest LcX12_lowest := ⟨by decide +kernel, by decide +kernel⟩
def LcX12_bitsOf : List (List Nat) := [[3, 60, 26, 61, 28, 158, 0, 16, 27, 28, 4, 126, 96, 60, 28, 4], [122, 61, 167, 255, 242, 27, 172]]
theorem fcX12_bitsOf : fd_C cX12_bitsOf LcX12_bitsOf := ⟨by decide +kernel, by decide +kernel⟩
def LcX12_valuesIn : List (List Nat) := [[27, 61, 42, 182, 1, 203, 4, 100, 62, 29, 155, 0, 30, 42, 180, 0], [215, 29, 28, 42, 29, 182, 1, 207, 112, 79, 28, 42, 29, 182, 1, 207], [108, 61, 132, 3, 255, 167, 255, 228, 177]]
theorem fcX12_valuesIn : fd_C cX12_valuesIn LcX12_valuesIn := ⟨by decide +kernel, by decide +kernel⟩
def LcX12_setIn : List (List Nat) := [[42, 180, 0, 203, 17, 7, 218, 27, 104, 42, 180, 0, 158, 17, 7, 218], [27, 104, 28, 96, 46, 96, 46, 172]]
theorem fcX12_setIn : fd_C cX12_setIn LcX12_setIn := ⟨by decide +kernel, by decide +kernel⟩
def LcX12_fitting : List (List Nat) := [[42, 27, 182, 1, 222, 4, 42, 180, 0, 200, 120, 4, 100, 61, 3, 62], [29, 42, 182, 1, 203, 162, 0, 23, 28, 42, 29, 42, 180, 0, 215, 29], [46, 182, 1, 225, 126, 61, 132, 3, 1, 167, 255, 231, 28, 172]]
theorem fcX12_fitting : fd_C cX12_fitting LcX12_fitting := ⟨by decide +kernel, by decide +kernel⟩
def LcX12_countsRows : List (List Nat) := [[3, 60, 27, 17, 16, 0, 162, 0, 16, 42, 180, 0, 218, 27, 3, 79], [132, 1, 1, 167, 255, 239, 3, 60, 27, 42, 180, 0, 170, 162, 0, 23], [42, 180, 0, 218, 42, 27, 182, 1, 228, 92, 46, 4, 96, 79, 132, 1], [1, 167, 255, 231, 177]]
theorem fcX12_countsRows : fd_C cX12_countsRows LcX12_countsRows := ⟨by decide +kernel, by decide +kernel⟩
def LcX12_has : List (List Nat) := [[27, 170, 0, 0, 0, 0, 0, 144, 0, 0, 0, 0, 0, 0, 0, 10], [0, 0, 0, 59, 0, 0, 0, 69, 0, 0, 0, 79, 0, 0, 0, 84], [0, 0, 0, 100, 0, 0, 0, 107, 0, 0, 0, 114, 0, 0, 0, 121], [0, 0, 0, 128, 0, 0, 0, 133, 0, 0, 0, 138, 42, 180, 0, 54], [42, 180, 0, 51, 46, 172, 42, 180, 0, 63, 42, 180, 0, 51, 46, 172], [42, 182, 1, 203, 172, 42, 180, 0, 146, 153, 0, 10, 42, 180, 0, 170], [167, 0, 4, 3, 172, 42, 180, 0, 173, 3, 46, 172, 42, 180, 0, 179], [3, 46, 172, 42, 180, 0, 182, 3, 46, 172, 42, 180, 0, 185, 3, 46], [172, 42, 180, 1, 35, 172, 42, 180, 0, 194, 172, 42, 180, 0, 197, 136], [172, 2, 172]]
theorem fcX12_has : fd_C cX12_has LcX12_has := ⟨by decide +kernel, by decide +kernel⟩
def LcX12_lettersOf : List (List Nat) := [[3, 61, 30, 66, 33, 9, 148, 158, 0, 14, 132, 2, 1, 33, 16, 8], [123, 66, 167, 255, 242, 28, 172]]
theorem fcX12_lettersOf : fd_C cX12_lettersOf LcX12_lettersOf := ⟨by decide +kernel, by decide +kernel⟩
def LcX12_letter : List (List Nat) := [[29, 3, 8, 184, 1, 106, 153, 0, 47, 27, 3, 4, 184, 1, 106, 153], [0, 38, 28, 3, 27, 154, 0, 15, 42, 180, 0, 54, 42, 180, 0, 51], [46, 167, 0, 12, 42, 180, 0, 63, 42, 180, 0, 51, 46, 4, 100, 184], [1, 106, 154, 0, 5, 2, 172, 27, 154, 0, 19, 42, 180, 0, 114, 7], [42, 180, 0, 51, 104, 28, 96, 47, 167, 0, 17, 42, 180, 0, 118, 16], [24, 42, 180, 0, 51, 104, 28, 96, 47, 55, 4, 22, 4, 184, 1, 231], [54, 6, 29, 21, 6, 161, 0, 7, 3, 167, 0, 25, 22, 4, 16, 8], [21, 6, 4, 100, 29, 100, 104, 123, 20, 1, 234, 127, 136, 16, 97, 100], [4, 96, 172]]
theorem fcX12_letter : fd_C cX12_letter LcX12_letter := ⟨by decide +kernel, by decide +kernel⟩
def LcX12_values : List (List Nat) := [[42, 180, 0, 146, 153, 0, 22, 27, 2, 42, 180, 0, 54, 42, 180, 0], [51, 46, 4, 100, 184, 1, 106, 154, 0, 5, 2, 172, 27, 2, 160, 0], [8, 16, 20, 167, 0, 16, 42, 180, 0, 57, 7, 42, 180, 0, 51, 104], [27, 96, 46, 172]]
theorem fcX12_values : fd_C cX12_values LcX12_values := ⟨by decide +kernel, by decide +kernel⟩
def LcX12_isPlace : List (List Nat) := [[42, 180, 0, 146, 153, 0, 23, 27, 3, 42, 180, 0, 173, 3, 46, 4], [100, 184, 1, 106, 153, 0, 7, 4, 167, 0, 4, 3, 172]]
theorem fcX12_isPlace : fd_C cX12_isPlace LcX12_isPlace := ⟨by decide +kernel, by decide +kernel⟩
def LcX12_fittingRows : List (List Nat) := [[3, 61, 3, 62, 29, 17, 16, 0, 162, 0, 31, 28, 29, 27, 122, 4], [126, 4, 160, 0, 12, 42, 180, 0, 218, 29, 46, 167, 0, 4, 3, 96], [61, 132, 3, 1, 167, 255, 224, 28, 172]]
theorem fcX12_fittingRows : fd_C cX12_fittingRows LcX12_fittingRows := ⟨by decide +kernel, by decide +kernel⟩
def LcX12_isUseful : List (List Nat) := [[42, 180, 0, 212, 4, 27, 120, 4, 100, 126, 61, 3, 62, 29, 17, 16], [0, 162, 0, 35, 42, 180, 0, 218, 29, 46, 158, 0, 20, 29, 27, 122], [4, 126, 4, 160, 0, 11, 29, 28, 126, 154, 0, 5, 4, 172, 132, 3], [1, 167, 255, 220, 3, 172]]
theorem fcX12_isUseful : fd_C cX12_isUseful LcX12_isUseful := ⟨by decide +kernel, by decide +kernel⟩
def LcX12_takenRows : List (List Nat) := [[42, 42, 180, 0, 179, 3, 46, 182, 1, 236, 61, 3, 62, 3, 54, 4], [21, 4, 17, 16, 0, 162, 0, 44, 29, 42, 180, 0, 218, 21, 4, 46], [158, 0, 24, 21, 4, 28, 126, 184, 1, 239, 27, 160, 0, 13, 42, 180], [0, 218, 21, 4, 46, 167, 0, 4, 3, 96, 62, 132, 4, 1, 167, 255], [210, 29, 172]]
theorem fcX12_takenRows : fd_C cX12_takenRows LcX12_takenRows := ⟨by decide +kernel, by decide +kernel⟩
def LcX12_arm : List (List Nat) := [[42, 27, 182, 1, 242, 154, 0, 5, 2, 172, 42, 3, 182, 1, 245, 28], [154, 0, 10, 42, 180, 0, 176, 27, 46, 172, 28, 4, 160, 0, 10, 42], [180, 0, 209, 27, 46, 172, 28, 5, 7, 184, 1, 106, 154, 0, 5, 2], [172, 42, 182, 1, 248, 28, 5, 160, 0, 11, 42, 27, 182, 1, 251, 167], [0, 21, 28, 6, 160, 0, 11, 42, 27, 182, 1, 254, 167, 0, 8, 42], [27, 182, 2, 1, 172]]
theorem fcX12_arm : fd_C cX12_arm LcX12_arm := ⟨by decide +kernel, by decide +kernel⟩
def LcX12_fits : List (List Nat) := [[42, 27, 182, 1, 242, 153, 0, 32, 28, 3, 42, 182, 1, 203, 4, 100], [184, 1, 106, 153, 0, 18, 29, 3, 42, 28, 182, 1, 207, 4, 100, 184], [1, 106, 154, 0, 5, 2, 172, 42, 3, 182, 1, 245, 42, 28, 29, 182], [1, 225, 27, 122, 4, 126, 172]]
theorem fcX12_fits : fd_C cX12_fits LcX12_fits := ⟨by decide +kernel, by decide +kernel⟩
def LcX12_holds : List (List Nat) := [[42, 27, 182, 1, 242, 153, 0, 11, 42, 28, 182, 1, 242, 154, 0, 5], [2, 172, 42, 3, 182, 1, 245, 42, 182, 1, 248, 3, 62, 29, 17, 16], [0, 162, 0, 37, 42, 180, 0, 218, 29, 46, 158, 0, 22, 29, 28, 122], [4, 126, 4, 160, 0, 13, 29, 27, 122, 4, 126, 154, 0, 5, 3, 172], [132, 3, 1, 167, 255, 218, 4, 172]]
theorem fcX12_holds : fd_C cX12_holds LcX12_holds := ⟨by decide +kernel, by decide +kernel⟩
def LcX12_missing : List (List Nat) := [[42, 180, 0, 146, 153, 0, 8, 27, 2, 162, 0, 5, 2, 172, 42, 3], [182, 1, 245, 3, 61, 3, 62, 29, 42, 180, 0, 170, 162, 0, 35, 42], [29, 182, 1, 228, 42, 180, 0, 212, 126, 153, 0, 6, 167, 0, 13, 28], [27, 160, 0, 5, 29, 172, 132, 2, 1, 132, 3, 1, 167, 255, 219, 27], [2, 160, 0, 7, 28, 167, 0, 4, 2, 172]]
theorem fcX12_missing : fd_C cX12_missing LcX12_missing := ⟨by decide +kernel, by decide +kernel⟩
def LcX12_isRow : List (List Nat) := [[42, 180, 0, 146, 153, 0, 21, 27, 3, 42, 180, 0, 170, 4, 100, 184], [1, 106, 153, 0, 7, 4, 167, 0, 4, 3, 172]]
theorem fcX12_isRow : fd_C cX12_isRow LcX12_isRow := ⟨by decide +kernel, by decide +kernel⟩
def LcX12_taken : List (List Nat) := [[42, 27, 182, 2, 4, 154, 0, 5, 2, 172, 42, 3, 182, 1, 245, 42], [27, 182, 1, 228, 42, 42, 180, 0, 179, 3, 46, 182, 1, 236, 126, 184], [1, 239, 172]]
theorem fcX12_taken : fd_C cX12_taken LcX12_taken := ⟨by decide +kernel, by decide +kernel⟩
def LcX12_valueRead : List (List Nat) := [[42, 3, 181, 0, 143, 42, 27, 182, 1, 148, 3, 61, 4, 62, 29, 153], [0, 179, 42, 180, 0, 36, 154, 0, 172, 42, 182, 1, 75, 42, 180, 0], [36, 158, 0, 5, 3, 172, 42, 180, 0, 131, 42, 180, 0, 143, 46, 7], [160, 0, 20, 42, 3, 16, 19, 182, 1, 151, 61, 42, 28, 182, 2, 7], [62, 167, 255, 205, 42, 42, 180, 0, 131, 42, 180, 0, 143, 46, 182, 2], [10, 54, 4, 42, 180, 0, 36, 158, 0, 5, 3, 172, 42, 180, 0, 69], [16, 24, 42, 180, 0, 51, 104, 21, 4, 96, 46, 154, 0, 26, 42, 42], [180, 0, 75, 16, 24, 42, 180, 0, 51, 104, 21, 4, 96, 46, 182, 2], [7, 62, 167, 255, 140, 42, 16, 40, 182, 1, 157, 42, 180, 0, 137, 42], [180, 0, 143, 21, 4, 79, 42, 180, 0, 140, 42, 180, 0, 143, 3, 79], [42, 180, 0, 134, 42, 180, 0, 143, 3, 79, 42, 42, 180, 0, 72, 5], [16, 24, 42, 180, 0, 51, 104, 21, 4, 96, 104, 46, 182, 1, 148, 167], [255, 79, 42, 180, 0, 134, 3, 46, 172]]
theorem fcX12_valueRead : fd_C cX12_valueRead LcX12_valueRead := ⟨by decide +kernel, by decide +kernel⟩
def LcX12_conRead : List (List Nat) := [[42, 180, 0, 20, 4, 160, 0, 14, 42, 42, 180, 0, 32, 182, 1, 110], [153, 0, 12, 42, 4, 42, 180, 0, 23, 182, 1, 64, 42, 180, 0, 36], [158, 0, 7, 3, 167, 0, 15, 42, 42, 180, 0, 51, 42, 180, 0, 32], [182, 1, 118, 61, 42, 180, 0, 36, 154, 0, 35, 28, 2, 159, 0, 21], [42, 180, 0, 66, 16, 24, 42, 180, 0, 51, 104, 28, 96, 46, 27, 159], [0, 12, 42, 6, 42, 180, 0, 23, 182, 1, 64, 42, 180, 0, 36, 154], [0, 7, 42, 182, 1, 81, 42, 180, 0, 36, 158, 0, 7, 3, 167, 0], [4, 28, 172]]
theorem fcX12_conRead : fd_C cX12_conRead LcX12_conRead := ⟨by decide +kernel, by decide +kernel⟩
def LcX12_isMoreOf : List (List Nat) := [[27, 61, 42, 180, 0, 36, 154, 0, 175, 42, 89, 180, 0, 143, 4, 100], [181, 0, 143, 42, 180, 0, 143, 154, 0, 12, 42, 180, 0, 134, 3, 28], [79, 3, 172, 16, 24, 42, 180, 0, 51, 104, 42, 180, 0, 137, 42, 180], [0, 143, 46, 96, 62, 42, 180, 0, 140, 42, 180, 0, 143, 46, 54, 4], [42, 180, 0, 134, 42, 180, 0, 143, 42, 180, 0, 134, 42, 180, 0, 143], [46, 42, 42, 180, 0, 51, 42, 180, 0, 72, 5, 29, 104, 21, 4, 96], [46, 182, 1, 140, 104, 28, 96, 79, 21, 4, 4, 96, 42, 180, 0, 69], [29, 46, 162, 0, 41, 42, 16, 44, 182, 1, 157, 42, 180, 0, 140, 42], [180, 0, 143, 21, 4, 4, 96, 79, 42, 42, 180, 0, 72, 5, 29, 104], [21, 4, 96, 4, 96, 46, 182, 1, 148, 4, 172, 42, 16, 41, 182, 1], [157, 42, 180, 0, 75, 29, 46, 42, 180, 0, 134, 42, 180, 0, 143, 46], [96, 61, 167, 255, 80, 3, 172]]
theorem fcX12_isMoreOf : fd_C cX12_isMoreOf LcX12_isMoreOf := ⟨by decide +kernel, by decide +kernel⟩
def LcX12_row : List (List Nat) := [[42, 42, 180, 0, 13, 181, 0, 17, 42, 3, 181, 0, 13, 42, 3, 181], [0, 26, 42, 3, 181, 0, 36, 42, 2, 181, 0, 39, 3, 60, 42, 180], [0, 146, 154, 0, 9, 42, 4, 3, 182, 1, 64, 42, 180, 0, 36, 154], [0, 7, 42, 182, 1, 81, 3, 61, 28, 42, 182, 1, 203, 162, 0, 67], [42, 180, 0, 36, 154, 0, 60, 28, 158, 0, 7, 42, 182, 1, 75, 28], [158, 0, 9, 42, 16, 44, 182, 1, 157, 42, 180, 0, 36, 154, 0, 29], [27, 42, 28, 182, 1, 207, 104, 42, 42, 180, 0, 84, 7, 42, 180, 0], [51, 104, 28, 96, 46, 182, 2, 13, 96, 60, 132, 2, 1, 167, 255, 187], [42, 180, 0, 36, 154, 0, 7, 42, 182, 1, 75, 42, 180, 0, 36, 154], [0, 19, 42, 180, 0, 20, 153, 0, 12, 42, 4, 42, 180, 0, 23, 182], [1, 64, 42, 42, 180, 0, 36, 181, 0, 42, 42, 42, 180, 0, 39, 181], [0, 45, 42, 180, 0, 36, 158, 0, 11, 42, 4, 182, 1, 56, 167, 0], [4, 27, 172]]
theorem fcX12_row : fd_C cX12_row LcX12_row := ⟨by decide +kernel, by decide +kernel⟩
def LcX12_writes : List (List Nat) := [[42, 180, 0, 221, 42, 180, 0, 224, 27, 17, 0, 255, 126, 79, 42, 89], [180, 0, 224, 4, 96, 181, 0, 224, 177]]
theorem fcX12_writes : fd_C cX12_writes LcX12_writes := ⟨by decide +kernel, by decide +kernel⟩
def LcX12_writesName : List (List Nat) := [[31, 184, 1, 231, 4, 100, 62, 29, 155, 0, 24, 42, 31, 16, 8, 29], [104, 123, 20, 1, 234, 127, 136, 182, 2, 16, 132, 3, 255, 167, 255, 234], [177]]
theorem fcX12_writesName : fd_C cX12_writesName LcX12_writesName := ⟨by decide +kernel, by decide +kernel⟩
def LcX12_later : List (List Nat) := [[42, 180, 0, 227, 42, 180, 0, 233, 27, 79, 42, 180, 0, 230, 42, 180], [0, 233, 28, 79, 42, 89, 180, 0, 233, 4, 96, 181, 0, 233, 177]]
theorem fcX12_later : fd_C cX12_later LcX12_later := ⟨by decide +kernel, by decide +kernel⟩
def LcX12_conOf : List (List Nat) := [[3, 62, 29, 42, 180, 0, 63, 42, 180, 0, 51, 46, 162, 0, 64, 16], [24, 42, 180, 0, 51, 104, 29, 96, 54, 4, 42, 180, 0, 66, 21, 4], [46, 27, 160, 0, 36, 28, 42, 180, 0, 75, 21, 4, 46, 42, 180, 0], [75, 21, 4, 46, 42, 180, 0, 78, 21, 4, 46, 96, 4, 100, 184, 1], [106, 153, 0, 5, 29, 172, 132, 3, 1, 167, 255, 185, 2, 172]]
theorem fcX12_conOf : fd_C cX12_conOf LcX12_conOf := ⟨by decide +kernel, by decide +kernel⟩
def LcX12_writesValue : List (List Nat) := [[27, 7, 160, 0, 32, 28, 16, 9, 164, 0, 14, 42, 16, 48, 28, 16], [10, 108, 96, 182, 2, 16, 42, 16, 48, 28, 16, 10, 112, 96, 182, 2], [16, 177, 42, 27, 28, 182, 2, 19, 62, 16, 24, 42, 180, 0, 51, 104], [29, 96, 54, 4, 42, 42, 180, 0, 118, 21, 4, 47, 182, 2, 22, 42], [180, 0, 69, 21, 4, 46, 154, 0, 4, 177, 42, 8, 16, 41, 182, 2], [26, 42, 180, 0, 69, 21, 4, 46, 4, 100, 54, 5, 21, 5, 155, 0], [50, 42, 42, 180, 0, 72, 5, 21, 4, 104, 21, 5, 96, 46, 42, 28], [29, 21, 5, 182, 1, 199, 182, 2, 26, 42, 8, 21, 5, 154, 0, 8], [16, 40, 167, 0, 5, 16, 44, 182, 2, 26, 132, 5, 255, 167, 255, 207], [177]]
theorem fcX12_writesValue : fd_C cX12_writesValue LcX12_writesValue := ⟨by decide +kernel, by decide +kernel⟩
def LcX12_text : List (List Nat) := [[42, 27, 182, 2, 4, 154, 0, 5, 2, 172, 42, 27, 182, 1, 222, 42], [3, 181, 0, 224, 42, 3, 181, 0, 233, 42, 182, 1, 203, 4, 100, 61], [28, 155, 0, 43, 42, 42, 180, 0, 84, 7, 42, 180, 0, 51, 104, 28], [96, 46, 42, 180, 0, 215, 28, 46, 182, 2, 26, 28, 158, 0, 10, 42], [8, 16, 44, 182, 2, 26, 132, 2, 255, 167, 255, 215, 42, 180, 0, 233], [158, 0, 55, 42, 89, 180, 0, 233, 4, 100, 181, 0, 233, 42, 180, 0], [227, 42, 180, 0, 233, 46, 61, 42, 180, 0, 230, 42, 180, 0, 233, 46], [62, 28, 8, 160, 0, 11, 42, 29, 182, 2, 16, 167, 0, 9, 42, 28], [29, 182, 2, 29, 167, 255, 200, 42, 180, 0, 224, 172]]
theorem fcX12_text : fd_C cX12_text LcX12_text := ⟨by decide +kernel, by decide +kernel⟩
def LcX12_octet : List (List Nat) := [[27, 3, 42, 180, 0, 224, 4, 100, 184, 1, 106, 153, 0, 12, 42, 180], [0, 221, 27, 46, 167, 0, 4, 2, 172]]
theorem fcX12_octet : fd_C cX12_octet LcX12_octet := ⟨by decide +kernel, by decide +kernel⟩
def LcX12_leftOf : List (List Nat) := [[26, 27, 16, 12, 120, 128, 172]]
theorem fcX12_leftOf : fd_C cX12_leftOf LcX12_leftOf := ⟨by decide +kernel, by decide +kernel⟩
def LcX12_armsIn : List (List Nat) := [[26, 17, 15, 255, 126, 172]]
theorem fcX12_armsIn : fd_C cX12_armsIn LcX12_armsIn := ⟨by decide +kernel, by decide +kernel⟩
def LcX12_columnsIn : List (List Nat) := [[26, 16, 12, 122, 172]]
theorem fcX12_columnsIn : fd_C cX12_columnsIn LcX12_columnsIn := ⟨by decide +kernel, by decide +kernel⟩
def LcX12_worthOf : List (List Nat) := [[3, 62, 42, 180, 0, 243, 154, 0, 5, 3, 172, 42, 180, 0, 243, 4], [160, 0, 45, 27, 54, 4, 21, 4, 158, 0, 35, 42, 180, 0, 206, 28], [46, 21, 4, 184, 1, 239, 122, 4, 126, 154, 0, 18, 132, 3, 1, 21], [4, 21, 4, 4, 100, 126, 54, 4, 167, 255, 222, 29, 172, 42, 89, 180], [0, 249, 4, 96, 181, 0, 249, 3, 54, 4, 3, 54, 5, 21, 5, 42], [180, 0, 164, 28, 46, 162, 0, 79, 42, 180, 0, 203, 17, 7, 218, 28], [104, 21, 5, 96, 46, 27, 126, 54, 6, 42, 180, 0, 246, 21, 6, 46], [42, 180, 0, 249, 160, 0, 6, 167, 0, 39, 42, 180, 0, 246, 21, 6], [42, 180, 0, 249, 79, 132, 3, 1, 21, 6, 184, 2, 32, 21, 4, 164], [0, 11, 21, 6, 184, 2, 32, 167, 0, 5, 21, 4, 54, 4, 132, 5], [1, 167, 255, 172, 42, 180, 0, 243, 5, 160, 0, 8, 29, 116, 167, 0], [6, 21, 4, 116, 172]]
theorem fcX12_worthOf : fd_C cX12_worthOf LcX12_worthOf := ⟨by decide +kernel, by decide +kernel⟩
def LcX12_asksFor : List (List Nat) := [[42, 180, 0, 240, 27, 46, 6, 122, 42, 180, 0, 236, 160, 0, 13, 42], [180, 0, 240, 27, 46, 16, 7, 126, 172, 27, 184, 2, 35, 61, 28, 184], [1, 239, 62, 7, 54, 4, 3, 54, 5, 3, 54, 6, 21, 6, 42, 182], [1, 203, 162, 0, 77, 29, 2, 159, 0, 72, 27, 184, 2, 38, 21, 6], [122, 4, 126, 153, 0, 54, 42, 180, 0, 206, 21, 6, 46, 29, 122, 4], [126, 4, 160, 0, 6, 167, 0, 36, 42, 28, 21, 6, 182, 2, 41, 54], [7, 21, 4, 7, 159, 0, 13, 21, 7, 21, 5, 163, 0, 6, 167, 0], [11, 21, 6, 54, 4, 21, 7, 54, 5, 132, 6, 1, 167, 255, 176, 42], [180, 0, 240, 27, 42, 180, 0, 236, 6, 120, 21, 4, 128, 79, 21, 4], [172]]
theorem fcX12_asksFor : fd_C cX12_asksFor LcX12_asksFor := ⟨by decide +kernel, by decide +kernel⟩
def LcX12_isDoor : List (List Nat) := [[27, 184, 2, 35, 153, 0, 32, 42, 27, 182, 2, 44, 7, 160, 0, 23], [42, 180, 0, 209, 27, 184, 2, 35, 184, 1, 239, 46, 2, 159, 0, 7], [4, 167, 0, 4, 3, 172]]
theorem fcX12_isDoor : fd_C cX12_isDoor LcX12_isDoor := ⟨by decide +kernel, by decide +kernel⟩
def LcX12_throughDoor : List (List Nat) := [[26, 184, 2, 35, 26, 184, 2, 35, 4, 100, 126, 26, 184, 2, 38, 184], [2, 47, 172]]
theorem fcX12_throughDoor : fd_C cX12_throughDoor LcX12_throughDoor := ⟨by decide +kernel, by decide +kernel⟩
def LcX12_branchOf : List (List Nat) := [[27, 184, 2, 35, 29, 126, 27, 184, 2, 38, 4, 28, 120, 2, 130, 126], [184, 2, 47, 172]]
theorem fcX12_branchOf : fd_C cX12_branchOf LcX12_branchOf := ⟨by decide +kernel, by decide +kernel⟩
def LcX12_root : List (List Nat) := [[4, 42, 180, 0, 200, 120, 4, 100, 4, 42, 182, 1, 203, 120, 4, 100], [184, 2, 47, 172]]
theorem fcX12_root : fd_C cX12_root LcX12_root := ⟨by decide +kernel, by decide +kernel⟩
def LcX12_plants : List (List Nat) := [[42, 27, 182, 1, 245, 42, 28, 181, 0, 243, 177]]
theorem fcX12_plants : fd_C cX12_plants LcX12_plants := ⟨by decide +kernel, by decide +kernel⟩
def LcX12_testsFor : List (List Nat) := [[42, 27, 182, 1, 222, 42, 182, 2, 50, 62, 3, 54, 4, 29, 184, 2], [35, 153, 0, 69, 42, 29, 182, 2, 44, 54, 5, 21, 5, 7, 160, 0], [29, 28, 29, 184, 2, 35, 184, 1, 239, 122, 4, 126, 4, 160, 0, 6], [21, 4, 172, 29, 184, 2, 53, 62, 167, 255, 213, 132, 4, 1, 42, 29], [21, 5, 42, 21, 5, 42, 180, 0, 215, 21, 5, 46, 182, 1, 225, 182], [2, 56, 62, 167, 255, 186, 21, 4, 172]]
theorem fcX12_testsFor : fd_C cX12_testsFor LcX12_testsFor := ⟨by decide +kernel, by decide +kernel⟩
def LcX12_allTests : List (List Nat) := [[42, 42, 180, 0, 179, 27, 46, 182, 1, 236, 61, 3, 62, 3, 54, 4], [21, 4, 42, 180, 0, 170, 162, 0, 19, 29, 42, 21, 4, 28, 182, 2], [59, 96, 62, 132, 4, 1, 167, 255, 234, 29, 172]]
theorem fcX12_allTests : fd_C cX12_allTests LcX12_allTests := ⟨by decide +kernel, by decide +kernel⟩
def LcX12_reaches : List (List Nat) := [[42, 180, 0, 252, 27, 46, 42, 180, 0, 236, 160, 0, 4, 177, 42, 180], [0, 252, 27, 42, 180, 0, 236, 79, 42, 180, 0, 255, 42, 180, 1, 2], [27, 79, 42, 89, 180, 1, 2, 4, 96, 181, 1, 2, 177]]
theorem fcX12_reaches : fd_C cX12_reaches LcX12_reaches := ⟨by decide +kernel, by decide +kernel⟩
def LcX12_grows : List (List Nat) := [[42, 3, 181, 1, 2, 42, 42, 182, 2, 50, 182, 2, 62, 3, 60, 27], [42, 180, 1, 2, 162, 0, 89, 42, 180, 0, 255, 27, 46, 61, 42, 28], [182, 2, 44, 62, 29, 7, 160, 0, 22, 42, 28, 182, 2, 65, 153, 0], [57, 42, 28, 184, 2, 53, 182, 2, 62, 167, 0, 46, 3, 54, 4, 21], [4, 42, 180, 0, 164, 29, 46, 162, 0, 32, 42, 42, 28, 29, 42, 180], [0, 203, 17, 7, 218, 29, 104, 21, 4, 96, 46, 182, 2, 56, 182, 2], [62, 132, 4, 1, 167, 255, 219, 132, 1, 1, 167, 255, 165, 177]]
theorem fcX12_grows : fd_C cX12_grows LcX12_grows := ⟨by decide +kernel, by decide +kernel⟩
def LcX12_weighs : List (List Nat) := [[42, 27, 182, 2, 44, 61, 4, 62, 3, 54, 4, 28, 7, 160, 0, 39], [42, 27, 182, 2, 65, 153, 0, 31, 29, 42, 180, 1, 5, 27, 184, 2], [53, 46, 6, 122, 96, 62, 42, 180, 1, 5, 27, 184, 2, 53, 46, 16], [7, 126, 54, 4, 42, 89, 180, 0, 249, 4, 96, 181, 0, 249, 3, 54], [5, 28, 7, 162, 0, 117, 21, 5, 42, 180, 0, 164, 28, 46, 162, 0], [106, 42, 27, 28, 42, 180, 0, 203, 17, 7, 218, 28, 104, 21, 5, 96], [46, 182, 2, 56, 54, 6, 42, 180, 0, 246, 21, 6, 184, 2, 35, 46], [42, 180, 0, 249, 160, 0, 6, 167, 0, 59, 42, 180, 0, 246, 21, 6], [184, 2, 35, 42, 180, 0, 249, 79, 29, 42, 180, 1, 5, 21, 6, 46], [6, 122, 96, 62, 42, 180, 1, 5, 21, 6, 46, 16, 7, 126, 4, 96], [54, 7, 21, 7, 21, 4, 164, 0, 8, 21, 7, 167, 0, 5, 21, 4], [54, 4, 132, 5, 1, 167, 255, 140, 42, 180, 1, 5, 27, 29, 19, 2], [68, 164, 0, 9, 19, 2, 68, 167, 0, 4, 29, 6, 120, 21, 4, 128], [79, 177]]
theorem fcX12_weighs : fd_C cX12_weighs LcX12_weighs := ⟨by decide +kernel, by decide +kernel⟩
def LcX12_sizeOf : List (List Nat) := [[26, 184, 2, 32, 172]]
theorem fcX12_sizeOf : fd_C cX12_sizeOf LcX12_sizeOf := ⟨by decide +kernel, by decide +kernel⟩
def LcX12_tree : List (List Nat) := [[42, 180, 0, 146, 153, 0, 21, 27, 3, 6, 184, 1, 106, 153, 0, 12], [28, 3, 6, 184, 1, 106, 154, 0, 5, 2, 172, 42, 3, 27, 182, 2], [69, 28, 6, 160, 0, 9, 42, 3, 182, 2, 72, 172, 42, 182, 2, 75], [28, 4, 160, 0, 8, 42, 180, 1, 2, 172, 3, 62, 29, 16, 16, 163], [0, 52, 3, 54, 4, 21, 4, 42, 180, 1, 2, 162, 0, 34, 42, 180], [0, 255, 21, 4, 46, 184, 2, 78, 29, 160, 0, 14, 42, 42, 180, 0], [255, 21, 4, 46, 182, 2, 81, 132, 4, 1, 167, 255, 219, 132, 3, 1], [167, 255, 204, 28, 154, 0, 17, 42, 180, 1, 5, 42, 182, 2, 50, 46], [6, 122, 167, 0, 15, 42, 180, 1, 5, 42, 182, 2, 50, 46, 16, 7], [126, 172]]
theorem fcX12_tree : fd_C cX12_tree LcX12_tree := ⟨by decide +kernel, by decide +kernel⟩
def LcX12_first : List (List Nat) := [[42, 180, 0, 146, 153, 0, 12, 27, 3, 6, 184, 1, 106, 154, 0, 5], [2, 172, 42, 3, 27, 182, 2, 69, 42, 182, 2, 50, 61, 42, 28, 182], [2, 65, 153, 0, 11, 28, 184, 2, 53, 61, 167, 255, 243, 42, 28, 182], [2, 44, 62, 29, 7, 160, 0, 7, 2, 167, 0, 4, 29, 172]]
theorem fcX12_first : fd_C cX12_first LcX12_first := ⟨by decide +kernel, by decide +kernel⟩
def LcX12_isNewSet : List (List Nat) := [[3, 54, 4, 21, 4, 29, 162, 0, 43, 42, 180, 0, 203, 17, 7, 218], [28, 104, 21, 4, 96, 46, 27, 126, 42, 180, 0, 203, 17, 7, 218, 28], [104, 29, 96, 46, 27, 126, 160, 0, 5, 3, 172, 132, 4, 1, 167, 255], [213, 4, 172]]
theorem fcX12_isNewSet : fd_C cX12_isNewSet LcX12_isNewSet := ⟨by decide +kernel, by decide +kernel⟩
def LcX12_nextBranch : List (List Nat) := [[42, 180, 1, 8, 27, 46, 61, 42, 28, 182, 2, 44, 62, 29, 7, 160], [0, 40, 42, 180, 1, 11, 27, 92, 46, 4, 96, 79, 42, 180, 1, 11], [27, 46, 4, 160, 0, 18, 42, 28, 182, 2, 65, 153, 0, 10, 28, 184], [2, 53, 167, 0, 4, 2, 172, 42, 180, 1, 11, 27, 46, 42, 180, 0], [164, 29, 46, 162, 0, 58, 42, 180, 1, 11, 27, 46, 54, 4, 42, 180], [1, 11, 27, 92, 46, 4, 96, 79, 42, 28, 184, 2, 35, 29, 21, 4], [182, 2, 84, 153, 0, 23, 42, 28, 29, 42, 180, 0, 203, 17, 7, 218], [29, 104, 21, 4, 96, 46, 182, 2, 56, 172, 167, 255, 189, 2, 172]]
theorem fcX12_nextBranch : fd_C cX12_nextBranch LcX12_nextBranch := ⟨by decide +kernel, by decide +kernel⟩
def LcX12_opensScope : List (List Nat) := [[42, 180, 1, 8, 27, 28, 79, 42, 180, 1, 11, 27, 3, 79, 42, 180], [1, 14, 27, 42, 180, 1, 20, 79, 42, 89, 180, 1, 20, 4, 96, 181], [1, 20, 42, 27, 4, 96, 42, 180, 1, 26, 164, 0, 9, 27, 4, 96], [167, 0, 7, 42, 180, 1, 26, 181, 1, 26, 177]]
theorem fcX12_opensScope : fd_C cX12_opensScope LcX12_opensScope := ⟨by decide +kernel, by decide +kernel⟩
def LcX12_builds : List (List Nat) := [[42, 3, 181, 1, 20, 42, 3, 181, 1, 23, 42, 3, 181, 1, 26, 42], [3, 181, 1, 29, 3, 60, 42, 3, 42, 182, 2, 50, 182, 2, 87, 27], [155, 0, 101, 42, 180, 1, 29, 153, 0, 7, 2, 167, 0, 8, 42, 27], [182, 2, 90, 61, 28, 2, 159, 0, 24, 42, 180, 1, 20, 42, 180, 0], [96, 42, 180, 0, 51, 46, 160, 0, 8, 42, 4, 181, 1, 29, 28, 2], [159, 0, 22, 42, 180, 1, 29, 154, 0, 15, 132, 1, 1, 42, 27, 28], [182, 2, 87, 167, 255, 188, 42, 180, 1, 17, 42, 180, 1, 23, 42, 180], [1, 14, 27, 46, 79, 42, 89, 180, 1, 23, 4, 96, 181, 1, 23, 132], [1, 255, 167, 255, 157, 177]]
theorem fcX12_builds : fd_C cX12_builds LcX12_builds := ⟨by decide +kernel, by decide +kernel⟩
def LcX12_scopes : List (List Nat) := [[42, 180, 0, 146, 153, 0, 21, 27, 3, 6, 184, 1, 106, 153, 0, 12], [28, 3, 6, 184, 1, 106, 154, 0, 5, 2, 172, 42, 3, 27, 182, 2], [69, 42, 182, 2, 93, 28, 6, 160, 0, 28, 29, 3, 42, 180, 1, 23], [4, 100, 184, 1, 106, 153, 0, 12, 42, 180, 1, 17, 29, 46, 167, 0], [4, 2, 172, 28, 154, 0, 10, 42, 180, 1, 20, 167, 0, 27, 28, 4], [160, 0, 10, 42, 180, 1, 26, 167, 0, 15, 42, 180, 1, 29, 153, 0], [7, 4, 167, 0, 4, 3, 172]]
theorem fcX12_scopes : fd_C cX12_scopes LcX12_scopes := ⟨by decide +kernel, by decide +kernel⟩
def LcX12_swapped : List (List Nat) := [[26, 27, 122, 4, 126, 26, 28, 122, 4, 126, 160, 0, 5, 26, 172, 26], [4, 27, 120, 4, 28, 120, 128, 130, 172]]
theorem fcX12_swapped : fd_C cX12_swapped LcX12_swapped := ⟨by decide +kernel, by decide +kernel⟩
def LcX12_moved : List (List Nat) := [[26, 27, 160, 0, 7, 28, 167, 0, 13, 26, 28, 160, 0, 7, 27, 167], [0, 4, 26, 172]]
theorem fcX12_moved : fd_C cX12_moved LcX12_moved := ⟨by decide +kernel, by decide +kernel⟩
def LcX12_isSafe : List (List Nat) := [[3, 62, 29, 17, 1, 0, 162, 0, 95, 42, 29, 182, 1, 236, 54, 4], [3, 54, 5, 21, 5, 17, 16, 0, 162, 0, 71, 42, 180, 0, 218, 21], [5, 46, 154, 0, 6, 167, 0, 52, 21, 5, 21, 4, 126, 184, 1, 239], [54, 6, 21, 5, 21, 4, 126, 27, 28, 184, 2, 96, 184, 1, 239, 54], [7, 21, 6, 21, 7, 2, 160, 0, 7, 2, 167, 0, 10, 21, 7, 27], [28, 184, 2, 99, 159, 0, 5, 3, 172, 132, 5, 1, 167, 255, 183, 132], [3, 1, 167, 255, 160, 4, 172]]
theorem fcX12_isSafe : fd_C cX12_isSafe LcX12_isSafe := ⟨by decide +kernel, by decide +kernel⟩
def LcX12_safe : List (List Nat) := [[42, 27, 182, 1, 242, 153, 0, 11, 42, 28, 182, 1, 242, 154, 0, 5], [2, 172, 42, 3, 182, 1, 245, 42, 182, 1, 248, 42, 27, 28, 182, 2], [102, 153, 0, 7, 4, 167, 0, 4, 3, 172]]
theorem fcX12_safe : fd_C cX12_safe LcX12_safe := ⟨by decide +kernel, by decide +kernel⟩
def LcX12_exchanges : List (List Nat) := [[42, 180, 0, 176, 16, 12, 27, 104, 28, 96, 46, 54, 4, 42, 180, 0], [176, 16, 12, 27, 104, 28, 96, 42, 180, 0, 176, 16, 12, 27, 104, 29], [96, 46, 79, 42, 180, 0, 176, 16, 12, 27, 104, 29, 96, 21, 4, 79], [177]]
theorem fcX12_exchanges : fd_C cX12_exchanges LcX12_exchanges := ⟨by decide +kernel, by decide +kernel⟩
def LcX12_best : List (List Nat) := [[42, 180, 0, 146, 153, 0, 12, 27, 3, 4, 184, 1, 106, 154, 0, 5], [2, 172, 42, 3, 182, 1, 245, 42, 182, 1, 248, 3, 61, 28, 4, 96], [42, 180, 0, 173, 3, 46, 162, 0, 31, 42, 180, 1, 32, 28, 42, 28], [28, 4, 96, 182, 2, 102, 153, 0, 7, 4, 167, 0, 4, 3, 79, 132], [2, 1, 167, 255, 219, 42, 3, 42, 180, 0, 182, 3, 46, 182, 2, 69], [42, 3, 182, 2, 72, 61, 2, 62, 3, 54, 4, 21, 4, 4, 96, 42], [180, 0, 173, 3, 46, 162, 0, 72, 42, 180, 1, 32, 21, 4, 46, 154], [0, 6, 167, 0, 53, 42, 4, 3, 182, 1, 216, 42, 4, 21, 4, 21], [4, 4, 96, 182, 2, 106, 42, 4, 42, 180, 0, 182, 4, 46, 182, 2], [69, 42, 4, 182, 2, 72, 54, 5, 21, 5, 28, 161, 0, 6, 167, 0], [9, 21, 5, 61, 21, 4, 62, 132, 4, 1, 167, 255, 177, 27, 154, 0], [7, 29, 167, 0, 4, 28, 172]]
theorem fcX12_best : fd_C cX12_best LcX12_best := ⟨by decide +kernel, by decide +kernel⟩
def LcX12_see : List (List Nat) := [[42, 180, 0, 13, 60, 42, 3, 181, 0, 13, 42, 180, 0, 146, 153, 0], [23, 27, 158, 0, 19, 27, 6, 112, 154, 0, 13, 27, 16, 48, 163, 0], [7, 4, 167, 0, 4, 3, 61, 3, 62, 29, 27, 162, 0, 75, 28, 153], [0, 71, 42, 180, 0, 7, 29, 46, 16, 8, 120, 42, 180, 0, 7, 29], [4, 96, 46, 128, 42, 180, 0, 170, 162, 0, 38, 42, 180, 0, 7, 29], [5, 96, 46, 17, 0, 255, 159, 0, 20, 42, 180, 0, 7, 29, 5, 96], [46, 42, 180, 0, 173, 3, 46, 162, 0, 7, 4, 167, 0, 4, 3, 61], [132, 3, 3, 167, 255, 182, 28, 154, 0, 9, 42, 8, 182, 1, 56, 172], [42, 27, 6, 108, 181, 1, 35, 3, 62, 29, 42, 180, 1, 35, 162, 0], [73, 42, 180, 1, 38, 29, 42, 180, 0, 7, 6, 29, 104, 46, 16, 8], [120, 42, 180, 0, 7, 6, 29, 104, 4, 96, 46, 128, 79, 42, 180, 1], [41, 29, 42, 180, 0, 7, 6, 29, 104, 5, 96, 46, 17, 0, 255, 160], [0, 7, 2, 167, 0, 13, 42, 180, 0, 7, 6, 29, 104, 5, 96, 46], [79, 132, 3, 1, 167, 255, 181, 42, 180, 1, 35, 172]]
theorem fcX12_see : fd_C cX12_see LcX12_see := ⟨by decide +kernel, by decide +kernel⟩
def LcX12_leaves : List (List Nat) := [[42, 3, 182, 1, 245, 3, 60, 3, 61, 28, 17, 1, 0, 162, 0, 27], [42, 180, 1, 44, 28, 4, 79, 42, 180, 1, 47, 28, 42, 28, 182, 1], [236, 79, 132, 2, 1, 167, 255, 228, 3, 61, 28, 42, 180, 1, 35, 162], [0, 66, 42, 42, 180, 1, 38, 28, 46, 182, 1, 228, 62, 3, 54, 4], [21, 4, 17, 1, 0, 162, 0, 38, 29, 42, 180, 1, 47, 21, 4, 46], [126, 184, 1, 239, 42, 180, 1, 41, 28, 46, 159, 0, 11, 42, 180, 1], [44, 21, 4, 3, 79, 132, 4, 1, 167, 255, 216, 132, 2, 1, 167, 255], [188, 3, 61, 28, 17, 1, 0, 162, 0, 18, 27, 42, 180, 1, 44, 28], [46, 96, 60, 132, 2, 1, 167, 255, 237, 27, 172]]
theorem fcX12_leaves : fd_C cX12_leaves LcX12_leaves := ⟨by decide +kernel, by decide +kernel⟩
def LcX12_sets : List (List Nat) := [[42, 180, 0, 146, 153, 0, 8, 27, 2, 162, 0, 5, 2, 172, 42, 182], [2, 109, 61, 27, 2, 160, 0, 5, 28, 172, 3, 62, 3, 54, 4, 21], [4, 17, 1, 0, 162, 0, 38, 42, 180, 1, 44, 21, 4, 46, 4, 160], [0, 11, 29, 27, 160, 0, 6, 21, 4, 172, 29, 42, 180, 1, 44, 21], [4, 46, 96, 62, 132, 4, 1, 167, 255, 216, 2, 172]]
theorem fcX12_sets : fd_C cX12_sets LcX12_sets := ⟨by decide +kernel, by decide +kernel⟩
def LcX12_mostBy : List (List Nat) := [[42, 27, 182, 1, 228, 61, 3, 62, 29, 16, 12, 163, 0, 16, 42, 180], [1, 50, 29, 3, 79, 132, 3, 1, 167, 255, 240, 3, 62, 3, 54, 4], [21, 4, 17, 1, 0, 162, 0, 72, 42, 180, 1, 44, 21, 4, 46, 154], [0, 6, 167, 0, 53, 28, 42, 180, 1, 47, 21, 4, 46, 126, 184, 1], [239, 4, 96, 54, 5, 42, 180, 1, 50, 21, 5, 92, 46, 4, 96, 79], [42, 180, 1, 50, 21, 5, 46, 29, 164, 0, 13, 42, 180, 1, 50, 21], [5, 46, 167, 0, 4, 29, 62, 132, 4, 1, 167, 255, 182, 29, 172]]
theorem fcX12_mostBy : fd_C cX12_mostBy LcX12_mostBy := ⟨by decide +kernel, by decide +kernel⟩
def LcX12_tells : List (List Nat) := [[42, 180, 0, 146, 153, 0, 12, 27, 3, 4, 184, 1, 106, 154, 0, 5], [2, 172, 42, 182, 2, 109, 61, 2, 62, 19, 2, 112, 54, 4, 3, 54], [5, 21, 5, 42, 180, 0, 170, 162, 0, 46, 21, 5, 17, 3, 232, 162], [0, 38, 28, 158, 0, 34, 42, 21, 5, 182, 2, 113, 54, 6, 21, 6], [21, 4, 161, 0, 6, 167, 0, 10, 21, 6, 54, 4, 21, 5, 62, 132], [5, 1, 167, 255, 207, 29, 2, 159, 0, 7, 27, 154, 0, 7, 29, 167], [0, 5, 21, 4, 172]]
theorem fcX12_tells : fd_C cX12_tells LcX12_tells := ⟨by decide +kernel, by decide +kernel⟩
def LcX12_runs : List (List Nat) := [[42, 3, 42, 180, 0, 182, 3, 46, 182, 2, 69, 42, 42, 180, 0, 179], [3, 46, 182, 1, 236, 61, 42, 27, 182, 1, 228, 28, 126, 184, 1, 239], [62, 42, 27, 28, 182, 2, 59, 54, 4, 42, 180, 0, 185, 3, 46, 16], [40, 160, 0, 45, 3, 54, 5, 21, 5, 16, 117, 162, 0, 25, 42, 180], [0, 188, 21, 5, 42, 180, 0, 188, 21, 5, 6, 96, 46, 79, 132, 5], [1, 167, 255, 230, 42, 180, 0, 185, 3, 92, 46, 4, 100, 79, 6, 42], [180, 0, 185, 3, 46, 104, 54, 5, 42, 180, 0, 188, 21, 5, 27, 79], [42, 180, 0, 188, 21, 5, 4, 96, 29, 2, 160, 0, 7, 2, 167, 0], [9, 42, 180, 0, 176, 29, 46, 79, 42, 180, 0, 188, 21, 5, 5, 96], [21, 4, 79, 42, 180, 0, 185, 3, 92, 46, 4, 96, 79, 29, 172]]
theorem fcX12_runs : fd_C cX12_runs LcX12_runs := ⟨by decide +kernel, by decide +kernel⟩
def LcX12_run : List (List Nat) := [[42, 27, 182, 2, 4, 154, 0, 9, 42, 5, 182, 1, 56, 172, 42, 182], [2, 116, 42, 27, 182, 2, 119, 172]]
theorem fcX12_run : fd_C cX12_run LcX12_run := ⟨by decide +kernel, by decide +kernel⟩
def LcX12_draw : List (List Nat) := [[42, 20, 2, 122, 42, 180, 0, 197, 105, 20, 2, 124, 97, 20, 2, 126], [113, 181, 0, 197, 42, 180, 0, 197, 20, 2, 128, 109, 27, 133, 113, 136], [172]]
theorem fcX12_draw : fd_C cX12_draw LcX12_draw := ⟨by decide +kernel, by decide +kernel⟩
def LcX12_chance : List (List Nat) := [[42, 180, 0, 146, 153, 0, 13, 27, 4, 16, 40, 184, 1, 106, 154, 0], [9, 42, 5, 182, 1, 56, 172, 42, 182, 2, 116, 3, 61, 3, 62, 29], [27, 162, 0, 33, 28, 42, 42, 42, 180, 0, 170, 182, 2, 130, 182, 2], [119, 2, 160, 0, 7, 4, 167, 0, 4, 3, 96, 61, 132, 3, 1, 167], [255, 224, 28, 172]]
theorem fcX12_chance : fd_C cX12_chance LcX12_chance := ⟨by decide +kernel, by decide +kernel⟩
def LcX12_swap : List (List Nat) := [[42, 27, 182, 1, 242, 153, 0, 16, 42, 28, 182, 1, 242, 153, 0, 8], [27, 28, 160, 0, 17, 42, 6, 182, 1, 56, 155, 0, 7, 4, 167, 0], [4, 3, 172, 42, 182, 2, 116, 42, 3, 27, 28, 182, 2, 106, 4, 172]]
theorem fcX12_swap : fd_C cX12_swap LcX12_swap := ⟨by decide +kernel, by decide +kernel⟩
def LcX12_drop : List (List Nat) := [[42, 27, 182, 1, 242, 154, 0, 17, 42, 6, 182, 1, 56, 155, 0, 7], [4, 167, 0, 4, 3, 172, 42, 182, 2, 116, 27, 61, 28, 4, 96, 42], [180, 0, 173, 3, 46, 162, 0, 23, 42, 180, 0, 176, 28, 42, 180, 0], [176, 28, 4, 96, 46, 79, 132, 2, 1, 167, 255, 227, 42, 180, 0, 173], [3, 92, 46, 4, 100, 79, 4, 172]]
theorem fcX12_drop : fd_C cX12_drop LcX12_drop := ⟨by decide +kernel, by decide +kernel⟩
def LcX12_turn : List (List Nat) := [[42, 180, 0, 146, 153, 0, 13, 27, 3, 16, 7, 184, 1, 106, 154, 0], [9, 42, 6, 182, 1, 56, 172, 42, 182, 2, 116, 42, 180, 0, 179, 3], [92, 46, 4, 27, 120, 130, 79, 42, 180, 0, 179, 3, 46, 27, 122, 4], [126, 172]]
theorem fcX12_turn : fd_C cX12_turn LcX12_turn := ⟨by decide +kernel, by decide +kernel⟩
def LcX12_choose : List (List Nat) := [[42, 180, 0, 146, 153, 0, 22, 27, 3, 6, 184, 1, 106, 153, 0, 13], [42, 180, 0, 182, 3, 46, 27, 160, 0, 17, 42, 6, 182, 1, 56, 155], [0, 7, 4, 167, 0, 4, 3, 172, 42, 182, 2, 116, 42, 180, 0, 182], [3, 27, 79, 4, 172]]
theorem fcX12_choose : fd_C cX12_choose LcX12_choose := ⟨by decide +kernel, by decide +kernel⟩
def LcX12_seed : List (List Nat) := [[27, 156, 0, 17, 42, 8, 182, 1, 56, 155, 0, 7, 4, 167, 0, 4], [3, 172, 42, 27, 133, 181, 0, 197, 4, 172]]
theorem fcX12_seed : fd_C cX12_seed LcX12_seed := ⟨by decide +kernel, by decide +kernel⟩
def LcX12_kept : List (List Nat) := [[27, 3, 42, 180, 0, 185, 3, 46, 4, 100, 184, 1, 106, 153, 0, 25], [28, 3, 5, 184, 1, 106, 153, 0, 16, 42, 180, 0, 188, 6, 27, 104], [28, 96, 46, 167, 0, 4, 2, 172]]
theorem fcX12_kept : fd_C cX12_kept LcX12_kept := ⟨by decide +kernel, by decide +kernel⟩
def LcX12_image : List (List Nat) := [[42, 3, 181, 0, 224, 42, 42, 180, 0, 173, 3, 46, 182, 2, 16, 3], [60, 27, 42, 180, 0, 173, 3, 46, 162, 0, 19, 42, 42, 180, 0, 176], [27, 46, 182, 2, 16, 132, 1, 1, 167, 255, 233, 42, 42, 180, 0, 179], [3, 46, 182, 2, 16, 42, 42, 180, 0, 182, 3, 46, 182, 2, 16, 17], [0, 199, 60, 3, 61, 28, 42, 180, 0, 224, 162, 0, 24, 8, 27, 104], [42, 180, 0, 221, 28, 46, 96, 17, 0, 251, 112, 60, 132, 2, 1, 167], [255, 230, 42, 27, 182, 2, 16, 42, 180, 0, 224, 172]]
theorem fcX12_image : fd_C cX12_image LcX12_image := ⟨by decide +kernel, by decide +kernel⟩
def LcX12_comesOn : List (List Nat) := [[42, 180, 0, 146, 153, 0, 38, 27, 7, 161, 0, 33, 42, 180, 0, 7], [3, 46, 42, 180, 0, 87, 42, 180, 0, 51, 46, 163, 0, 15, 27, 42], [180, 0, 7, 3, 46, 7, 96, 159, 0, 5, 3, 172, 17, 0, 199, 61], [3, 62, 29, 27, 4, 100, 162, 0, 24, 8, 28, 104, 42, 180, 0, 7], [29, 46, 96, 17, 0, 251, 112, 61, 132, 3, 1, 167, 255, 231, 42, 180], [0, 7, 27, 4, 100, 46, 28, 160, 0, 15, 42, 180, 0, 7, 27, 5], [100, 46, 7, 161, 0, 5, 3, 172, 42, 4, 3, 182, 1, 216, 42, 180], [0, 173, 4, 42, 180, 0, 7, 3, 46, 79, 3, 62, 3, 54, 4, 21], [4, 42, 180, 0, 7, 3, 46, 162, 0, 65, 42, 180, 0, 7, 4, 21], [4, 96, 46, 54, 5, 21, 5, 42, 180, 0, 87, 42, 180, 0, 51, 46], [162, 0, 13, 29, 21, 5, 122, 4, 126, 4, 160, 0, 5, 3, 172, 29], [4, 21, 5, 120, 128, 62, 42, 180, 0, 176, 16, 12, 21, 4, 96, 21], [5, 79, 132, 4, 1, 167, 255, 186, 42, 180, 0, 179, 4, 42, 180, 0], [7, 27, 6, 100, 46, 79, 42, 180, 0, 182, 4, 42, 180, 0, 7, 27], [5, 100, 46, 79, 42, 180, 0, 185, 4, 3, 79, 4, 172]]
theorem fcX12_comesOn : fd_C cX12_comesOn LcX12_comesOn := ⟨by decide +kernel, by decide +kernel⟩
def LcX12_on : List (List Nat) := [[42, 180, 0, 13, 60, 42, 3, 181, 0, 13, 42, 27, 182, 2, 133, 154], [0, 17, 42, 8, 182, 1, 56, 155, 0, 7, 4, 167, 0, 4, 3, 172], [42, 3, 4, 182, 1, 216, 42, 3, 181, 0, 194, 4, 172]]
theorem fcX12_on : fd_C cX12_on LcX12_on := ⟨by decide +kernel, by decide +kernel⟩
def LcJ6_bitCount_0f7a4 : List (List Nat) := [[26, 26, 4, 124, 19, 1, 9, 126, 100, 59, 26, 19, 1, 10, 126, 26], [5, 124, 19, 1, 10, 126, 96, 59, 26, 26, 7, 124, 96, 19, 1, 11], [126, 59, 26, 26, 16, 8, 124, 96, 59, 26, 26, 16, 16, 124, 96, 59], [26, 16, 63, 126, 172]]
theorem fcJ6_bitCount_0f7a4 : fd_C cJ6_bitCount_0f7a4 LcJ6_bitCount_0f7a4 := ⟨by decide +kernel, by decide +kernel⟩
def LcJ9_floorMod_7cf53 : List (List Nat) := [[26, 27, 112, 61, 26, 27, 130, 156, 0, 11, 28, 153, 0, 7, 28, 27], [96, 172, 28, 172]]
theorem fcJ9_floorMod_7cf53 : fd_C cJ9_floorMod_7cf53 LcJ9_floorMod_7cf53 := ⟨by decide +kernel, by decide +kernel⟩
def LcJ9_max_7cf53 : List (List Nat) := [[26, 27, 161, 0, 7, 26, 167, 0, 4, 27, 172]]
theorem fcJ9_max_7cf53 : fd_C cJ9_max_7cf53 LcJ9_max_7cf53 := ⟨by decide +kernel, by decide +kernel⟩
def LcJ9_min_7cf53 : List (List Nat) := [[26, 27, 163, 0, 7, 26, 167, 0, 4, 27, 172]]
theorem fcJ9_min_7cf53 : fd_C cJ9_min_7cf53 LcJ9_min_7cf53 := ⟨by decide +kernel, by decide +kernel⟩
def LcJ0_length_8abf5 : List (List Nat) := [[42, 180, 0, 9, 190, 42, 182, 1, 79, 122, 172]]
theorem fcJ0_length_8abf5 : fd_C cJ0_length_8abf5 LcJ0_length_8abf5 := ⟨by decide +kernel, by decide +kernel⟩
def LcJ0_charAt_5068e : List (List Nat) := [[42, 182, 1, 236, 153, 0, 12, 42, 180, 0, 9, 27, 184, 1, 239, 172], [42, 180, 0, 9, 27, 184, 1, 242, 172]]
theorem fcJ0_charAt_5068e : fd_C cJ0_charAt_5068e LcJ0_charAt_5068e := ⟨by decide +kernel, by decide +kernel⟩
def LcJ0_coder_7d493 : List (List Nat) := [[178, 0, 38, 153, 0, 10, 42, 180, 0, 15, 167, 0, 4, 4, 172]]
theorem fcJ0_coder_7d493 : fd_C cJ0_coder_7d493 LcJ0_coder_7d493 := ⟨by decide +kernel, by decide +kernel⟩
def LcJ0_isLatin1_aae02 : List (List Nat) := [[178, 0, 38, 153, 0, 14, 42, 180, 0, 15, 154, 0, 7, 4, 167, 0], [4, 3, 172]]
theorem fcJ0_isLatin1_aae02 : fd_C cJ0_isLatin1_aae02 LcJ0_isLatin1_aae02 := ⟨by decide +kernel, by decide +kernel⟩
def LcJ0_checkIndex_df160 : List (List Nat) := [[26, 27, 178, 4, 29, 184, 4, 35, 87, 177]]
theorem fcJ0_checkIndex_df160 : fd_C cJ0_checkIndex_df160 LcJ0_checkIndex_df160 := ⟨by decide +kernel, by decide +kernel⟩
def LcJ1_charAt_3b067 : List (List Nat) := [[27, 42, 190, 184, 0, 9, 42, 27, 51, 17, 0, 255, 126, 146, 172]]
theorem fcJ1_charAt_3b067 : fd_C cJ1_charAt_3b067 LcJ1_charAt_3b067 := ⟨by decide +kernel, by decide +kernel⟩
def LcJ3_checkIndex_8e157 : List (List Nat) := [[26, 155, 0, 8, 26, 27, 161, 0, 10, 44, 26, 27, 184, 0, 95, 191], [26, 172]]
theorem fcJ3_checkIndex_8e157 : fd_C cJ3_checkIndex_8e157 LcJ3_checkIndex_8e157 := ⟨by decide +kernel, by decide +kernel⟩
def LcL_law : List (List Nat) := [[187, 0, 7, 89, 183, 0, 9, 76, 187, 0, 10, 89, 183, 0, 12, 77], [3, 62, 29, 42, 190, 16, 6, 100, 163, 4, 51, 42, 29, 46, 16, 63], [126, 170, 0, 0, 0, 0, 4, 36, 0, 0, 0, 0, 0, 0, 0, 34], [0, 0, 0, 155, 0, 0, 0, 218, 0, 0, 0, 241, 0, 0, 0, 254], [0, 0, 1, 21, 0, 0, 1, 44, 0, 0, 1, 87, 0, 0, 1, 110], [0, 0, 1, 143, 0, 0, 1, 186, 0, 0, 1, 219, 0, 0, 1, 242], [0, 0, 2, 9, 0, 0, 2, 22, 0, 0, 2, 45, 0, 0, 2, 68], [0, 0, 2, 101, 0, 0, 2, 124, 0, 0, 2, 167, 0, 0, 2, 200], [0, 0, 2, 223, 0, 0, 2, 236, 0, 0, 3, 3, 0, 0, 3, 26], [0, 0, 3, 49, 0, 0, 3, 72, 0, 0, 3, 105, 0, 0, 3, 128], [0, 0, 3, 151, 0, 0, 3, 174, 0, 0, 3, 187, 0, 0, 3, 210], [0, 0, 3, 243, 0, 0, 4, 0, 0, 0, 4, 13, 43, 42, 29, 4], [96, 46, 42, 29, 5, 96, 46, 42, 29, 6, 96, 46, 42, 29, 7, 96], [46, 42, 29, 8, 96, 46, 182, 0, 13, 87, 44, 42, 29, 4, 96, 46], [42, 29, 5, 96, 46, 42, 29, 6, 96, 46, 42, 29, 7, 96, 46, 42], [29, 8, 96, 46, 182, 0, 17, 87, 167, 3, 77, 43, 42, 29, 4, 96], [46, 182, 0, 18, 87, 44, 42, 29, 4, 96, 46, 182, 0, 22, 87, 167], [3, 54, 43, 182, 0, 23, 87, 44, 182, 0, 27, 87, 167, 3, 41, 43], [42, 29, 4, 96, 46, 182, 0, 28, 87, 44, 42, 29, 4, 96, 46, 182], [0, 32, 87, 167, 3, 18, 43, 42, 29, 4, 96, 46, 182, 0, 33, 87], [44, 42, 29, 4, 96, 46, 182, 0, 36, 87, 167, 2, 251, 43, 42, 29], [4, 96, 46, 42, 29, 5, 96, 46, 42, 29, 6, 96, 46, 182, 0, 37], [87, 44, 42, 29, 4, 96, 46, 42, 29, 5, 96, 46, 42, 29, 6, 96], [46, 182, 0, 41, 87, 167, 2, 208, 43, 42, 29, 4, 96, 46, 182, 0], [42, 87, 44, 42, 29, 4, 96, 46, 182, 0, 45, 87, 167, 2, 185, 43], [42, 29, 4, 96, 46, 42, 29, 5, 96, 46, 182, 0, 46, 87, 44, 42], [29, 4, 96, 46, 42, 29, 5, 96, 46, 182, 0, 50, 87, 167, 2, 152], [43, 42, 29, 4, 96, 46, 42, 29, 5, 96, 46, 42, 29, 6, 96, 46], [182, 0, 51, 87, 44, 42, 29, 4, 96, 46, 42, 29, 5, 96, 46, 42], [29, 6, 96, 46, 182, 0, 54, 87, 167, 2, 109, 43, 42, 29, 4, 96], [46, 42, 29, 5, 96, 46, 182, 0, 55, 87, 44, 42, 29, 4, 96, 46], [42, 29, 5, 96, 46, 182, 0, 58, 87, 167, 2, 76, 43, 42, 29, 4], [96, 46, 182, 0, 59, 87, 44, 42, 29, 4, 96, 46, 182, 0, 62, 87], [167, 2, 53, 43, 42, 29, 4, 96, 46, 182, 0, 63, 87, 44, 42, 29], [4, 96, 46, 182, 0, 66, 87, 167, 2, 30, 43, 182, 0, 67, 87, 44], [182, 0, 70, 87, 167, 2, 17, 43, 42, 29, 4, 96, 46, 182, 0, 71], [87, 44, 42, 29, 4, 96, 46, 182, 0, 74, 87, 167, 1, 250, 43, 42], [29, 4, 96, 46, 182, 0, 75, 87, 44, 42, 29, 4, 96, 46, 182, 0], [78, 87, 167, 1, 227, 43, 42, 29, 4, 96, 46, 42, 29, 5, 96, 46], [182, 0, 79, 87, 44, 42, 29, 4, 96, 46, 42, 29, 5, 96, 46, 182], [0, 82, 87, 167, 1, 194, 43, 42, 29, 4, 96, 46, 182, 0, 83, 87], [44, 42, 29, 4, 96, 46, 182, 0, 86, 87, 167, 1, 171, 43, 42, 29], [4, 96, 46, 42, 29, 5, 96, 46, 42, 29, 6, 96, 46, 182, 0, 87], [87, 44, 42, 29, 4, 96, 46, 42, 29, 5, 96, 46, 42, 29, 6, 96], [46, 182, 0, 90, 87, 167, 1, 128, 43, 42, 29, 4, 96, 46, 42, 29], [5, 96, 46, 182, 0, 91, 87, 44, 42, 29, 4, 96, 46, 42, 29, 5], [96, 46, 182, 0, 94, 87, 167, 1, 95, 43, 42, 29, 4, 96, 46, 182], [0, 95, 87, 44, 42, 29, 4, 96, 46, 182, 0, 98, 87, 167, 1, 72], [43, 182, 0, 99, 44, 182, 0, 102, 159, 1, 61, 3, 172, 43, 42, 29], [4, 96, 46, 182, 0, 103, 87, 44, 42, 29, 4, 96, 46, 182, 0, 106], [87, 167, 1, 36, 43, 42, 29, 4, 96, 46, 182, 0, 107, 87, 44, 42], [29, 4, 96, 46, 182, 0, 110, 87, 167, 1, 13, 43, 42, 29, 4, 96], [46, 182, 0, 111, 87, 44, 42, 29, 4, 96, 46, 182, 0, 114, 87, 167], [0, 246, 43, 42, 29, 4, 96, 46, 182, 0, 115, 87, 44, 42, 29, 4], [96, 46, 182, 0, 118, 87, 167, 0, 223, 43, 42, 29, 4, 96, 46, 42], [29, 5, 96, 46, 182, 0, 119, 87, 44, 42, 29, 4, 96, 46, 42, 29], [5, 96, 46, 182, 0, 123, 87, 167, 0, 190, 43, 42, 29, 4, 96, 46], [182, 0, 124, 87, 44, 42, 29, 4, 96, 46, 182, 0, 127, 87, 167, 0], [167, 43, 42, 29, 4, 96, 46, 182, 0, 128, 87, 44, 42, 29, 4, 96], [46, 182, 0, 131, 87, 167, 0, 144, 43, 42, 29, 4, 96, 46, 182, 0], [132, 87, 44, 42, 29, 4, 96, 46, 182, 0, 135, 87, 167, 0, 121, 43], [182, 0, 136, 87, 44, 182, 0, 140, 87, 167, 0, 108, 43, 42, 29, 4], [96, 46, 182, 0, 141, 87, 44, 42, 29, 4, 96, 46, 182, 0, 144, 87], [167, 0, 85, 43, 42, 29, 4, 96, 46, 42, 29, 5, 96, 46, 182, 0], [145, 87, 44, 42, 29, 4, 96, 46, 42, 29, 5, 96, 46, 182, 0, 148], [87, 167, 0, 52, 43, 182, 0, 149, 87, 44, 182, 0, 152, 87, 167, 0], [39, 43, 182, 0, 153, 87, 44, 182, 0, 156, 87, 167, 0, 26, 43, 42], [29, 4, 96, 46, 182, 0, 157, 87, 44, 42, 29, 4, 96, 46, 182, 0], [160, 87, 167, 0, 3, 132, 3, 6, 167, 251, 202, 4, 172]]
theorem fcL_law : fd_C cL_law LcL_law := ⟨by decide +kernel, by decide +kernel⟩
