/-! The class's first heap keeps its bounds. -/
theorem BdX0 (ff : Nat → Int32) : BdX (PX0 ff) := by
  refine ⟨fun o ho j h1 h2 h3 => ?_, fun o ho ha k => ?_, ?_⟩
  · have k1 : ∀ o : Nat, o < 154 → (shX (kdX o)).1 = 0 → (shX (kdX o)).2.2 ≤ 15 ∧ o ≠ 112 := by decide +kernel
    have k2 : ∀ o : Nat, o < 154 → ∀ j : Nat, j < 15 → (¬ (shX (kdX o)).1 = 0 ∨ ¬ j < (shX (kdX o)).2.2 ∨ ¬ ftX (kdX o) j < 2 ∨ (loX (kdX o) j ≤ PX0 (fun _ => 0) o (j : Int) ∧ PX0 (fun _ => 0) o (j : Int) ≤ hiX (kdX o) j)) := by decide +kernel
    obtain ⟨q1, q2⟩ := k1 o ho h1
    have e : PX0 ff o (j : Int) = PX0 (fun _ => 0) o (j : Int) := by unfold PX0; rw [if_neg q2, if_neg q2]
    rw [e]
    exact (((k2 o ho j (by omega)).resolve_left (fun q => q h1)).resolve_left (fun q => q h2)).resolve_left (fun q => q h3)
  · have k1 : ∀ o : Nat, o < 154 → arX (kdX o) = true → o ≠ 0 ∧ o ≠ 110 ∧ o ≠ 111 ∧ o ≠ 125 ∧ laX (kdX o) ≤ 0 ∧ 0 ≤ haX (kdX o) := by decide +kernel
    obtain ⟨a1, a2, a3, a4, a5, a6⟩ := k1 o ho ha
    by_cases e : o = 112
    · subst e
      have : PX0 ff 112 k = (ff k.toNat).toInt := rfl
      rw [this]
      have := rgI (ff k.toNat)
      exact this
    · have : PX0 ff o k = 0 := by unfold PX0; rw [if_neg e, if_neg a1, if_neg a2, if_neg a3, if_neg a4]
      rw [this]; exact ⟨a5, a6⟩
  · exact ⟨⟨(by decide : (0 : Int) ≤ 70), (by decide : 70 < 154), rfl⟩, ⟨(by decide : (0 : Int) ≤ 90), (by decide : 90 < 154), rfl⟩, ⟨(by decide : (0 : Int) ≤ 70), (by decide : 70 < 154), rfl⟩, (by decide : (0 : Int) ≤ 113), ⟨(by decide : (0 : Int) ≤ 70), (by decide : 70 < 154), rfl⟩, ⟨(by decide : (0 : Int) ≤ 14), (by decide : 14 < 154), rfl⟩⟩
set_option maxRecDepth 100000 in
theorem xpos {K : Nat → ClassId} {h0 : Nat} {r : Nat → Nat} {ff : Nat → Int32} (o : Nat) (ho : o < WSX.1) : ∃ x : Nat × va_E, (WX1 K h0 r ff)[posX o]? = some x ∧ x.1 = adX h0 r o := by
  have ho : o < 154 := ho
  rcases (show o = 0 ∨ o = 1 ∨ o = 2 ∨ o = 3 ∨ o = 4 ∨ o = 5 ∨ o = 6 ∨ o = 7 ∨ o = 8 ∨ o = 9 ∨ o = 10 ∨ o = 11 ∨ o = 12 ∨ o = 13 ∨ o = 14 ∨ o = 15 ∨ o = 16 ∨ o = 17 ∨ o = 18 ∨ o = 19 ∨ o = 20 ∨ o = 21 ∨ o = 22 ∨ o = 23 ∨ o = 24 ∨ o = 25 ∨ o = 26 ∨ o = 27 ∨ o = 28 ∨ o = 29 ∨ o = 30 ∨ o = 31 ∨ o = 32 ∨ o = 33 ∨ o = 34 ∨ o = 35 ∨ o = 36 ∨ o = 37 ∨ o = 38 ∨ o = 39 ∨ o = 40 ∨ o = 41 ∨ o = 42 ∨ o = 43 ∨ o = 44 ∨ o = 45 ∨ o = 46 ∨ o = 47 ∨ o = 48 ∨ o = 49 ∨ o = 50 ∨ o = 51 ∨ o = 52 ∨ o = 53 ∨ o = 54 ∨ o = 55 ∨ o = 56 ∨ o = 57 ∨ o = 58 ∨ o = 59 ∨ o = 60 ∨ o = 61 ∨ o = 62 ∨ o = 63 ∨ o = 64 ∨ o = 65 ∨ o = 66 ∨ o = 67 ∨ o = 68 ∨ o = 69 ∨ o = 70 ∨ o = 71 ∨ o = 72 ∨ o = 73 ∨ o = 74 ∨ o = 75 ∨ o = 76 ∨ o = 77 ∨ o = 78 ∨ o = 79 ∨ o = 80 ∨ o = 81 ∨ o = 82 ∨ o = 83 ∨ o = 84 ∨ o = 85 ∨ o = 86 ∨ o = 87 ∨ o = 88 ∨ o = 89 ∨ o = 90 ∨ o = 91 ∨ o = 92 ∨ o = 93 ∨ o = 94 ∨ o = 95 ∨ o = 96 ∨ o = 97 ∨ o = 98 ∨ o = 99 ∨ o = 100 ∨ o = 101 ∨ o = 102 ∨ o = 103 ∨ o = 104 ∨ o = 105 ∨ o = 106 ∨ o = 107 ∨ o = 108 ∨ o = 109 ∨ o = 110 ∨ o = 111 ∨ o = 112 ∨ o = 113 ∨ o = 114 ∨ o = 115 ∨ o = 116 ∨ o = 117 ∨ o = 118 ∨ o = 119 ∨ o = 120 ∨ o = 121 ∨ o = 122 ∨ o = 123 ∨ o = 124 ∨ o = 125 ∨ o = 126 ∨ o = 127 ∨ o = 128 ∨ o = 129 ∨ o = 130 ∨ o = 131 ∨ o = 132 ∨ o = 133 ∨ o = 134 ∨ o = 135 ∨ o = 136 ∨ o = 137 ∨ o = 138 ∨ o = 139 ∨ o = 140 ∨ o = 141 ∨ o = 142 ∨ o = 143 ∨ o = 144 ∨ o = 145 ∨ o = 146 ∨ o = 147 ∨ o = 148 ∨ o = 149 ∨ o = 150 ∨ o = 151 ∨ o = 152 ∨ o = 153 by omega) with rfl | rfl | rfl | rfl | rfl | rfl | rfl | rfl | rfl | rfl | rfl | rfl | rfl | rfl | rfl | rfl | rfl | rfl | rfl | rfl | rfl | rfl | rfl | rfl | rfl | rfl | rfl | rfl | rfl | rfl | rfl | rfl | rfl | rfl | rfl | rfl | rfl | rfl | rfl | rfl | rfl | rfl | rfl | rfl | rfl | rfl | rfl | rfl | rfl | rfl | rfl | rfl | rfl | rfl | rfl | rfl | rfl | rfl | rfl | rfl | rfl | rfl | rfl | rfl | rfl | rfl | rfl | rfl | rfl | rfl | rfl | rfl | rfl | rfl | rfl | rfl | rfl | rfl | rfl | rfl | rfl | rfl | rfl | rfl | rfl | rfl | rfl | rfl | rfl | rfl | rfl | rfl | rfl | rfl | rfl | rfl | rfl | rfl | rfl | rfl | rfl | rfl | rfl | rfl | rfl | rfl | rfl | rfl | rfl | rfl | rfl | rfl | rfl | rfl | rfl | rfl | rfl | rfl | rfl | rfl | rfl | rfl | rfl | rfl | rfl | rfl | rfl | rfl | rfl | rfl | rfl | rfl | rfl | rfl | rfl | rfl | rfl | rfl | rfl | rfl | rfl | rfl | rfl | rfl | rfl | rfl | rfl | rfl | rfl | rfl | rfl | rfl | rfl | rfl <;> exact ⟨_, rfl, rfl⟩
