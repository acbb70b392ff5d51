theorem gB_99 (pc : Nat) (e : gE) (h : gT_99 pc = some e) : pc < 52 := by
  unfold gT_99 at h
  cases hb : Nat.ble pc 51 with
  | true => exact Nat.lt_succ_of_le (Nat.le_of_ble_eq_true hb)
  | false => rw [hb] at h; exact absurd h (by simp)
theorem gO_99 : ∀ pc e, gF 99 pc = some e → gChk 99 pc e = true := fun pc e h => gLeaf (M := 52) (by decide +kernel) (by decide +kernel) (gB_99 pc e h) h
theorem gB_100 (pc : Nat) (e : gE) (h : gT_100 pc = some e) : pc < 187 := by
  unfold gT_100 at h
  cases hb : Nat.ble pc 186 with
  | true => exact Nat.lt_succ_of_le (Nat.le_of_ble_eq_true hb)
  | false => rw [hb] at h; exact absurd h (by simp)
theorem gO_100 : ∀ pc e, gF 100 pc = some e → gChk 100 pc e = true := fun pc e h => gLeaf (M := 187) (by decide +kernel) (by decide +kernel) (gB_100 pc e h) h
theorem gB_101 (pc : Nat) (e : gE) (h : gT_101 pc = some e) : pc < 49 := by
  unfold gT_101 at h
  cases hb : Nat.ble pc 48 with
  | true => exact Nat.lt_succ_of_le (Nat.le_of_ble_eq_true hb)
  | false => rw [hb] at h; exact absurd h (by simp)
theorem gO_101 : ∀ pc e, gF 101 pc = some e → gChk 101 pc e = true := fun pc e h => gLeaf (M := 49) (by decide +kernel) (by decide +kernel) (gB_101 pc e h) h
theorem gB_102 (pc : Nat) (e : gE) (h : gT_102 pc = some e) : pc < 86 := by
  unfold gT_102 at h
  cases hb : Nat.ble pc 85 with
  | true => exact Nat.lt_succ_of_le (Nat.le_of_ble_eq_true hb)
  | false => rw [hb] at h; exact absurd h (by simp)
theorem gO_102 : ∀ pc e, gF 102 pc = some e → gChk 102 pc e = true := fun pc e h => gLeaf (M := 86) (by decide +kernel) (by decide +kernel) (gB_102 pc e h) h
theorem gB_103 (pc : Nat) (e : gE) (h : gT_103 pc = some e) : pc < 114 := by
  unfold gT_103 at h
  cases hb : Nat.ble pc 113 with
  | true => exact Nat.lt_succ_of_le (Nat.le_of_ble_eq_true hb)
  | false => rw [hb] at h; exact absurd h (by simp)
theorem gO_103 : ∀ pc e, gF 103 pc = some e → gChk 103 pc e = true := fun pc e h => gLeaf (M := 114) (by decide +kernel) (by decide +kernel) (gB_103 pc e h) h
theorem gB_104 (pc : Nat) (e : gE) (h : gT_104 pc = some e) : pc < 64 := by
  unfold gT_104 at h
  cases hb : Nat.ble pc 63 with
  | true => exact Nat.lt_succ_of_le (Nat.le_of_ble_eq_true hb)
  | false => rw [hb] at h; exact absurd h (by simp)
theorem gO_104 : ∀ pc e, gF 104 pc = some e → gChk 104 pc e = true := fun pc e h => gLeaf (M := 64) (by decide +kernel) (by decide +kernel) (gB_104 pc e h) h
theorem gB_105 (pc : Nat) (e : gE) (h : gT_105 pc = some e) : pc < 79 := by
  unfold gT_105 at h
  cases hb : Nat.ble pc 78 with
  | true => exact Nat.lt_succ_of_le (Nat.le_of_ble_eq_true hb)
  | false => rw [hb] at h; exact absurd h (by simp)
theorem gO_105 : ∀ pc e, gF 105 pc = some e → gChk 105 pc e = true := fun pc e h => gLeaf (M := 79) (by decide +kernel) (by decide +kernel) (gB_105 pc e h) h
theorem gB_106 (pc : Nat) (e : gE) (h : gT_106 pc = some e) : pc < 37 := by
  unfold gT_106 at h
  cases hb : Nat.ble pc 36 with
  | true => exact Nat.lt_succ_of_le (Nat.le_of_ble_eq_true hb)
  | false => rw [hb] at h; exact absurd h (by simp)
theorem gO_106 : ∀ pc e, gF 106 pc = some e → gChk 106 pc e = true := fun pc e h => gLeaf (M := 37) (by decide +kernel) (by decide +kernel) (gB_106 pc e h) h
theorem gB_107 (pc : Nat) (e : gE) (h : gT_107 pc = some e) : pc < 8 := by
  unfold gT_107 at h
  cases hb : Nat.ble pc 7 with
  | true => exact Nat.lt_succ_of_le (Nat.le_of_ble_eq_true hb)
  | false => rw [hb] at h; exact absurd h (by simp)
theorem gO_107 : ∀ pc e, gF 107 pc = some e → gChk 107 pc e = true := fun pc e h => gLeaf (M := 8) (by decide +kernel) (by decide +kernel) (gB_107 pc e h) h
theorem gB_108 (pc : Nat) (e : gE) (h : gT_108 pc = some e) : pc < 42 := by
  unfold gT_108 at h
  cases hb : Nat.ble pc 41 with
  | true => exact Nat.lt_succ_of_le (Nat.le_of_ble_eq_true hb)
  | false => rw [hb] at h; exact absurd h (by simp)
theorem gO_108 : ∀ pc e, gF 108 pc = some e → gChk 108 pc e = true := fun pc e h => gLeaf (M := 42) (by decide +kernel) (by decide +kernel) (gB_108 pc e h) h
theorem gB_109 (pc : Nat) (e : gE) (h : gT_109 pc = some e) : pc < 97 := by
  unfold gT_109 at h
  cases hb : Nat.ble pc 96 with
  | true => exact Nat.lt_succ_of_le (Nat.le_of_ble_eq_true hb)
  | false => rw [hb] at h; exact absurd h (by simp)
theorem gO_109 : ∀ pc e, gF 109 pc = some e → gChk 109 pc e = true := fun pc e h => gLeaf (M := 97) (by decide +kernel) (by decide +kernel) (gB_109 pc e h) h
theorem gB_110 (pc : Nat) (e : gE) (h : gT_110 pc = some e) : pc < 96 := by
  unfold gT_110 at h
  cases hb : Nat.ble pc 95 with
  | true => exact Nat.lt_succ_of_le (Nat.le_of_ble_eq_true hb)
  | false => rw [hb] at h; exact absurd h (by simp)
theorem gO_110 : ∀ pc e, gF 110 pc = some e → gChk 110 pc e = true := fun pc e h => gLeaf (M := 96) (by decide +kernel) (by decide +kernel) (gB_110 pc e h) h
theorem gB_111 (pc : Nat) (e : gE) (h : gT_111 pc = some e) : pc < 57 := by
  unfold gT_111 at h
  cases hb : Nat.ble pc 56 with
  | true => exact Nat.lt_succ_of_le (Nat.le_of_ble_eq_true hb)
  | false => rw [hb] at h; exact absurd h (by simp)
theorem gO_111 : ∀ pc e, gF 111 pc = some e → gChk 111 pc e = true := fun pc e h => gLeaf (M := 57) (by decide +kernel) (by decide +kernel) (gB_111 pc e h) h
theorem gB_112 (pc : Nat) (e : gE) (h : gT_112 pc = some e) : pc < 114 := by
  unfold gT_112 at h
  cases hb : Nat.ble pc 113 with
  | true => exact Nat.lt_succ_of_le (Nat.le_of_ble_eq_true hb)
  | false => rw [hb] at h; exact absurd h (by simp)
theorem gO_112 : ∀ pc e, gF 112 pc = some e → gChk 112 pc e = true := fun pc e h => gLeaf (M := 114) (by decide +kernel) (by decide +kernel) (gB_112 pc e h) h
theorem gB_113 (pc : Nat) (e : gE) (h : gT_113 pc = some e) : pc < 63 := by
  unfold gT_113 at h
  cases hb : Nat.ble pc 62 with
  | true => exact Nat.lt_succ_of_le (Nat.le_of_ble_eq_true hb)
  | false => rw [hb] at h; exact absurd h (by simp)
theorem gO_113 : ∀ pc e, gF 113 pc = some e → gChk 113 pc e = true := fun pc e h => gLeaf (M := 63) (by decide +kernel) (by decide +kernel) (gB_113 pc e h) h
theorem gB_114 (pc : Nat) (e : gE) (h : gT_114 pc = some e) : pc < 88 := by
  unfold gT_114 at h
  cases hb : Nat.ble pc 87 with
  | true => exact Nat.lt_succ_of_le (Nat.le_of_ble_eq_true hb)
  | false => rw [hb] at h; exact absurd h (by simp)
theorem gO_114 : ∀ pc e, gF 114 pc = some e → gChk 114 pc e = true := fun pc e h => gLeaf (M := 88) (by decide +kernel) (by decide +kernel) (gB_114 pc e h) h
theorem gB_115 (pc : Nat) (e : gE) (h : gT_115 pc = some e) : pc < 160 := by
  unfold gT_115 at h
  cases hb : Nat.ble pc 159 with
  | true => exact Nat.lt_succ_of_le (Nat.le_of_ble_eq_true hb)
  | false => rw [hb] at h; exact absurd h (by simp)
theorem gO_115 : ∀ pc e, gF 115 pc = some e → gChk 115 pc e = true := fun pc e h => gLeaf (M := 160) (by decide +kernel) (by decide +kernel) (gB_115 pc e h) h
theorem gB_116 (pc : Nat) (e : gE) (h : gT_116 pc = some e) : pc < 72 := by
  unfold gT_116 at h
  cases hb : Nat.ble pc 71 with
  | true => exact Nat.lt_succ_of_le (Nat.le_of_ble_eq_true hb)
  | false => rw [hb] at h; exact absurd h (by simp)
theorem gO_116 : ∀ pc e, gF 116 pc = some e → gChk 116 pc e = true := fun pc e h => gLeaf (M := 72) (by decide +kernel) (by decide +kernel) (gB_116 pc e h) h
theorem gB_117 (pc : Nat) (e : gE) (h : gT_117 pc = some e) : pc < 75 := by
  unfold gT_117 at h
  cases hb : Nat.ble pc 74 with
  | true => exact Nat.lt_succ_of_le (Nat.le_of_ble_eq_true hb)
  | false => rw [hb] at h; exact absurd h (by simp)
theorem gO_117 : ∀ pc e, gF 117 pc = some e → gChk 117 pc e = true := fun pc e h => gLeaf (M := 75) (by decide +kernel) (by decide +kernel) (gB_117 pc e h) h
theorem gB_118 (pc : Nat) (e : gE) (h : gT_118 pc = some e) : pc < 60 := by
  unfold gT_118 at h
  cases hb : Nat.ble pc 59 with
  | true => exact Nat.lt_succ_of_le (Nat.le_of_ble_eq_true hb)
  | false => rw [hb] at h; exact absurd h (by simp)
theorem gO_118 : ∀ pc e, gF 118 pc = some e → gChk 118 pc e = true := fun pc e h => gLeaf (M := 60) (by decide +kernel) (by decide +kernel) (gB_118 pc e h) h
theorem gB_119 (pc : Nat) (e : gE) (h : gT_119 pc = some e) : pc < 22 := by
  unfold gT_119 at h
  cases hb : Nat.ble pc 21 with
  | true => exact Nat.lt_succ_of_le (Nat.le_of_ble_eq_true hb)
  | false => rw [hb] at h; exact absurd h (by simp)
theorem gO_119 : ∀ pc e, gF 119 pc = some e → gChk 119 pc e = true := fun pc e h => gLeaf (M := 22) (by decide +kernel) (by decide +kernel) (gB_119 pc e h) h
theorem gB_120 (pc : Nat) (e : gE) (h : gT_120 pc = some e) : pc < 107 := by
  unfold gT_120 at h
  cases hb : Nat.ble pc 106 with
  | true => exact Nat.lt_succ_of_le (Nat.le_of_ble_eq_true hb)
  | false => rw [hb] at h; exact absurd h (by simp)
theorem gO_120 : ∀ pc e, gF 120 pc = some e → gChk 120 pc e = true := fun pc e h => gLeaf (M := 107) (by decide +kernel) (by decide +kernel) (gB_120 pc e h) h
theorem gB_121 (pc : Nat) (e : gE) (h : gT_121 pc = some e) : pc < 104 := by
  unfold gT_121 at h
  cases hb : Nat.ble pc 103 with
  | true => exact Nat.lt_succ_of_le (Nat.le_of_ble_eq_true hb)
  | false => rw [hb] at h; exact absurd h (by simp)
theorem gO_121 : ∀ pc e, gF 121 pc = some e → gChk 121 pc e = true := fun pc e h => gLeaf (M := 104) (by decide +kernel) (by decide +kernel) (gB_121 pc e h) h
theorem gB_122 (pc : Nat) (e : gE) (h : gT_122 pc = some e) : pc < 101 := by
  unfold gT_122 at h
  cases hb : Nat.ble pc 100 with
  | true => exact Nat.lt_succ_of_le (Nat.le_of_ble_eq_true hb)
  | false => rw [hb] at h; exact absurd h (by simp)
theorem gO_122 : ∀ pc e, gF 122 pc = some e → gChk 122 pc e = true := fun pc e h => gLeaf (M := 101) (by decide +kernel) (by decide +kernel) (gB_122 pc e h) h
theorem gB_123 (pc : Nat) (e : gE) (h : gT_123 pc = some e) : pc < 83 := by
  unfold gT_123 at h
  cases hb : Nat.ble pc 82 with
  | true => exact Nat.lt_succ_of_le (Nat.le_of_ble_eq_true hb)
  | false => rw [hb] at h; exact absurd h (by simp)
theorem gO_123 : ∀ pc e, gF 123 pc = some e → gChk 123 pc e = true := fun pc e h => gLeaf (M := 83) (by decide +kernel) (by decide +kernel) (gB_123 pc e h) h
theorem gB_124 (pc : Nat) (e : gE) (h : gT_124 pc = some e) : pc < 58 := by
  unfold gT_124 at h
  cases hb : Nat.ble pc 57 with
  | true => exact Nat.lt_succ_of_le (Nat.le_of_ble_eq_true hb)
  | false => rw [hb] at h; exact absurd h (by simp)
theorem gO_124 : ∀ pc e, gF 124 pc = some e → gChk 124 pc e = true := fun pc e h => gLeaf (M := 58) (by decide +kernel) (by decide +kernel) (gB_124 pc e h) h
theorem gB_125 (pc : Nat) (e : gE) (h : gT_125 pc = some e) : pc < 46 := by
  unfold gT_125 at h
  cases hb : Nat.ble pc 45 with
  | true => exact Nat.lt_succ_of_le (Nat.le_of_ble_eq_true hb)
  | false => rw [hb] at h; exact absurd h (by simp)
theorem gO_125 : ∀ pc e, gF 125 pc = some e → gChk 125 pc e = true := fun pc e h => gLeaf (M := 46) (by decide +kernel) (by decide +kernel) (gB_125 pc e h) h
theorem gB_126 (pc : Nat) (e : gE) (h : gT_126 pc = some e) : pc < 24 := by
  unfold gT_126 at h
  cases hb : Nat.ble pc 23 with
  | true => exact Nat.lt_succ_of_le (Nat.le_of_ble_eq_true hb)
  | false => rw [hb] at h; exact absurd h (by simp)
theorem gO_126 : ∀ pc e, gF 126 pc = some e → gChk 126 pc e = true := fun pc e h => gLeaf (M := 24) (by decide +kernel) (by decide +kernel) (gB_126 pc e h) h
theorem gB_127 (pc : Nat) (e : gE) (h : gT_127 pc = some e) : pc < 8 := by
  unfold gT_127 at h
  cases hb : Nat.ble pc 7 with
  | true => exact Nat.lt_succ_of_le (Nat.le_of_ble_eq_true hb)
  | false => rw [hb] at h; exact absurd h (by simp)
theorem gO_127 : ∀ pc e, gF 127 pc = some e → gChk 127 pc e = true := fun pc e h => gLeaf (M := 8) (by decide +kernel) (by decide +kernel) (gB_127 pc e h) h
theorem gB_128 (pc : Nat) (e : gE) (h : gT_128 pc = some e) : pc < 105 := by
  unfold gT_128 at h
  cases hb : Nat.ble pc 104 with
  | true => exact Nat.lt_succ_of_le (Nat.le_of_ble_eq_true hb)
  | false => rw [hb] at h; exact absurd h (by simp)
theorem gO_128 : ∀ pc e, gF 128 pc = some e → gChk 128 pc e = true := fun pc e h => gLeaf (M := 105) (by decide +kernel) (by decide +kernel) (gB_128 pc e h) h
theorem gB_129 (pc : Nat) (e : gE) (h : gT_129 pc = some e) : pc < 24 := by
  unfold gT_129 at h
  cases hb : Nat.ble pc 23 with
  | true => exact Nat.lt_succ_of_le (Nat.le_of_ble_eq_true hb)
  | false => rw [hb] at h; exact absurd h (by simp)
theorem gO_129 : ∀ pc e, gF 129 pc = some e → gChk 129 pc e = true := fun pc e h => gLeaf (M := 24) (by decide +kernel) (by decide +kernel) (gB_129 pc e h) h
theorem gB_130 (pc : Nat) (e : gE) (h : gT_130 pc = some e) : pc < 29 := by
  unfold gT_130 at h
  cases hb : Nat.ble pc 28 with
  | true => exact Nat.lt_succ_of_le (Nat.le_of_ble_eq_true hb)
  | false => rw [hb] at h; exact absurd h (by simp)
theorem gO_130 : ∀ pc e, gF 130 pc = some e → gChk 130 pc e = true := fun pc e h => gLeaf (M := 29) (by decide +kernel) (by decide +kernel) (gB_130 pc e h) h
theorem gB_131 (pc : Nat) (e : gE) (h : gT_131 pc = some e) : pc < 23 := by
  unfold gT_131 at h
  cases hb : Nat.ble pc 22 with
  | true => exact Nat.lt_succ_of_le (Nat.le_of_ble_eq_true hb)
  | false => rw [hb] at h; exact absurd h (by simp)
theorem gO_131 : ∀ pc e, gF 131 pc = some e → gChk 131 pc e = true := fun pc e h => gLeaf (M := 23) (by decide +kernel) (by decide +kernel) (gB_131 pc e h) h
theorem gB_132 (pc : Nat) (e : gE) (h : gT_132 pc = some e) : pc < 31 := by
  unfold gT_132 at h
  cases hb : Nat.ble pc 30 with
  | true => exact Nat.lt_succ_of_le (Nat.le_of_ble_eq_true hb)
  | false => rw [hb] at h; exact absurd h (by simp)
theorem gO_132 : ∀ pc e, gF 132 pc = some e → gChk 132 pc e = true := fun pc e h => gLeaf (M := 31) (by decide +kernel) (by decide +kernel) (gB_132 pc e h) h
theorem gB_133 (pc : Nat) (e : gE) (h : gT_133 pc = some e) : pc < 18 := by
  unfold gT_133 at h
  cases hb : Nat.ble pc 17 with
  | true => exact Nat.lt_succ_of_le (Nat.le_of_ble_eq_true hb)
  | false => rw [hb] at h; exact absurd h (by simp)
theorem gO_133 : ∀ pc e, gF 133 pc = some e → gChk 133 pc e = true := fun pc e h => gLeaf (M := 18) (by decide +kernel) (by decide +kernel) (gB_133 pc e h) h
theorem gB_134 (pc : Nat) (e : gE) (h : gT_134 pc = some e) : pc < 11 := by
  unfold gT_134 at h
  cases hb : Nat.ble pc 10 with
  | true => exact Nat.lt_succ_of_le (Nat.le_of_ble_eq_true hb)
  | false => rw [hb] at h; exact absurd h (by simp)
theorem gO_134 : ∀ pc e, gF 134 pc = some e → gChk 134 pc e = true := fun pc e h => gLeaf (M := 11) (by decide +kernel) (by decide +kernel) (gB_134 pc e h) h
theorem gB_135 (pc : Nat) (e : gE) (h : gT_135 pc = some e) : pc < 9 := by
  unfold gT_135 at h
  cases hb : Nat.ble pc 8 with
  | true => exact Nat.lt_succ_of_le (Nat.le_of_ble_eq_true hb)
  | false => rw [hb] at h; exact absurd h (by simp)
theorem gO_135 : ∀ pc e, gF 135 pc = some e → gChk 135 pc e = true := fun pc e h => gLeaf (M := 9) (by decide +kernel) (by decide +kernel) (gB_135 pc e h) h
theorem gB_136 (pc : Nat) (e : gE) (h : gT_136 pc = some e) : pc < 54 := by
  unfold gT_136 at h
  cases hb : Nat.ble pc 53 with
  | true => exact Nat.lt_succ_of_le (Nat.le_of_ble_eq_true hb)
  | false => rw [hb] at h; exact absurd h (by simp)
theorem gO_136 : ∀ pc e, gF 136 pc = some e → gChk 136 pc e = true := fun pc e h => gLeaf (M := 54) (by decide +kernel) (by decide +kernel) (gB_136 pc e h) h
theorem gB_137 (pc : Nat) (e : gE) (h : gT_137 pc = some e) : pc < 42 := by
  unfold gT_137 at h
  cases hb : Nat.ble pc 41 with
  | true => exact Nat.lt_succ_of_le (Nat.le_of_ble_eq_true hb)
  | false => rw [hb] at h; exact absurd h (by simp)
theorem gO_137 : ∀ pc e, gF 137 pc = some e → gChk 137 pc e = true := fun pc e h => gLeaf (M := 42) (by decide +kernel) (by decide +kernel) (gB_137 pc e h) h
theorem gB_138 (pc : Nat) (e : gE) (h : gT_138 pc = some e) : pc < 42 := by
  unfold gT_138 at h
  cases hb : Nat.ble pc 41 with
  | true => exact Nat.lt_succ_of_le (Nat.le_of_ble_eq_true hb)
  | false => rw [hb] at h; exact absurd h (by simp)
theorem gO_138 : ∀ pc e, gF 138 pc = some e → gChk 138 pc e = true := fun pc e h => gLeaf (M := 42) (by decide +kernel) (by decide +kernel) (gB_138 pc e h) h
theorem gB_139 (pc : Nat) (e : gE) (h : gT_139 pc = some e) : pc < 35 := by
  unfold gT_139 at h
  cases hb : Nat.ble pc 34 with
  | true => exact Nat.lt_succ_of_le (Nat.le_of_ble_eq_true hb)
  | false => rw [hb] at h; exact absurd h (by simp)
theorem gO_139 : ∀ pc e, gF 139 pc = some e → gChk 139 pc e = true := fun pc e h => gLeaf (M := 35) (by decide +kernel) (by decide +kernel) (gB_139 pc e h) h
theorem gB_140 (pc : Nat) (e : gE) (h : gT_140 pc = some e) : pc < 116 := by
  unfold gT_140 at h
  cases hb : Nat.ble pc 115 with
  | true => exact Nat.lt_succ_of_le (Nat.le_of_ble_eq_true hb)
  | false => rw [hb] at h; exact absurd h (by simp)
theorem gO_140 : ∀ pc e, gF 140 pc = some e → gChk 140 pc e = true := fun pc e h => gLeaf (M := 116) (by decide +kernel) (by decide +kernel) (gB_140 pc e h) h
theorem gB_141 (pc : Nat) (e : gE) (h : gT_141 pc = some e) : pc < 73 := by
  unfold gT_141 at h
  cases hb : Nat.ble pc 72 with
  | true => exact Nat.lt_succ_of_le (Nat.le_of_ble_eq_true hb)
  | false => rw [hb] at h; exact absurd h (by simp)
theorem gO_141 : ∀ pc e, gF 141 pc = some e → gChk 141 pc e = true := fun pc e h => gLeaf (M := 73) (by decide +kernel) (by decide +kernel) (gB_141 pc e h) h
