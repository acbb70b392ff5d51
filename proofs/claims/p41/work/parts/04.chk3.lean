theorem gB_142 (pc : Nat) (e : gE) (h : gT_142 pc = some e) : pc < 78 := by
  unfold gT_142 at h
  cases hb : Nat.ble pc 77 with
  | true => exact Nat.lt_succ_of_le (Nat.le_of_ble_eq_true hb)
  | false => rw [hb] at h; exact absurd h (by simp)
theorem gO_142 : ∀ pc e, gF 142 pc = some e → gChk 142 pc e = true := fun pc e h => gLeaf (M := 78) (by decide +kernel) (by decide +kernel) (gB_142 pc e h) h
theorem gB_143 (pc : Nat) (e : gE) (h : gT_143 pc = some e) : pc < 16 := by
  unfold gT_143 at h
  cases hb : Nat.ble pc 15 with
  | true => exact Nat.lt_succ_of_le (Nat.le_of_ble_eq_true hb)
  | false => rw [hb] at h; exact absurd h (by simp)
theorem gO_143 : ∀ pc e, gF 143 pc = some e → gChk 143 pc e = true := fun pc e h => gLeaf (M := 16) (by decide +kernel) (by decide +kernel) (gB_143 pc e h) h
theorem gB_144 (pc : Nat) (e : gE) (h : gT_144 pc = some e) : pc < 17 := by
  unfold gT_144 at h
  cases hb : Nat.ble pc 16 with
  | true => exact Nat.lt_succ_of_le (Nat.le_of_ble_eq_true hb)
  | false => rw [hb] at h; exact absurd h (by simp)
theorem gO_144 : ∀ pc e, gF 144 pc = some e → gChk 144 pc e = true := fun pc e h => gLeaf (M := 17) (by decide +kernel) (by decide +kernel) (gB_144 pc e h) h
theorem gB_145 (pc : Nat) (e : gE) (h : gT_145 pc = some e) : pc < 17 := by
  unfold gT_145 at h
  cases hb : Nat.ble pc 16 with
  | true => exact Nat.lt_succ_of_le (Nat.le_of_ble_eq_true hb)
  | false => rw [hb] at h; exact absurd h (by simp)
theorem gO_145 : ∀ pc e, gF 145 pc = some e → gChk 145 pc e = true := fun pc e h => gLeaf (M := 17) (by decide +kernel) (by decide +kernel) (gB_145 pc e h) h
theorem gB_146 (pc : Nat) (e : gE) (h : gT_146 pc = some e) : pc < 15 := by
  unfold gT_146 at h
  cases hb : Nat.ble pc 14 with
  | true => exact Nat.lt_succ_of_le (Nat.le_of_ble_eq_true hb)
  | false => rw [hb] at h; exact absurd h (by simp)
theorem gO_146 : ∀ pc e, gF 146 pc = some e → gChk 146 pc e = true := fun pc e h => gLeaf (M := 15) (by decide +kernel) (by decide +kernel) (gB_146 pc e h) h
theorem gB_147 (pc : Nat) (e : gE) (h : gT_147 pc = some e) : pc < 370 := by
  unfold gT_147 at h
  cases hb : Nat.ble pc 369 with
  | true => exact Nat.lt_succ_of_le (Nat.le_of_ble_eq_true hb)
  | false => rw [hb] at h; exact absurd h (by simp)
theorem gO_147 : ∀ pc e, gF 147 pc = some e → gChk 147 pc e = true := fun pc e h => gLeaf (M := 370) (by decide +kernel) (by decide +kernel) (gB_147 pc e h) h
theorem gB_148 (pc : Nat) (e : gE) (h : gT_148 pc = some e) : pc < 16 := by
  unfold gT_148 at h
  cases hb : Nat.ble pc 15 with
  | true => exact Nat.lt_succ_of_le (Nat.le_of_ble_eq_true hb)
  | false => rw [hb] at h; exact absurd h (by simp)
theorem gO_148 : ∀ pc e, gF 148 pc = some e → gChk 148 pc e = true := fun pc e h => gLeaf (M := 16) (by decide +kernel) (by decide +kernel) (gB_148 pc e h) h
theorem gB_149 (pc : Nat) (e : gE) (h : gT_149 pc = some e) : pc < 15 := by
  unfold gT_149 at h
  cases hb : Nat.ble pc 14 with
  | true => exact Nat.lt_succ_of_le (Nat.le_of_ble_eq_true hb)
  | false => rw [hb] at h; exact absurd h (by simp)
theorem gO_149 : ∀ pc e, gF 149 pc = some e → gChk 149 pc e = true := fun pc e h => gLeaf (M := 15) (by decide +kernel) (by decide +kernel) (gB_149 pc e h) h
theorem gB_150 (pc : Nat) (e : gE) (h : gT_150 pc = some e) : pc < 22 := by
  unfold gT_150 at h
  cases hb : Nat.ble pc 21 with
  | true => exact Nat.lt_succ_of_le (Nat.le_of_ble_eq_true hb)
  | false => rw [hb] at h; exact absurd h (by simp)
theorem gO_150 : ∀ pc e, gF 150 pc = some e → gChk 150 pc e = true := fun pc e h => gLeaf (M := 22) (by decide +kernel) (by decide +kernel) (gB_150 pc e h) h
theorem gB_151 (pc : Nat) (e : gE) (h : gT_151 pc = some e) : pc < 12 := by
  unfold gT_151 at h
  cases hb : Nat.ble pc 11 with
  | true => exact Nat.lt_succ_of_le (Nat.le_of_ble_eq_true hb)
  | false => rw [hb] at h; exact absurd h (by simp)
theorem gO_151 : ∀ pc e, gF 151 pc = some e → gChk 151 pc e = true := fun pc e h => gLeaf (M := 12) (by decide +kernel) (by decide +kernel) (gB_151 pc e h) h
theorem gB_152 (pc : Nat) (e : gE) (h : gT_152 pc = some e) : pc < 87 := by
  unfold gT_152 at h
  cases hb : Nat.ble pc 86 with
  | true => exact Nat.lt_succ_of_le (Nat.le_of_ble_eq_true hb)
  | false => rw [hb] at h; exact absurd h (by simp)
theorem gO_152 : ∀ pc e, gF 152 pc = some e → gChk 152 pc e = true := fun pc e h => gLeaf (M := 87) (by decide +kernel) (by decide +kernel) (gB_152 pc e h) h
theorem gB_153 (pc : Nat) (e : gE) (h : gT_153 pc = some e) : pc < 51 := by
  unfold gT_153 at h
  cases hb : Nat.ble pc 50 with
  | true => exact Nat.lt_succ_of_le (Nat.le_of_ble_eq_true hb)
  | false => rw [hb] at h; exact absurd h (by simp)
theorem gO_153 : ∀ pc e, gF 153 pc = some e → gChk 153 pc e = true := fun pc e h => gLeaf (M := 51) (by decide +kernel) (by decide +kernel) (gB_153 pc e h) h
theorem gB_154 (pc : Nat) (e : gE) (h : gT_154 pc = some e) : pc < 219 := by
  unfold gT_154 at h
  cases hb : Nat.ble pc 218 with
  | true => exact Nat.lt_succ_of_le (Nat.le_of_ble_eq_true hb)
  | false => rw [hb] at h; exact absurd h (by simp)
theorem gO_154 : ∀ pc e, gF 154 pc = some e → gChk 154 pc e = true := fun pc e h => gLeaf (M := 219) (by decide +kernel) (by decide +kernel) (gB_154 pc e h) h
theorem gB_155 (pc : Nat) (e : gE) (h : gT_155 pc = some e) : pc < 80 := by
  unfold gT_155 at h
  cases hb : Nat.ble pc 79 with
  | true => exact Nat.lt_succ_of_le (Nat.le_of_ble_eq_true hb)
  | false => rw [hb] at h; exact absurd h (by simp)
theorem gO_155 : ∀ pc e, gF 155 pc = some e → gChk 155 pc e = true := fun pc e h => gLeaf (M := 80) (by decide +kernel) (by decide +kernel) (gB_155 pc e h) h
theorem gB_156 (pc : Nat) (e : gE) (h : gT_156 pc = some e) : pc < 96 := by
  unfold gT_156 at h
  cases hb : Nat.ble pc 95 with
  | true => exact Nat.lt_succ_of_le (Nat.le_of_ble_eq_true hb)
  | false => rw [hb] at h; exact absurd h (by simp)
theorem gO_156 : ∀ pc e, gF 156 pc = some e → gChk 156 pc e = true := fun pc e h => gLeaf (M := 96) (by decide +kernel) (by decide +kernel) (gB_156 pc e h) h
theorem gB_157 (pc : Nat) (e : gE) (h : gT_157 pc = some e) : pc < 182 := by
  unfold gT_157 at h
  cases hb : Nat.ble pc 181 with
  | true => exact Nat.lt_succ_of_le (Nat.le_of_ble_eq_true hb)
  | false => rw [hb] at h; exact absurd h (by simp)
theorem gO_157 : ∀ pc e, gF 157 pc = some e → gChk 157 pc e = true := fun pc e h => gLeaf (M := 182) (by decide +kernel) (by decide +kernel) (gB_157 pc e h) h
theorem gB_158 (pc : Nat) (e : gE) (h : gT_158 pc = some e) : pc < 66 := by
  unfold gT_158 at h
  cases hb : Nat.ble pc 65 with
  | true => exact Nat.lt_succ_of_le (Nat.le_of_ble_eq_true hb)
  | false => rw [hb] at h; exact absurd h (by simp)
theorem gO_158 : ∀ pc e, gF 158 pc = some e → gChk 158 pc e = true := fun pc e h => gLeaf (M := 66) (by decide +kernel) (by decide +kernel) (gB_158 pc e h) h
theorem gB_159 (pc : Nat) (e : gE) (h : gT_159 pc = some e) : pc < 66 := by
  unfold gT_159 at h
  cases hb : Nat.ble pc 65 with
  | true => exact Nat.lt_succ_of_le (Nat.le_of_ble_eq_true hb)
  | false => rw [hb] at h; exact absurd h (by simp)
theorem gO_159 : ∀ pc e, gF 159 pc = some e → gChk 159 pc e = true := fun pc e h => gLeaf (M := 66) (by decide +kernel) (by decide +kernel) (gB_159 pc e h) h
theorem gB_160 (pc : Nat) (e : gE) (h : gT_160 pc = some e) : pc < 37 := by
  unfold gT_160 at h
  cases hb : Nat.ble pc 36 with
  | true => exact Nat.lt_succ_of_le (Nat.le_of_ble_eq_true hb)
  | false => rw [hb] at h; exact absurd h (by simp)
theorem gO_160 : ∀ pc e, gF 160 pc = some e → gChk 160 pc e = true := fun pc e h => gLeaf (M := 37) (by decide +kernel) (by decide +kernel) (gB_160 pc e h) h
theorem gB_161 (pc : Nat) (e : gE) (h : gT_161 pc = some e) : pc < 152 := by
  unfold gT_161 at h
  cases hb : Nat.ble pc 151 with
  | true => exact Nat.lt_succ_of_le (Nat.le_of_ble_eq_true hb)
  | false => rw [hb] at h; exact absurd h (by simp)
theorem gO_161 : ∀ pc e, gF 161 pc = some e → gChk 161 pc e = true := fun pc e h => gLeaf (M := 152) (by decide +kernel) (by decide +kernel) (gB_161 pc e h) h
theorem gB_162 (pc : Nat) (e : gE) (h : gT_162 pc = some e) : pc < 29 := by
  unfold gT_162 at h
  cases hb : Nat.ble pc 28 with
  | true => exact Nat.lt_succ_of_le (Nat.le_of_ble_eq_true hb)
  | false => rw [hb] at h; exact absurd h (by simp)
theorem gO_162 : ∀ pc e, gF 162 pc = some e → gChk 162 pc e = true := fun pc e h => gLeaf (M := 29) (by decide +kernel) (by decide +kernel) (gB_162 pc e h) h
theorem gB_163 (pc : Nat) (e : gE) (h : gT_163 pc = some e) : pc < 65 := by
  unfold gT_163 at h
  cases hb : Nat.ble pc 64 with
  | true => exact Nat.lt_succ_of_le (Nat.le_of_ble_eq_true hb)
  | false => rw [hb] at h; exact absurd h (by simp)
theorem gO_163 : ∀ pc e, gF 163 pc = some e → gChk 163 pc e = true := fun pc e h => gLeaf (M := 65) (by decide +kernel) (by decide +kernel) (gB_163 pc e h) h
theorem gB_164 (pc : Nat) (e : gE) (h : gT_164 pc = some e) : pc < 51 := by
  unfold gT_164 at h
  cases hb : Nat.ble pc 50 with
  | true => exact Nat.lt_succ_of_le (Nat.le_of_ble_eq_true hb)
  | false => rw [hb] at h; exact absurd h (by simp)
theorem gO_164 : ∀ pc e, gF 164 pc = some e → gChk 164 pc e = true := fun pc e h => gLeaf (M := 51) (by decide +kernel) (by decide +kernel) (gB_164 pc e h) h
theorem gB_165 (pc : Nat) (e : gE) (h : gT_165 pc = some e) : pc < 25 := by
  unfold gT_165 at h
  cases hb : Nat.ble pc 24 with
  | true => exact Nat.lt_succ_of_le (Nat.le_of_ble_eq_true hb)
  | false => rw [hb] at h; exact absurd h (by simp)
theorem gO_165 : ∀ pc e, gF 165 pc = some e → gChk 165 pc e = true := fun pc e h => gLeaf (M := 25) (by decide +kernel) (by decide +kernel) (gB_165 pc e h) h
theorem gB_166 (pc : Nat) (e : gE) (h : gT_166 pc = some e) : pc < 16 := by
  unfold gT_166 at h
  cases hb : Nat.ble pc 15 with
  | true => exact Nat.lt_succ_of_le (Nat.le_of_ble_eq_true hb)
  | false => rw [hb] at h; exact absurd h (by simp)
theorem gO_166 : ∀ pc e, gF 166 pc = some e → gChk 166 pc e = true := fun pc e h => gLeaf (M := 16) (by decide +kernel) (by decide +kernel) (gB_166 pc e h) h
theorem gB_167 (pc : Nat) (e : gE) (h : gT_167 pc = some e) : pc < 40 := by
  unfold gT_167 at h
  cases hb : Nat.ble pc 39 with
  | true => exact Nat.lt_succ_of_le (Nat.le_of_ble_eq_true hb)
  | false => rw [hb] at h; exact absurd h (by simp)
theorem gO_167 : ∀ pc e, gF 167 pc = some e → gChk 167 pc e = true := fun pc e h => gLeaf (M := 40) (by decide +kernel) (by decide +kernel) (gB_167 pc e h) h
theorem gB_168 (pc : Nat) (e : gE) (h : gT_168 pc = some e) : pc < 86 := by
  unfold gT_168 at h
  cases hb : Nat.ble pc 85 with
  | true => exact Nat.lt_succ_of_le (Nat.le_of_ble_eq_true hb)
  | false => rw [hb] at h; exact absurd h (by simp)
theorem gO_168 : ∀ pc e, gF 168 pc = some e → gChk 168 pc e = true := fun pc e h => gLeaf (M := 86) (by decide +kernel) (by decide +kernel) (gB_168 pc e h) h
theorem gB_169 (pc : Nat) (e : gE) (h : gT_169 pc = some e) : pc < 37 := by
  unfold gT_169 at h
  cases hb : Nat.ble pc 36 with
  | true => exact Nat.lt_succ_of_le (Nat.le_of_ble_eq_true hb)
  | false => rw [hb] at h; exact absurd h (by simp)
theorem gO_169 : ∀ pc e, gF 169 pc = some e → gChk 169 pc e = true := fun pc e h => gLeaf (M := 37) (by decide +kernel) (by decide +kernel) (gB_169 pc e h) h
theorem gB_170 (pc : Nat) (e : gE) (h : gT_170 pc = some e) : pc < 81 := by
  unfold gT_170 at h
  cases hb : Nat.ble pc 80 with
  | true => exact Nat.lt_succ_of_le (Nat.le_of_ble_eq_true hb)
  | false => rw [hb] at h; exact absurd h (by simp)
theorem gO_170 : ∀ pc e, gF 170 pc = some e → gChk 170 pc e = true := fun pc e h => gLeaf (M := 81) (by decide +kernel) (by decide +kernel) (gB_170 pc e h) h
theorem gB_171 (pc : Nat) (e : gE) (h : gT_171 pc = some e) : pc < 155 := by
  unfold gT_171 at h
  cases hb : Nat.ble pc 154 with
  | true => exact Nat.lt_succ_of_le (Nat.le_of_ble_eq_true hb)
  | false => rw [hb] at h; exact absurd h (by simp)
theorem gO_171 : ∀ pc e, gF 171 pc = some e → gChk 171 pc e = true := fun pc e h => gLeaf (M := 155) (by decide +kernel) (by decide +kernel) (gB_171 pc e h) h
theorem gB_172 (pc : Nat) (e : gE) (h : gT_172 pc = some e) : pc < 67 := by
  unfold gT_172 at h
  cases hb : Nat.ble pc 66 with
  | true => exact Nat.lt_succ_of_le (Nat.le_of_ble_eq_true hb)
  | false => rw [hb] at h; exact absurd h (by simp)
theorem gO_172 : ∀ pc e, gF 172 pc = some e → gChk 172 pc e = true := fun pc e h => gLeaf (M := 67) (by decide +kernel) (by decide +kernel) (gB_172 pc e h) h
theorem gB_173 (pc : Nat) (e : gE) (h : gT_173 pc = some e) : pc < 58 := by
  unfold gT_173 at h
  cases hb : Nat.ble pc 57 with
  | true => exact Nat.lt_succ_of_le (Nat.le_of_ble_eq_true hb)
  | false => rw [hb] at h; exact absurd h (by simp)
theorem gO_173 : ∀ pc e, gF 173 pc = some e → gChk 173 pc e = true := fun pc e h => gLeaf (M := 58) (by decide +kernel) (by decide +kernel) (gB_173 pc e h) h
theorem gB_174 (pc : Nat) (e : gE) (h : gT_174 pc = some e) : pc < 56 := by
  unfold gT_174 at h
  cases hb : Nat.ble pc 55 with
  | true => exact Nat.lt_succ_of_le (Nat.le_of_ble_eq_true hb)
  | false => rw [hb] at h; exact absurd h (by simp)
theorem gO_174 : ∀ pc e, gF 174 pc = some e → gChk 174 pc e = true := fun pc e h => gLeaf (M := 56) (by decide +kernel) (by decide +kernel) (gB_174 pc e h) h
theorem gB_175 (pc : Nat) (e : gE) (h : gT_175 pc = some e) : pc < 45 := by
  unfold gT_175 at h
  cases hb : Nat.ble pc 44 with
  | true => exact Nat.lt_succ_of_le (Nat.le_of_ble_eq_true hb)
  | false => rw [hb] at h; exact absurd h (by simp)
theorem gO_175 : ∀ pc e, gF 175 pc = some e → gChk 175 pc e = true := fun pc e h => gLeaf (M := 45) (by decide +kernel) (by decide +kernel) (gB_175 pc e h) h
theorem gB_176 (pc : Nat) (e : gE) (h : gT_176 pc = some e) : pc < 45 := by
  unfold gT_176 at h
  cases hb : Nat.ble pc 44 with
  | true => exact Nat.lt_succ_of_le (Nat.le_of_ble_eq_true hb)
  | false => rw [hb] at h; exact absurd h (by simp)
theorem gO_176 : ∀ pc e, gF 176 pc = some e → gChk 176 pc e = true := fun pc e h => gLeaf (M := 45) (by decide +kernel) (by decide +kernel) (gB_176 pc e h) h
theorem gB_177 (pc : Nat) (e : gE) (h : gT_177 pc = some e) : pc < 88 := by
  unfold gT_177 at h
  cases hb : Nat.ble pc 87 with
  | true => exact Nat.lt_succ_of_le (Nat.le_of_ble_eq_true hb)
  | false => rw [hb] at h; exact absurd h (by simp)
theorem gO_177 : ∀ pc e, gF 177 pc = some e → gChk 177 pc e = true := fun pc e h => gLeaf (M := 88) (by decide +kernel) (by decide +kernel) (gB_177 pc e h) h
theorem gB_178 (pc : Nat) (e : gE) (h : gT_178 pc = some e) : pc < 235 := by
  unfold gT_178 at h
  cases hb : Nat.ble pc 234 with
  | true => exact Nat.lt_succ_of_le (Nat.le_of_ble_eq_true hb)
  | false => rw [hb] at h; exact absurd h (by simp)
theorem gO_178 : ∀ pc e, gF 178 pc = some e → gChk 178 pc e = true := fun pc e h => gLeaf (M := 235) (by decide +kernel) (by decide +kernel) (gB_178 pc e h) h
