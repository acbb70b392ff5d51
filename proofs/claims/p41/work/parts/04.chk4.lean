theorem gB_179 (pc : Nat) (e : gE) (h : gT_179 pc = some e) : pc < 232 := by
  unfold gT_179 at h
  cases hb : Nat.ble pc 231 with
  | true => exact Nat.lt_succ_of_le (Nat.le_of_ble_eq_true hb)
  | false => rw [hb] at h; exact absurd h (by simp)
theorem gO_179 : ∀ pc e, gF 179 pc = some e → gChk 179 pc e = true := fun pc e h => gLeaf (M := 232) (by decide +kernel) (by decide +kernel) (gB_179 pc e h) h
theorem gB_180 (pc : Nat) (e : gE) (h : gT_180 pc = some e) : pc < 195 := by
  unfold gT_180 at h
  cases hb : Nat.ble pc 194 with
  | true => exact Nat.lt_succ_of_le (Nat.le_of_ble_eq_true hb)
  | false => rw [hb] at h; exact absurd h (by simp)
theorem gO_180 : ∀ pc e, gF 180 pc = some e → gChk 180 pc e = true := fun pc e h => gLeaf (M := 195) (by decide +kernel) (by decide +kernel) (gB_180 pc e h) h
theorem gB_181 (pc : Nat) (e : gE) (h : gT_181 pc = some e) : pc < 80 := by
  unfold gT_181 at h
  cases hb : Nat.ble pc 79 with
  | true => exact Nat.lt_succ_of_le (Nat.le_of_ble_eq_true hb)
  | false => rw [hb] at h; exact absurd h (by simp)
theorem gO_181 : ∀ pc e, gF 181 pc = some e → gChk 181 pc e = true := fun pc e h => gLeaf (M := 80) (by decide +kernel) (by decide +kernel) (gB_181 pc e h) h
theorem gB_182 (pc : Nat) (e : gE) (h : gT_182 pc = some e) : pc < 22 := by
  unfold gT_182 at h
  cases hb : Nat.ble pc 21 with
  | true => exact Nat.lt_succ_of_le (Nat.le_of_ble_eq_true hb)
  | false => rw [hb] at h; exact absurd h (by simp)
theorem gO_182 : ∀ pc e, gF 182 pc = some e → gChk 182 pc e = true := fun pc e h => gLeaf (M := 22) (by decide +kernel) (by decide +kernel) (gB_182 pc e h) h
theorem gB_183 (pc : Nat) (e : gE) (h : gT_183 pc = some e) : pc < 152 := by
  unfold gT_183 at h
  cases hb : Nat.ble pc 151 with
  | true => exact Nat.lt_succ_of_le (Nat.le_of_ble_eq_true hb)
  | false => rw [hb] at h; exact absurd h (by simp)
theorem gO_183 : ∀ pc e, gF 183 pc = some e → gChk 183 pc e = true := fun pc e h => gLeaf (M := 152) (by decide +kernel) (by decide +kernel) (gB_183 pc e h) h
theorem gB_184 (pc : Nat) (e : gE) (h : gT_184 pc = some e) : pc < 38 := by
  unfold gT_184 at h
  cases hb : Nat.ble pc 37 with
  | true => exact Nat.lt_succ_of_le (Nat.le_of_ble_eq_true hb)
  | false => rw [hb] at h; exact absurd h (by simp)
theorem gO_184 : ∀ pc e, gF 184 pc = some e → gChk 184 pc e = true := fun pc e h => gLeaf (M := 38) (by decide +kernel) (by decide +kernel) (gB_184 pc e h) h
theorem gB_185 (pc : Nat) (e : gE) (h : gT_185 pc = some e) : pc < 34 := by
  unfold gT_185 at h
  cases hb : Nat.ble pc 33 with
  | true => exact Nat.lt_succ_of_le (Nat.le_of_ble_eq_true hb)
  | false => rw [hb] at h; exact absurd h (by simp)
theorem gO_185 : ∀ pc e, gF 185 pc = some e → gChk 185 pc e = true := fun pc e h => gLeaf (M := 34) (by decide +kernel) (by decide +kernel) (gB_185 pc e h) h
theorem gB_186 (pc : Nat) (e : gE) (h : gT_186 pc = some e) : pc < 15 := by
  unfold gT_186 at h
  cases hb : Nat.ble pc 14 with
  | true => exact Nat.lt_succ_of_le (Nat.le_of_ble_eq_true hb)
  | false => rw [hb] at h; exact absurd h (by simp)
theorem gO_186 : ∀ pc e, gF 186 pc = some e → gChk 186 pc e = true := fun pc e h => gLeaf (M := 15) (by decide +kernel) (by decide +kernel) (gB_186 pc e h) h
theorem gB_187 (pc : Nat) (e : gE) (h : gT_187 pc = some e) : pc < 74 := by
  unfold gT_187 at h
  cases hb : Nat.ble pc 73 with
  | true => exact Nat.lt_succ_of_le (Nat.le_of_ble_eq_true hb)
  | false => rw [hb] at h; exact absurd h (by simp)
theorem gO_187 : ∀ pc e, gF 187 pc = some e → gChk 187 pc e = true := fun pc e h => gLeaf (M := 74) (by decide +kernel) (by decide +kernel) (gB_187 pc e h) h
theorem gB_188 (pc : Nat) (e : gE) (h : gT_188 pc = some e) : pc < 66 := by
  unfold gT_188 at h
  cases hb : Nat.ble pc 65 with
  | true => exact Nat.lt_succ_of_le (Nat.le_of_ble_eq_true hb)
  | false => rw [hb] at h; exact absurd h (by simp)
theorem gO_188 : ∀ pc e, gF 188 pc = some e → gChk 188 pc e = true := fun pc e h => gLeaf (M := 66) (by decide +kernel) (by decide +kernel) (gB_188 pc e h) h
theorem gB_189 (pc : Nat) (e : gE) (h : gT_189 pc = some e) : pc < 56 := by
  unfold gT_189 at h
  cases hb : Nat.ble pc 55 with
  | true => exact Nat.lt_succ_of_le (Nat.le_of_ble_eq_true hb)
  | false => rw [hb] at h; exact absurd h (by simp)
theorem gO_189 : ∀ pc e, gF 189 pc = some e → gChk 189 pc e = true := fun pc e h => gLeaf (M := 56) (by decide +kernel) (by decide +kernel) (gB_189 pc e h) h
theorem gB_190 (pc : Nat) (e : gE) (h : gT_190 pc = some e) : pc < 24 := by
  unfold gT_190 at h
  cases hb : Nat.ble pc 23 with
  | true => exact Nat.lt_succ_of_le (Nat.le_of_ble_eq_true hb)
  | false => rw [hb] at h; exact absurd h (by simp)
theorem gO_190 : ∀ pc e, gF 190 pc = some e → gChk 190 pc e = true := fun pc e h => gLeaf (M := 24) (by decide +kernel) (by decide +kernel) (gB_190 pc e h) h
theorem gB_191 (pc : Nat) (e : gE) (h : gT_191 pc = some e) : pc < 87 := by
  unfold gT_191 at h
  cases hb : Nat.ble pc 86 with
  | true => exact Nat.lt_succ_of_le (Nat.le_of_ble_eq_true hb)
  | false => rw [hb] at h; exact absurd h (by simp)
theorem gO_191 : ∀ pc e, gF 191 pc = some e → gChk 191 pc e = true := fun pc e h => gLeaf (M := 87) (by decide +kernel) (by decide +kernel) (gB_191 pc e h) h
theorem gB_192 (pc : Nat) (e : gE) (h : gT_192 pc = some e) : pc < 33 := by
  unfold gT_192 at h
  cases hb : Nat.ble pc 32 with
  | true => exact Nat.lt_succ_of_le (Nat.le_of_ble_eq_true hb)
  | false => rw [hb] at h; exact absurd h (by simp)
theorem gO_192 : ∀ pc e, gF 192 pc = some e → gChk 192 pc e = true := fun pc e h => gLeaf (M := 33) (by decide +kernel) (by decide +kernel) (gB_192 pc e h) h
theorem gB_193 (pc : Nat) (e : gE) (h : gT_193 pc = some e) : pc < 13 := by
  unfold gT_193 at h
  cases hb : Nat.ble pc 12 with
  | true => exact Nat.lt_succ_of_le (Nat.le_of_ble_eq_true hb)
  | false => rw [hb] at h; exact absurd h (by simp)
theorem gO_193 : ∀ pc e, gF 193 pc = some e → gChk 193 pc e = true := fun pc e h => gLeaf (M := 13) (by decide +kernel) (by decide +kernel) (gB_193 pc e h) h
theorem gB_194 (pc : Nat) (e : gE) (h : gT_194 pc = some e) : pc < 72 := by
  unfold gT_194 at h
  cases hb : Nat.ble pc 71 with
  | true => exact Nat.lt_succ_of_le (Nat.le_of_ble_eq_true hb)
  | false => rw [hb] at h; exact absurd h (by simp)
theorem gO_194 : ∀ pc e, gF 194 pc = some e → gChk 194 pc e = true := fun pc e h => gLeaf (M := 72) (by decide +kernel) (by decide +kernel) (gB_194 pc e h) h
theorem gB_195 (pc : Nat) (e : gE) (h : gT_195 pc = some e) : pc < 67 := by
  unfold gT_195 at h
  cases hb : Nat.ble pc 66 with
  | true => exact Nat.lt_succ_of_le (Nat.le_of_ble_eq_true hb)
  | false => rw [hb] at h; exact absurd h (by simp)
theorem gO_195 : ∀ pc e, gF 195 pc = some e → gChk 195 pc e = true := fun pc e h => gLeaf (M := 67) (by decide +kernel) (by decide +kernel) (gB_195 pc e h) h
theorem gB_196 (pc : Nat) (e : gE) (h : gT_196 pc = some e) : pc < 88 := by
  unfold gT_196 at h
  cases hb : Nat.ble pc 87 with
  | true => exact Nat.lt_succ_of_le (Nat.le_of_ble_eq_true hb)
  | false => rw [hb] at h; exact absurd h (by simp)
theorem gO_196 : ∀ pc e, gF 196 pc = some e → gChk 196 pc e = true := fun pc e h => gLeaf (M := 88) (by decide +kernel) (by decide +kernel) (gB_196 pc e h) h
theorem gB_197 (pc : Nat) (e : gE) (h : gT_197 pc = some e) : pc < 32 := by
  unfold gT_197 at h
  cases hb : Nat.ble pc 31 with
  | true => exact Nat.lt_succ_of_le (Nat.le_of_ble_eq_true hb)
  | false => rw [hb] at h; exact absurd h (by simp)
theorem gO_197 : ∀ pc e, gF 197 pc = some e → gChk 197 pc e = true := fun pc e h => gLeaf (M := 32) (by decide +kernel) (by decide +kernel) (gB_197 pc e h) h
theorem gB_198 (pc : Nat) (e : gE) (h : gT_198 pc = some e) : pc < 45 := by
  unfold gT_198 at h
  cases hb : Nat.ble pc 44 with
  | true => exact Nat.lt_succ_of_le (Nat.le_of_ble_eq_true hb)
  | false => rw [hb] at h; exact absurd h (by simp)
theorem gO_198 : ∀ pc e, gF 198 pc = some e → gChk 198 pc e = true := fun pc e h => gLeaf (M := 45) (by decide +kernel) (by decide +kernel) (gB_198 pc e h) h
theorem gB_199 (pc : Nat) (e : gE) (h : gT_199 pc = some e) : pc < 78 := by
  unfold gT_199 at h
  cases hb : Nat.ble pc 77 with
  | true => exact Nat.lt_succ_of_le (Nat.le_of_ble_eq_true hb)
  | false => rw [hb] at h; exact absurd h (by simp)
theorem gO_199 : ∀ pc e, gF 199 pc = some e → gChk 199 pc e = true := fun pc e h => gLeaf (M := 78) (by decide +kernel) (by decide +kernel) (gB_199 pc e h) h
theorem gB_200 (pc : Nat) (e : gE) (h : gT_200 pc = some e) : pc < 56 := by
  unfold gT_200 at h
  cases hb : Nat.ble pc 55 with
  | true => exact Nat.lt_succ_of_le (Nat.le_of_ble_eq_true hb)
  | false => rw [hb] at h; exact absurd h (by simp)
theorem gO_200 : ∀ pc e, gF 200 pc = some e → gChk 200 pc e = true := fun pc e h => gLeaf (M := 56) (by decide +kernel) (by decide +kernel) (gB_200 pc e h) h
theorem gB_201 (pc : Nat) (e : gE) (h : gT_201 pc = some e) : pc < 78 := by
  unfold gT_201 at h
  cases hb : Nat.ble pc 77 with
  | true => exact Nat.lt_succ_of_le (Nat.le_of_ble_eq_true hb)
  | false => rw [hb] at h; exact absurd h (by simp)
theorem gO_201 : ∀ pc e, gF 201 pc = some e → gChk 201 pc e = true := fun pc e h => gLeaf (M := 78) (by decide +kernel) (by decide +kernel) (gB_201 pc e h) h
theorem gB_202 (pc : Nat) (e : gE) (h : gT_202 pc = some e) : pc < 149 := by
  unfold gT_202 at h
  cases hb : Nat.ble pc 148 with
  | true => exact Nat.lt_succ_of_le (Nat.le_of_ble_eq_true hb)
  | false => rw [hb] at h; exact absurd h (by simp)
theorem gO_202 : ∀ pc e, gF 202 pc = some e → gChk 202 pc e = true := fun pc e h => gLeaf (M := 149) (by decide +kernel) (by decide +kernel) (gB_202 pc e h) h
theorem gB_203 (pc : Nat) (e : gE) (h : gT_203 pc = some e) : pc < 108 := by
  unfold gT_203 at h
  cases hb : Nat.ble pc 107 with
  | true => exact Nat.lt_succ_of_le (Nat.le_of_ble_eq_true hb)
  | false => rw [hb] at h; exact absurd h (by simp)
theorem gO_203 : ∀ pc e, gF 203 pc = some e → gChk 203 pc e = true := fun pc e h => gLeaf (M := 108) (by decide +kernel) (by decide +kernel) (gB_203 pc e h) h
theorem gB_204 (pc : Nat) (e : gE) (h : gT_204 pc = some e) : pc < 97 := by
  unfold gT_204 at h
  cases hb : Nat.ble pc 96 with
  | true => exact Nat.lt_succ_of_le (Nat.le_of_ble_eq_true hb)
  | false => rw [hb] at h; exact absurd h (by simp)
theorem gO_204 : ∀ pc e, gF 204 pc = some e → gChk 204 pc e = true := fun pc e h => gLeaf (M := 97) (by decide +kernel) (by decide +kernel) (gB_204 pc e h) h
theorem gB_205 (pc : Nat) (e : gE) (h : gT_205 pc = some e) : pc < 78 := by
  unfold gT_205 at h
  cases hb : Nat.ble pc 77 with
  | true => exact Nat.lt_succ_of_le (Nat.le_of_ble_eq_true hb)
  | false => rw [hb] at h; exact absurd h (by simp)
theorem gO_205 : ∀ pc e, gF 205 pc = some e → gChk 205 pc e = true := fun pc e h => gLeaf (M := 78) (by decide +kernel) (by decide +kernel) (gB_205 pc e h) h
theorem gB_206 (pc : Nat) (e : gE) (h : gT_206 pc = some e) : pc < 89 := by
  unfold gT_206 at h
  cases hb : Nat.ble pc 88 with
  | true => exact Nat.lt_succ_of_le (Nat.le_of_ble_eq_true hb)
  | false => rw [hb] at h; exact absurd h (by simp)
theorem gO_206 : ∀ pc e, gF 206 pc = some e → gChk 206 pc e = true := fun pc e h => gLeaf (M := 89) (by decide +kernel) (by decide +kernel) (gB_206 pc e h) h
theorem gB_207 (pc : Nat) (e : gE) (h : gT_207 pc = some e) : pc < 143 := by
  unfold gT_207 at h
  cases hb : Nat.ble pc 142 with
  | true => exact Nat.lt_succ_of_le (Nat.le_of_ble_eq_true hb)
  | false => rw [hb] at h; exact absurd h (by simp)
theorem gO_207 : ∀ pc e, gF 207 pc = some e → gChk 207 pc e = true := fun pc e h => gLeaf (M := 143) (by decide +kernel) (by decide +kernel) (gB_207 pc e h) h
theorem gB_208 (pc : Nat) (e : gE) (h : gT_208 pc = some e) : pc < 28 := by
  unfold gT_208 at h
  cases hb : Nat.ble pc 27 with
  | true => exact Nat.lt_succ_of_le (Nat.le_of_ble_eq_true hb)
  | false => rw [hb] at h; exact absurd h (by simp)
theorem gO_208 : ∀ pc e, gF 208 pc = some e → gChk 208 pc e = true := fun pc e h => gLeaf (M := 28) (by decide +kernel) (by decide +kernel) (gB_208 pc e h) h
theorem gB_209 (pc : Nat) (e : gE) (h : gT_209 pc = some e) : pc < 63 := by
  unfold gT_209 at h
  cases hb : Nat.ble pc 62 with
  | true => exact Nat.lt_succ_of_le (Nat.le_of_ble_eq_true hb)
  | false => rw [hb] at h; exact absurd h (by simp)
theorem gO_209 : ∀ pc e, gF 209 pc = some e → gChk 209 pc e = true := fun pc e h => gLeaf (M := 63) (by decide +kernel) (by decide +kernel) (gB_209 pc e h) h
theorem gB_210 (pc : Nat) (e : gE) (h : gT_210 pc = some e) : pc < 68 := by
  unfold gT_210 at h
  cases hb : Nat.ble pc 67 with
  | true => exact Nat.lt_succ_of_le (Nat.le_of_ble_eq_true hb)
  | false => rw [hb] at h; exact absurd h (by simp)
theorem gO_210 : ∀ pc e, gF 210 pc = some e → gChk 210 pc e = true := fun pc e h => gLeaf (M := 68) (by decide +kernel) (by decide +kernel) (gB_210 pc e h) h
theorem gB_211 (pc : Nat) (e : gE) (h : gT_211 pc = some e) : pc < 14 := by
  unfold gT_211 at h
  cases hb : Nat.ble pc 13 with
  | true => exact Nat.lt_succ_of_le (Nat.le_of_ble_eq_true hb)
  | false => rw [hb] at h; exact absurd h (by simp)
theorem gO_211 : ∀ pc e, gF 211 pc = some e → gChk 211 pc e = true := fun pc e h => gLeaf (M := 14) (by decide +kernel) (by decide +kernel) (gB_211 pc e h) h
theorem gB_212 (pc : Nat) (e : gE) (h : gT_212 pc = some e) : pc < 78 := by
  unfold gT_212 at h
  cases hb : Nat.ble pc 77 with
  | true => exact Nat.lt_succ_of_le (Nat.le_of_ble_eq_true hb)
  | false => rw [hb] at h; exact absurd h (by simp)
theorem gO_212 : ∀ pc e, gF 212 pc = some e → gChk 212 pc e = true := fun pc e h => gLeaf (M := 78) (by decide +kernel) (by decide +kernel) (gB_212 pc e h) h
