theorem gB_213 (pc : Nat) (e : gE) (h : gT_213 pc = some e) : pc < 140 := by
  unfold gT_213 at h
  cases hb : Nat.ble pc 139 with
  | true => exact Nat.lt_succ_of_le (Nat.le_of_ble_eq_true hb)
  | false => rw [hb] at h; exact absurd h (by simp)
theorem gO_213 : ∀ pc e, gF 213 pc = some e → gChk 213 pc e = true := fun pc e h => gLeaf (M := 140) (by decide +kernel) (by decide +kernel) (gB_213 pc e h) h
theorem gB_214 (pc : Nat) (e : gE) (h : gT_214 pc = some e) : pc < 53 := by
  unfold gT_214 at h
  cases hb : Nat.ble pc 52 with
  | true => exact Nat.lt_succ_of_le (Nat.le_of_ble_eq_true hb)
  | false => rw [hb] at h; exact absurd h (by simp)
theorem gO_214 : ∀ pc e, gF 214 pc = some e → gChk 214 pc e = true := fun pc e h => gLeaf (M := 53) (by decide +kernel) (by decide +kernel) (gB_214 pc e h) h
theorem gB_215 (pc : Nat) (e : gE) (h : gT_215 pc = some e) : pc < 77 := by
  unfold gT_215 at h
  cases hb : Nat.ble pc 76 with
  | true => exact Nat.lt_succ_of_le (Nat.le_of_ble_eq_true hb)
  | false => rw [hb] at h; exact absurd h (by simp)
theorem gO_215 : ∀ pc e, gF 215 pc = some e → gChk 215 pc e = true := fun pc e h => gLeaf (M := 77) (by decide +kernel) (by decide +kernel) (gB_215 pc e h) h
theorem gB_216 (pc : Nat) (e : gE) (h : gT_216 pc = some e) : pc < 138 := by
  unfold gT_216 at h
  cases hb : Nat.ble pc 137 with
  | true => exact Nat.lt_succ_of_le (Nat.le_of_ble_eq_true hb)
  | false => rw [hb] at h; exact absurd h (by simp)
theorem gO_216 : ∀ pc e, gF 216 pc = some e → gChk 216 pc e = true := fun pc e h => gLeaf (M := 138) (by decide +kernel) (by decide +kernel) (gB_216 pc e h) h
theorem gB_217 (pc : Nat) (e : gE) (h : gT_217 pc = some e) : pc < 89 := by
  unfold gT_217 at h
  cases hb : Nat.ble pc 88 with
  | true => exact Nat.lt_succ_of_le (Nat.le_of_ble_eq_true hb)
  | false => rw [hb] at h; exact absurd h (by simp)
theorem gO_217 : ∀ pc e, gF 217 pc = some e → gChk 217 pc e = true := fun pc e h => gLeaf (M := 89) (by decide +kernel) (by decide +kernel) (gB_217 pc e h) h
theorem gB_218 (pc : Nat) (e : gE) (h : gT_218 pc = some e) : pc < 93 := by
  unfold gT_218 at h
  cases hb : Nat.ble pc 92 with
  | true => exact Nat.lt_succ_of_le (Nat.le_of_ble_eq_true hb)
  | false => rw [hb] at h; exact absurd h (by simp)
theorem gO_218 : ∀ pc e, gF 218 pc = some e → gChk 218 pc e = true := fun pc e h => gLeaf (M := 93) (by decide +kernel) (by decide +kernel) (gB_218 pc e h) h
theorem gB_219 (pc : Nat) (e : gE) (h : gT_219 pc = some e) : pc < 41 := by
  unfold gT_219 at h
  cases hb : Nat.ble pc 40 with
  | true => exact Nat.lt_succ_of_le (Nat.le_of_ble_eq_true hb)
  | false => rw [hb] at h; exact absurd h (by simp)
theorem gO_219 : ∀ pc e, gF 219 pc = some e → gChk 219 pc e = true := fun pc e h => gLeaf (M := 41) (by decide +kernel) (by decide +kernel) (gB_219 pc e h) h
theorem gB_220 (pc : Nat) (e : gE) (h : gT_220 pc = some e) : pc < 149 := by
  unfold gT_220 at h
  cases hb : Nat.ble pc 148 with
  | true => exact Nat.lt_succ_of_le (Nat.le_of_ble_eq_true hb)
  | false => rw [hb] at h; exact absurd h (by simp)
theorem gO_220 : ∀ pc e, gF 220 pc = some e → gChk 220 pc e = true := fun pc e h => gLeaf (M := 149) (by decide +kernel) (by decide +kernel) (gB_220 pc e h) h
theorem gB_221 (pc : Nat) (e : gE) (h : gT_221 pc = some e) : pc < 164 := by
  unfold gT_221 at h
  cases hb : Nat.ble pc 163 with
  | true => exact Nat.lt_succ_of_le (Nat.le_of_ble_eq_true hb)
  | false => rw [hb] at h; exact absurd h (by simp)
theorem gO_221 : ∀ pc e, gF 221 pc = some e → gChk 221 pc e = true := fun pc e h => gLeaf (M := 164) (by decide +kernel) (by decide +kernel) (gB_221 pc e h) h
theorem gB_222 (pc : Nat) (e : gE) (h : gT_222 pc = some e) : pc < 57 := by
  unfold gT_222 at h
  cases hb : Nat.ble pc 56 with
  | true => exact Nat.lt_succ_of_le (Nat.le_of_ble_eq_true hb)
  | false => rw [hb] at h; exact absurd h (by simp)
theorem gO_222 : ∀ pc e, gF 222 pc = some e → gChk 222 pc e = true := fun pc e h => gLeaf (M := 57) (by decide +kernel) (by decide +kernel) (gB_222 pc e h) h
theorem gB_223 (pc : Nat) (e : gE) (h : gT_223 pc = some e) : pc < 67 := by
  unfold gT_223 at h
  cases hb : Nat.ble pc 66 with
  | true => exact Nat.lt_succ_of_le (Nat.le_of_ble_eq_true hb)
  | false => rw [hb] at h; exact absurd h (by simp)
theorem gO_223 : ∀ pc e, gF 223 pc = some e → gChk 223 pc e = true := fun pc e h => gLeaf (M := 67) (by decide +kernel) (by decide +kernel) (gB_223 pc e h) h
theorem gB_224 (pc : Nat) (e : gE) (h : gT_224 pc = some e) : pc < 138 := by
  unfold gT_224 at h
  cases hb : Nat.ble pc 137 with
  | true => exact Nat.lt_succ_of_le (Nat.le_of_ble_eq_true hb)
  | false => rw [hb] at h; exact absurd h (by simp)
theorem gO_224 : ∀ pc e, gF 224 pc = some e → gChk 224 pc e = true := fun pc e h => gLeaf (M := 138) (by decide +kernel) (by decide +kernel) (gB_224 pc e h) h
theorem gB_225 (pc : Nat) (e : gE) (h : gT_225 pc = some e) : pc < 62 := by
  unfold gT_225 at h
  cases hb : Nat.ble pc 61 with
  | true => exact Nat.lt_succ_of_le (Nat.le_of_ble_eq_true hb)
  | false => rw [hb] at h; exact absurd h (by simp)
theorem gO_225 : ∀ pc e, gF 225 pc = some e → gChk 225 pc e = true := fun pc e h => gLeaf (M := 62) (by decide +kernel) (by decide +kernel) (gB_225 pc e h) h
theorem gB_226 (pc : Nat) (e : gE) (h : gT_226 pc = some e) : pc < 73 := by
  unfold gT_226 at h
  cases hb : Nat.ble pc 72 with
  | true => exact Nat.lt_succ_of_le (Nat.le_of_ble_eq_true hb)
  | false => rw [hb] at h; exact absurd h (by simp)
theorem gO_226 : ∀ pc e, gF 226 pc = some e → gChk 226 pc e = true := fun pc e h => gLeaf (M := 73) (by decide +kernel) (by decide +kernel) (gB_226 pc e h) h
theorem gB_227 (pc : Nat) (e : gE) (h : gT_227 pc = some e) : pc < 53 := by
  unfold gT_227 at h
  cases hb : Nat.ble pc 52 with
  | true => exact Nat.lt_succ_of_le (Nat.le_of_ble_eq_true hb)
  | false => rw [hb] at h; exact absurd h (by simp)
theorem gO_227 : ∀ pc e, gF 227 pc = some e → gChk 227 pc e = true := fun pc e h => gLeaf (M := 53) (by decide +kernel) (by decide +kernel) (gB_227 pc e h) h
theorem gB_228 (pc : Nat) (e : gE) (h : gT_228 pc = some e) : pc < 99 := by
  unfold gT_228 at h
  cases hb : Nat.ble pc 98 with
  | true => exact Nat.lt_succ_of_le (Nat.le_of_ble_eq_true hb)
  | false => rw [hb] at h; exact absurd h (by simp)
theorem gO_228 : ∀ pc e, gF 228 pc = some e → gChk 228 pc e = true := fun pc e h => gLeaf (M := 99) (by decide +kernel) (by decide +kernel) (gB_228 pc e h) h
theorem gB_229 (pc : Nat) (e : gE) (h : gT_229 pc = some e) : pc < 120 := by
  unfold gT_229 at h
  cases hb : Nat.ble pc 119 with
  | true => exact Nat.lt_succ_of_le (Nat.le_of_ble_eq_true hb)
  | false => rw [hb] at h; exact absurd h (by simp)
theorem gO_229 : ∀ pc e, gF 229 pc = some e → gChk 229 pc e = true := fun pc e h => gLeaf (M := 120) (by decide +kernel) (by decide +kernel) (gB_229 pc e h) h
theorem gB_230 (pc : Nat) (e : gE) (h : gT_230 pc = some e) : pc < 12 := by
  unfold gT_230 at h
  cases hb : Nat.ble pc 11 with
  | true => exact Nat.lt_succ_of_le (Nat.le_of_ble_eq_true hb)
  | false => rw [hb] at h; exact absurd h (by simp)
theorem gO_230 : ∀ pc e, gF 230 pc = some e → gChk 230 pc e = true := fun pc e h => gLeaf (M := 12) (by decide +kernel) (by decide +kernel) (gB_230 pc e h) h
theorem gB_231 (pc : Nat) (e : gE) (h : gT_231 pc = some e) : pc < 30 := by
  unfold gT_231 at h
  cases hb : Nat.ble pc 29 with
  | true => exact Nat.lt_succ_of_le (Nat.le_of_ble_eq_true hb)
  | false => rw [hb] at h; exact absurd h (by simp)
theorem gO_231 : ∀ pc e, gF 231 pc = some e → gChk 231 pc e = true := fun pc e h => gLeaf (M := 30) (by decide +kernel) (by decide +kernel) (gB_231 pc e h) h
theorem gB_232 (pc : Nat) (e : gE) (h : gT_232 pc = some e) : pc < 29 := by
  unfold gT_232 at h
  cases hb : Nat.ble pc 28 with
  | true => exact Nat.lt_succ_of_le (Nat.le_of_ble_eq_true hb)
  | false => rw [hb] at h; exact absurd h (by simp)
theorem gO_232 : ∀ pc e, gF 232 pc = some e → gChk 232 pc e = true := fun pc e h => gLeaf (M := 29) (by decide +kernel) (by decide +kernel) (gB_232 pc e h) h
theorem gB_233 (pc : Nat) (e : gE) (h : gT_233 pc = some e) : pc < 51 := by
  unfold gT_233 at h
  cases hb : Nat.ble pc 50 with
  | true => exact Nat.lt_succ_of_le (Nat.le_of_ble_eq_true hb)
  | false => rw [hb] at h; exact absurd h (by simp)
theorem gO_233 : ∀ pc e, gF 233 pc = some e → gChk 233 pc e = true := fun pc e h => gLeaf (M := 51) (by decide +kernel) (by decide +kernel) (gB_233 pc e h) h
theorem gB_234 (pc : Nat) (e : gE) (h : gT_234 pc = some e) : pc < 62 := by
  unfold gT_234 at h
  cases hb : Nat.ble pc 61 with
  | true => exact Nat.lt_succ_of_le (Nat.le_of_ble_eq_true hb)
  | false => rw [hb] at h; exact absurd h (by simp)
theorem gO_234 : ∀ pc e, gF 234 pc = some e → gChk 234 pc e = true := fun pc e h => gLeaf (M := 62) (by decide +kernel) (by decide +kernel) (gB_234 pc e h) h
theorem gB_235 (pc : Nat) (e : gE) (h : gT_235 pc = some e) : pc < 9 := by
  unfold gT_235 at h
  cases hb : Nat.ble pc 8 with
  | true => exact Nat.lt_succ_of_le (Nat.le_of_ble_eq_true hb)
  | false => rw [hb] at h; exact absurd h (by simp)
theorem gO_235 : ∀ pc e, gF 235 pc = some e → gChk 235 pc e = true := fun pc e h => gLeaf (M := 9) (by decide +kernel) (by decide +kernel) (gB_235 pc e h) h
theorem gB_236 (pc : Nat) (e : gE) (h : gT_236 pc = some e) : pc < 15 := by
  unfold gT_236 at h
  cases hb : Nat.ble pc 14 with
  | true => exact Nat.lt_succ_of_le (Nat.le_of_ble_eq_true hb)
  | false => rw [hb] at h; exact absurd h (by simp)
theorem gO_236 : ∀ pc e, gF 236 pc = some e → gChk 236 pc e = true := fun pc e h => gLeaf (M := 15) (by decide +kernel) (by decide +kernel) (gB_236 pc e h) h
theorem gB_237 (pc : Nat) (e : gE) (h : gT_237 pc = some e) : pc < 81 := by
  unfold gT_237 at h
  cases hb : Nat.ble pc 80 with
  | true => exact Nat.lt_succ_of_le (Nat.le_of_ble_eq_true hb)
  | false => rw [hb] at h; exact absurd h (by simp)
theorem gO_237 : ∀ pc e, gF 237 pc = some e → gChk 237 pc e = true := fun pc e h => gLeaf (M := 81) (by decide +kernel) (by decide +kernel) (gB_237 pc e h) h
theorem gB_238 (pc : Nat) (e : gE) (h : gT_238 pc = some e) : pc < 15 := by
  unfold gT_238 at h
  cases hb : Nat.ble pc 14 with
  | true => exact Nat.lt_succ_of_le (Nat.le_of_ble_eq_true hb)
  | false => rw [hb] at h; exact absurd h (by simp)
theorem gO_238 : ∀ pc e, gF 238 pc = some e → gChk 238 pc e = true := fun pc e h => gLeaf (M := 15) (by decide +kernel) (by decide +kernel) (gB_238 pc e h) h
theorem gB_239 (pc : Nat) (e : gE) (h : gT_239 pc = some e) : pc < 14 := by
  unfold gT_239 at h
  cases hb : Nat.ble pc 13 with
  | true => exact Nat.lt_succ_of_le (Nat.le_of_ble_eq_true hb)
  | false => rw [hb] at h; exact absurd h (by simp)
theorem gO_239 : ∀ pc e, gF 239 pc = some e → gChk 239 pc e = true := fun pc e h => gLeaf (M := 14) (by decide +kernel) (by decide +kernel) (gB_239 pc e h) h
theorem gB_240 (pc : Nat) (e : gE) (h : gT_240 pc = some e) : pc < 87 := by
  unfold gT_240 at h
  cases hb : Nat.ble pc 86 with
  | true => exact Nat.lt_succ_of_le (Nat.le_of_ble_eq_true hb)
  | false => rw [hb] at h; exact absurd h (by simp)
theorem gO_240 : ∀ pc e, gF 240 pc = some e → gChk 240 pc e = true := fun pc e h => gLeaf (M := 87) (by decide +kernel) (by decide +kernel) (gB_240 pc e h) h
theorem gB_241 (pc : Nat) (e : gE) (h : gT_241 pc = some e) : pc < 10 := by
  unfold gT_241 at h
  cases hb : Nat.ble pc 9 with
  | true => exact Nat.lt_succ_of_le (Nat.le_of_ble_eq_true hb)
  | false => rw [hb] at h; exact absurd h (by simp)
theorem gO_241 : ∀ pc e, gF 241 pc = some e → gChk 241 pc e = true := fun pc e h => gLeaf (M := 10) (by decide +kernel) (by decide +kernel) (gB_241 pc e h) h
theorem gB_242 (pc : Nat) (e : gE) (h : gT_242 pc = some e) : pc < 15 := by
  unfold gT_242 at h
  cases hb : Nat.ble pc 14 with
  | true => exact Nat.lt_succ_of_le (Nat.le_of_ble_eq_true hb)
  | false => rw [hb] at h; exact absurd h (by simp)
theorem gO_242 : ∀ pc e, gF 242 pc = some e → gChk 242 pc e = true := fun pc e h => gLeaf (M := 15) (by decide +kernel) (by decide +kernel) (gB_242 pc e h) h
theorem gB_243 (pc : Nat) (e : gE) (h : gT_243 pc = some e) : pc < 58 := by
  unfold gT_243 at h
  cases hb : Nat.ble pc 57 with
  | true => exact Nat.lt_succ_of_le (Nat.le_of_ble_eq_true hb)
  | false => rw [hb] at h; exact absurd h (by simp)
theorem gO_243 : ∀ pc e, gF 243 pc = some e → gChk 243 pc e = true := fun pc e h => gLeaf (M := 58) (by decide +kernel) (by decide +kernel) (gB_243 pc e h) h
theorem gB_244 (pc : Nat) (e : gE) (h : gT_244 pc = some e) : pc < 21 := by
  unfold gT_244 at h
  cases hb : Nat.ble pc 20 with
  | true => exact Nat.lt_succ_of_le (Nat.le_of_ble_eq_true hb)
  | false => rw [hb] at h; exact absurd h (by simp)
theorem gO_244 : ∀ pc e, gF 244 pc = some e → gChk 244 pc e = true := fun pc e h => gLeaf (M := 21) (by decide +kernel) (by decide +kernel) (gB_244 pc e h) h
theorem gB_245 (pc : Nat) (e : gE) (h : gT_245 pc = some e) : pc < 57 := by
  unfold gT_245 at h
  cases hb : Nat.ble pc 56 with
  | true => exact Nat.lt_succ_of_le (Nat.le_of_ble_eq_true hb)
  | false => rw [hb] at h; exact absurd h (by simp)
theorem gO_245 : ∀ pc e, gF 245 pc = some e → gChk 245 pc e = true := fun pc e h => gLeaf (M := 57) (by decide +kernel) (by decide +kernel) (gB_245 pc e h) h
theorem gB_246 (pc : Nat) (e : gE) (h : gT_246 pc = some e) : pc < 72 := by
  unfold gT_246 at h
  cases hb : Nat.ble pc 71 with
  | true => exact Nat.lt_succ_of_le (Nat.le_of_ble_eq_true hb)
  | false => rw [hb] at h; exact absurd h (by simp)
theorem gO_246 : ∀ pc e, gF 246 pc = some e → gChk 246 pc e = true := fun pc e h => gLeaf (M := 72) (by decide +kernel) (by decide +kernel) (gB_246 pc e h) h
theorem gB_247 (pc : Nat) (e : gE) (h : gT_247 pc = some e) : pc < 63 := by
  unfold gT_247 at h
  cases hb : Nat.ble pc 62 with
  | true => exact Nat.lt_succ_of_le (Nat.le_of_ble_eq_true hb)
  | false => rw [hb] at h; exact absurd h (by simp)
theorem gO_247 : ∀ pc e, gF 247 pc = some e → gChk 247 pc e = true := fun pc e h => gLeaf (M := 63) (by decide +kernel) (by decide +kernel) (gB_247 pc e h) h
theorem gB_248 (pc : Nat) (e : gE) (h : gT_248 pc = some e) : pc < 7 := by
  unfold gT_248 at h
  cases hb : Nat.ble pc 6 with
  | true => exact Nat.lt_succ_of_le (Nat.le_of_ble_eq_true hb)
  | false => rw [hb] at h; exact absurd h (by simp)
theorem gO_248 : ∀ pc e, gF 248 pc = some e → gChk 248 pc e = true := fun pc e h => gLeaf (M := 7) (by decide +kernel) (by decide +kernel) (gB_248 pc e h) h
theorem gB_249 (pc : Nat) (e : gE) (h : gT_249 pc = some e) : pc < 31 := by
  unfold gT_249 at h
  cases hb : Nat.ble pc 30 with
  | true => exact Nat.lt_succ_of_le (Nat.le_of_ble_eq_true hb)
  | false => rw [hb] at h; exact absurd h (by simp)
theorem gO_249 : ∀ pc e, gF 249 pc = some e → gChk 249 pc e = true := fun pc e h => gLeaf (M := 31) (by decide +kernel) (by decide +kernel) (gB_249 pc e h) h
theorem gB_250 (pc : Nat) (e : gE) (h : gT_250 pc = some e) : pc < 82 := by
  unfold gT_250 at h
  cases hb : Nat.ble pc 81 with
  | true => exact Nat.lt_succ_of_le (Nat.le_of_ble_eq_true hb)
  | false => rw [hb] at h; exact absurd h (by simp)
theorem gO_250 : ∀ pc e, gF 250 pc = some e → gChk 250 pc e = true := fun pc e h => gLeaf (M := 82) (by decide +kernel) (by decide +kernel) (gB_250 pc e h) h
