theorem gB_251 (pc : Nat) (e : gE) (h : gT_251 pc = some e) : pc < 57 := by
  unfold gT_251 at h
  cases hb : Nat.ble pc 56 with
  | true => exact Nat.lt_succ_of_le (Nat.le_of_ble_eq_true hb)
  | false => rw [hb] at h; exact absurd h (by simp)
theorem gO_251 : ∀ pc e, gF 251 pc = some e → gChk 251 pc e = true := fun pc e h => gLeaf (M := 57) (by decide +kernel) (gB_251 pc e h) h
theorem gB_252 (pc : Nat) (e : gE) (h : gT_252 pc = some e) : pc < 98 := by
  unfold gT_252 at h
  cases hb : Nat.ble pc 97 with
  | true => exact Nat.lt_succ_of_le (Nat.le_of_ble_eq_true hb)
  | false => rw [hb] at h; exact absurd h (by simp)
theorem gO_252 : ∀ pc e, gF 252 pc = some e → gChk 252 pc e = true := fun pc e h => gLeaf (M := 98) (by decide +kernel) (gB_252 pc e h) h
theorem gB_253 (pc : Nat) (e : gE) (h : gT_253 pc = some e) : pc < 27 := by
  unfold gT_253 at h
  cases hb : Nat.ble pc 26 with
  | true => exact Nat.lt_succ_of_le (Nat.le_of_ble_eq_true hb)
  | false => rw [hb] at h; exact absurd h (by simp)
theorem gO_253 : ∀ pc e, gF 253 pc = some e → gChk 253 pc e = true := fun pc e h => gLeaf (M := 27) (by decide +kernel) (gB_253 pc e h) h
theorem gB_254 (pc : Nat) (e : gE) (h : gT_254 pc = some e) : pc < 188 := by
  unfold gT_254 at h
  cases hb : Nat.ble pc 187 with
  | true => exact Nat.lt_succ_of_le (Nat.le_of_ble_eq_true hb)
  | false => rw [hb] at h; exact absurd h (by simp)
theorem gO_254 : ∀ pc e, gF 254 pc = some e → gChk 254 pc e = true := fun pc e h => gLeaf (M := 188) (by decide +kernel) (gB_254 pc e h) h
theorem gB_255 (pc : Nat) (e : gE) (h : gT_255 pc = some e) : pc < 76 := by
  unfold gT_255 at h
  cases hb : Nat.ble pc 75 with
  | true => exact Nat.lt_succ_of_le (Nat.le_of_ble_eq_true hb)
  | false => rw [hb] at h; exact absurd h (by simp)
theorem gO_255 : ∀ pc e, gF 255 pc = some e → gChk 255 pc e = true := fun pc e h => gLeaf (M := 76) (by decide +kernel) (gB_255 pc e h) h
theorem gB_256 (pc : Nat) (e : gE) (h : gT_256 pc = some e) : pc < 53 := by
  unfold gT_256 at h
  cases hb : Nat.ble pc 52 with
  | true => exact Nat.lt_succ_of_le (Nat.le_of_ble_eq_true hb)
  | false => rw [hb] at h; exact absurd h (by simp)
theorem gO_256 : ∀ pc e, gF 256 pc = some e → gChk 256 pc e = true := fun pc e h => gLeaf (M := 53) (by decide +kernel) (gB_256 pc e h) h
theorem gB_257 (pc : Nat) (e : gE) (h : gT_257 pc = some e) : pc < 1504 := by
  unfold gT_257 at h
  cases hb : Nat.ble pc 1503 with
  | true => exact Nat.lt_succ_of_le (Nat.le_of_ble_eq_true hb)
  | false => rw [hb] at h; exact absurd h (by simp)
theorem gO_257 : ∀ pc e, gF 257 pc = some e → gChk 257 pc e = true := fun pc e h => gLeaf (M := 1504) (by decide +kernel) (gB_257 pc e h) h
