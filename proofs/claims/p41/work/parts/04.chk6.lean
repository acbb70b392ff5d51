theorem gB_251 (pc : Nat) (e : gE) (h : gT_251 pc = some e) : pc < 57 := by
  unfold gT_251 at h
  cases hb : Nat.ble pc 56 with
  | true => exact Nat.lt_succ_of_le (Nat.le_of_ble_eq_true hb)
  | false => rw [hb] at h; exact absurd h (by simp)
theorem gO_251 : ∀ pc e, gF 251 pc = some e → gChk 251 pc e = true := fun pc e h => gLeaf (M := 57) (by decide +kernel) (by decide +kernel) (gB_251 pc e h) h
theorem gB_252 (pc : Nat) (e : gE) (h : gT_252 pc = some e) : pc < 98 := by
  unfold gT_252 at h
  cases hb : Nat.ble pc 97 with
  | true => exact Nat.lt_succ_of_le (Nat.le_of_ble_eq_true hb)
  | false => rw [hb] at h; exact absurd h (by simp)
theorem gO_252 : ∀ pc e, gF 252 pc = some e → gChk 252 pc e = true := fun pc e h => gLeaf (M := 98) (by decide +kernel) (by decide +kernel) (gB_252 pc e h) h
theorem gB_253 (pc : Nat) (e : gE) (h : gT_253 pc = some e) : pc < 27 := by
  unfold gT_253 at h
  cases hb : Nat.ble pc 26 with
  | true => exact Nat.lt_succ_of_le (Nat.le_of_ble_eq_true hb)
  | false => rw [hb] at h; exact absurd h (by simp)
theorem gO_253 : ∀ pc e, gF 253 pc = some e → gChk 253 pc e = true := fun pc e h => gLeaf (M := 27) (by decide +kernel) (by decide +kernel) (gB_253 pc e h) h
theorem gB_254 (pc : Nat) (e : gE) (h : gT_254 pc = some e) : pc < 188 := by
  unfold gT_254 at h
  cases hb : Nat.ble pc 187 with
  | true => exact Nat.lt_succ_of_le (Nat.le_of_ble_eq_true hb)
  | false => rw [hb] at h; exact absurd h (by simp)
theorem gO_254 : ∀ pc e, gF 254 pc = some e → gChk 254 pc e = true := fun pc e h => gLeaf (M := 188) (by decide +kernel) (by decide +kernel) (gB_254 pc e h) h
theorem gB_255 (pc : Nat) (e : gE) (h : gT_255 pc = some e) : pc < 76 := by
  unfold gT_255 at h
  cases hb : Nat.ble pc 75 with
  | true => exact Nat.lt_succ_of_le (Nat.le_of_ble_eq_true hb)
  | false => rw [hb] at h; exact absurd h (by simp)
theorem gO_255 : ∀ pc e, gF 255 pc = some e → gChk 255 pc e = true := fun pc e h => gLeaf (M := 76) (by decide +kernel) (by decide +kernel) (gB_255 pc e h) h
theorem gB_256 (pc : Nat) (e : gE) (h : gT_256 pc = some e) : pc < 53 := by
  unfold gT_256 at h
  cases hb : Nat.ble pc 52 with
  | true => exact Nat.lt_succ_of_le (Nat.le_of_ble_eq_true hb)
  | false => rw [hb] at h; exact absurd h (by simp)
theorem gO_256 : ∀ pc e, gF 256 pc = some e → gChk 256 pc e = true := fun pc e h => gLeaf (M := 53) (by decide +kernel) (by decide +kernel) (gB_256 pc e h) h
theorem gB_257 (pc : Nat) (e : gE) (h : gT_257 pc = some e) : pc < 1503 := by
  unfold gT_257 at h
  cases hb : Nat.ble pc 1502 with
  | true => exact Nat.lt_succ_of_le (Nat.le_of_ble_eq_true hb)
  | false => rw [hb] at h; exact absurd h (by simp)
theorem gOc_257_0 : ∀ j, j < 50 → gCh1 257 (j + 0) = true := by decide +kernel
theorem gOc_257_50 : ∀ j, j < 50 → gCh1 257 (j + 50) = true := by decide +kernel
theorem gOc_257_100 : ∀ j, j < 50 → gCh1 257 (j + 100) = true := by decide +kernel
theorem gOc_257_150 : ∀ j, j < 50 → gCh1 257 (j + 150) = true := by decide +kernel
theorem gOc_257_200 : ∀ j, j < 50 → gCh1 257 (j + 200) = true := by decide +kernel
theorem gOc_257_250 : ∀ j, j < 50 → gCh1 257 (j + 250) = true := by decide +kernel
theorem gOc_257_300 : ∀ j, j < 50 → gCh1 257 (j + 300) = true := by decide +kernel
theorem gOc_257_350 : ∀ j, j < 50 → gCh1 257 (j + 350) = true := by decide +kernel
theorem gOc_257_400 : ∀ j, j < 50 → gCh1 257 (j + 400) = true := by decide +kernel
theorem gOc_257_450 : ∀ j, j < 50 → gCh1 257 (j + 450) = true := by decide +kernel
theorem gOc_257_500 : ∀ j, j < 50 → gCh1 257 (j + 500) = true := by decide +kernel
theorem gOc_257_550 : ∀ j, j < 50 → gCh1 257 (j + 550) = true := by decide +kernel
theorem gOc_257_600 : ∀ j, j < 50 → gCh1 257 (j + 600) = true := by decide +kernel
theorem gOc_257_650 : ∀ j, j < 50 → gCh1 257 (j + 650) = true := by decide +kernel
theorem gOc_257_700 : ∀ j, j < 50 → gCh1 257 (j + 700) = true := by decide +kernel
theorem gOc_257_750 : ∀ j, j < 50 → gCh1 257 (j + 750) = true := by decide +kernel
theorem gOc_257_800 : ∀ j, j < 50 → gCh1 257 (j + 800) = true := by decide +kernel
theorem gOc_257_850 : ∀ j, j < 50 → gCh1 257 (j + 850) = true := by decide +kernel
theorem gOc_257_900 : ∀ j, j < 50 → gCh1 257 (j + 900) = true := by decide +kernel
theorem gOc_257_950 : ∀ j, j < 50 → gCh1 257 (j + 950) = true := by decide +kernel
theorem gOc_257_1000 : ∀ j, j < 50 → gCh1 257 (j + 1000) = true := by decide +kernel
theorem gOc_257_1050 : ∀ j, j < 50 → gCh1 257 (j + 1050) = true := by decide +kernel
theorem gOc_257_1100 : ∀ j, j < 50 → gCh1 257 (j + 1100) = true := by decide +kernel
theorem gOc_257_1150 : ∀ j, j < 50 → gCh1 257 (j + 1150) = true := by decide +kernel
theorem gOc_257_1200 : ∀ j, j < 50 → gCh1 257 (j + 1200) = true := by decide +kernel
theorem gOc_257_1250 : ∀ j, j < 50 → gCh1 257 (j + 1250) = true := by decide +kernel
theorem gOc_257_1300 : ∀ j, j < 50 → gCh1 257 (j + 1300) = true := by decide +kernel
theorem gOc_257_1350 : ∀ j, j < 50 → gCh1 257 (j + 1350) = true := by decide +kernel
theorem gOc_257_1400 : ∀ j, j < 50 → gCh1 257 (j + 1400) = true := by decide +kernel
theorem gOc_257_1450 : ∀ j, j < 50 → gCh1 257 (j + 1450) = true := by decide +kernel
theorem gOc_257_1500 : ∀ j, j < 3 → gCh1 257 (j + 1500) = true := by decide +kernel
theorem gOd_257 : ∀ pc, pc < 1503 → gCh1 257 pc = true := by
  intro pc hp
  rcases Nat.lt_or_ge pc 750 with q1 | q1
  · rcases Nat.lt_or_ge pc 350 with q2 | q2
    · rcases Nat.lt_or_ge pc 150 with q3 | q3
      · rcases Nat.lt_or_ge pc 50 with q4 | q4
        · have h := gOc_257_0 (pc - 0) (by omega); rwa [Nat.sub_add_cancel (by omega)] at h
        · rcases Nat.lt_or_ge pc 100 with q5 | q5
          · have h := gOc_257_50 (pc - 50) (by omega); rwa [Nat.sub_add_cancel (by omega)] at h
          · have h := gOc_257_100 (pc - 100) (by omega); rwa [Nat.sub_add_cancel (by omega)] at h
      · rcases Nat.lt_or_ge pc 250 with q4 | q4
        · rcases Nat.lt_or_ge pc 200 with q5 | q5
          · have h := gOc_257_150 (pc - 150) (by omega); rwa [Nat.sub_add_cancel (by omega)] at h
          · have h := gOc_257_200 (pc - 200) (by omega); rwa [Nat.sub_add_cancel (by omega)] at h
        · rcases Nat.lt_or_ge pc 300 with q5 | q5
          · have h := gOc_257_250 (pc - 250) (by omega); rwa [Nat.sub_add_cancel (by omega)] at h
          · have h := gOc_257_300 (pc - 300) (by omega); rwa [Nat.sub_add_cancel (by omega)] at h
    · rcases Nat.lt_or_ge pc 550 with q3 | q3
      · rcases Nat.lt_or_ge pc 450 with q4 | q4
        · rcases Nat.lt_or_ge pc 400 with q5 | q5
          · have h := gOc_257_350 (pc - 350) (by omega); rwa [Nat.sub_add_cancel (by omega)] at h
          · have h := gOc_257_400 (pc - 400) (by omega); rwa [Nat.sub_add_cancel (by omega)] at h
        · rcases Nat.lt_or_ge pc 500 with q5 | q5
          · have h := gOc_257_450 (pc - 450) (by omega); rwa [Nat.sub_add_cancel (by omega)] at h
          · have h := gOc_257_500 (pc - 500) (by omega); rwa [Nat.sub_add_cancel (by omega)] at h
      · rcases Nat.lt_or_ge pc 650 with q4 | q4
        · rcases Nat.lt_or_ge pc 600 with q5 | q5
          · have h := gOc_257_550 (pc - 550) (by omega); rwa [Nat.sub_add_cancel (by omega)] at h
          · have h := gOc_257_600 (pc - 600) (by omega); rwa [Nat.sub_add_cancel (by omega)] at h
        · rcases Nat.lt_or_ge pc 700 with q5 | q5
          · have h := gOc_257_650 (pc - 650) (by omega); rwa [Nat.sub_add_cancel (by omega)] at h
          · have h := gOc_257_700 (pc - 700) (by omega); rwa [Nat.sub_add_cancel (by omega)] at h
  · rcases Nat.lt_or_ge pc 1150 with q2 | q2
    · rcases Nat.lt_or_ge pc 950 with q3 | q3
      · rcases Nat.lt_or_ge pc 850 with q4 | q4
        · rcases Nat.lt_or_ge pc 800 with q5 | q5
          · have h := gOc_257_750 (pc - 750) (by omega); rwa [Nat.sub_add_cancel (by omega)] at h
          · have h := gOc_257_800 (pc - 800) (by omega); rwa [Nat.sub_add_cancel (by omega)] at h
        · rcases Nat.lt_or_ge pc 900 with q5 | q5
          · have h := gOc_257_850 (pc - 850) (by omega); rwa [Nat.sub_add_cancel (by omega)] at h
          · have h := gOc_257_900 (pc - 900) (by omega); rwa [Nat.sub_add_cancel (by omega)] at h
      · rcases Nat.lt_or_ge pc 1050 with q4 | q4
        · rcases Nat.lt_or_ge pc 1000 with q5 | q5
          · have h := gOc_257_950 (pc - 950) (by omega); rwa [Nat.sub_add_cancel (by omega)] at h
          · have h := gOc_257_1000 (pc - 1000) (by omega); rwa [Nat.sub_add_cancel (by omega)] at h
        · rcases Nat.lt_or_ge pc 1100 with q5 | q5
          · have h := gOc_257_1050 (pc - 1050) (by omega); rwa [Nat.sub_add_cancel (by omega)] at h
          · have h := gOc_257_1100 (pc - 1100) (by omega); rwa [Nat.sub_add_cancel (by omega)] at h
    · rcases Nat.lt_or_ge pc 1350 with q3 | q3
      · rcases Nat.lt_or_ge pc 1250 with q4 | q4
        · rcases Nat.lt_or_ge pc 1200 with q5 | q5
          · have h := gOc_257_1150 (pc - 1150) (by omega); rwa [Nat.sub_add_cancel (by omega)] at h
          · have h := gOc_257_1200 (pc - 1200) (by omega); rwa [Nat.sub_add_cancel (by omega)] at h
        · rcases Nat.lt_or_ge pc 1300 with q5 | q5
          · have h := gOc_257_1250 (pc - 1250) (by omega); rwa [Nat.sub_add_cancel (by omega)] at h
          · have h := gOc_257_1300 (pc - 1300) (by omega); rwa [Nat.sub_add_cancel (by omega)] at h
      · rcases Nat.lt_or_ge pc 1450 with q4 | q4
        · rcases Nat.lt_or_ge pc 1400 with q5 | q5
          · have h := gOc_257_1350 (pc - 1350) (by omega); rwa [Nat.sub_add_cancel (by omega)] at h
          · have h := gOc_257_1400 (pc - 1400) (by omega); rwa [Nat.sub_add_cancel (by omega)] at h
        · rcases Nat.lt_or_ge pc 1500 with q5 | q5
          · have h := gOc_257_1450 (pc - 1450) (by omega); rwa [Nat.sub_add_cancel (by omega)] at h
          · have h := gOc_257_1500 (pc - 1500) (by omega); rwa [Nat.sub_add_cancel (by omega)] at h
theorem gO_257 : ∀ pc e, gF 257 pc = some e → gChk 257 pc e = true := fun pc e h => gLeaf (M := 1503) (by decide +kernel) gOd_257 (gB_257 pc e h) h
