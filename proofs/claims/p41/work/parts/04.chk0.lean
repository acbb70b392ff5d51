theorem gB_0 (pc : Nat) (e : gE) (h : gT_0 pc = some e) : pc < 21 := by
  unfold gT_0 at h
  cases hb : Nat.ble pc 20 with
  | true => exact Nat.lt_succ_of_le (Nat.le_of_ble_eq_true hb)
  | false => rw [hb] at h; exact absurd h (by simp)
theorem gO_0 : ∀ pc e, gF 0 pc = some e → gChk 0 pc e = true := fun pc e h => gLeaf (M := 21) (by decide +kernel) (by decide +kernel) (gB_0 pc e h) h
theorem gB_1 (pc : Nat) (e : gE) (h : gT_1 pc = some e) : pc < 16 := by
  unfold gT_1 at h
  cases hb : Nat.ble pc 15 with
  | true => exact Nat.lt_succ_of_le (Nat.le_of_ble_eq_true hb)
  | false => rw [hb] at h; exact absurd h (by simp)
theorem gO_1 : ∀ pc e, gF 1 pc = some e → gChk 1 pc e = true := fun pc e h => gLeaf (M := 16) (by decide +kernel) (by decide +kernel) (gB_1 pc e h) h
theorem gB_2 (pc : Nat) (e : gE) (h : gT_2 pc = some e) : pc < 38 := by
  unfold gT_2 at h
  cases hb : Nat.ble pc 37 with
  | true => exact Nat.lt_succ_of_le (Nat.le_of_ble_eq_true hb)
  | false => rw [hb] at h; exact absurd h (by simp)
theorem gO_2 : ∀ pc e, gF 2 pc = some e → gChk 2 pc e = true := fun pc e h => gLeaf (M := 38) (by decide +kernel) (by decide +kernel) (gB_2 pc e h) h
theorem gB_3 (pc : Nat) (e : gE) (h : gT_3 pc = some e) : pc < 18 := by
  unfold gT_3 at h
  cases hb : Nat.ble pc 17 with
  | true => exact Nat.lt_succ_of_le (Nat.le_of_ble_eq_true hb)
  | false => rw [hb] at h; exact absurd h (by simp)
theorem gO_3 : ∀ pc e, gF 3 pc = some e → gChk 3 pc e = true := fun pc e h => gLeaf (M := 18) (by decide +kernel) (by decide +kernel) (gB_3 pc e h) h
theorem gB_4 (pc : Nat) (e : gE) (h : gT_4 pc = some e) : pc < 19 := by
  unfold gT_4 at h
  cases hb : Nat.ble pc 18 with
  | true => exact Nat.lt_succ_of_le (Nat.le_of_ble_eq_true hb)
  | false => rw [hb] at h; exact absurd h (by simp)
theorem gO_4 : ∀ pc e, gF 4 pc = some e → gChk 4 pc e = true := fun pc e h => gLeaf (M := 19) (by decide +kernel) (by decide +kernel) (gB_4 pc e h) h
theorem gB_5 (pc : Nat) (e : gE) (h : gT_5 pc = some e) : pc < 39 := by
  unfold gT_5 at h
  cases hb : Nat.ble pc 38 with
  | true => exact Nat.lt_succ_of_le (Nat.le_of_ble_eq_true hb)
  | false => rw [hb] at h; exact absurd h (by simp)
theorem gO_5 : ∀ pc e, gF 5 pc = some e → gChk 5 pc e = true := fun pc e h => gLeaf (M := 39) (by decide +kernel) (by decide +kernel) (gB_5 pc e h) h
theorem gB_6 (pc : Nat) (e : gE) (h : gT_6 pc = some e) : pc < 29 := by
  unfold gT_6 at h
  cases hb : Nat.ble pc 28 with
  | true => exact Nat.lt_succ_of_le (Nat.le_of_ble_eq_true hb)
  | false => rw [hb] at h; exact absurd h (by simp)
theorem gO_6 : ∀ pc e, gF 6 pc = some e → gChk 6 pc e = true := fun pc e h => gLeaf (M := 29) (by decide +kernel) (by decide +kernel) (gB_6 pc e h) h
theorem gB_7 (pc : Nat) (e : gE) (h : gT_7 pc = some e) : pc < 47 := by
  unfold gT_7 at h
  cases hb : Nat.ble pc 46 with
  | true => exact Nat.lt_succ_of_le (Nat.le_of_ble_eq_true hb)
  | false => rw [hb] at h; exact absurd h (by simp)
theorem gO_7 : ∀ pc e, gF 7 pc = some e → gChk 7 pc e = true := fun pc e h => gLeaf (M := 47) (by decide +kernel) (by decide +kernel) (gB_7 pc e h) h
theorem gB_8 (pc : Nat) (e : gE) (h : gT_8 pc = some e) : pc < 12 := by
  unfold gT_8 at h
  cases hb : Nat.ble pc 11 with
  | true => exact Nat.lt_succ_of_le (Nat.le_of_ble_eq_true hb)
  | false => rw [hb] at h; exact absurd h (by simp)
theorem gO_8 : ∀ pc e, gF 8 pc = some e → gChk 8 pc e = true := fun pc e h => gLeaf (M := 12) (by decide +kernel) (by decide +kernel) (gB_8 pc e h) h
theorem gB_9 (pc : Nat) (e : gE) (h : gT_9 pc = some e) : pc < 118 := by
  unfold gT_9 at h
  cases hb : Nat.ble pc 117 with
  | true => exact Nat.lt_succ_of_le (Nat.le_of_ble_eq_true hb)
  | false => rw [hb] at h; exact absurd h (by simp)
theorem gO_9 : ∀ pc e, gF 9 pc = some e → gChk 9 pc e = true := fun pc e h => gLeaf (M := 118) (by decide +kernel) (by decide +kernel) (gB_9 pc e h) h
theorem gB_10 (pc : Nat) (e : gE) (h : gT_10 pc = some e) : pc < 30 := by
  unfold gT_10 at h
  cases hb : Nat.ble pc 29 with
  | true => exact Nat.lt_succ_of_le (Nat.le_of_ble_eq_true hb)
  | false => rw [hb] at h; exact absurd h (by simp)
theorem gO_10 : ∀ pc e, gF 10 pc = some e → gChk 10 pc e = true := fun pc e h => gLeaf (M := 30) (by decide +kernel) (by decide +kernel) (gB_10 pc e h) h
theorem gB_11 (pc : Nat) (e : gE) (h : gT_11 pc = some e) : pc < 90 := by
  unfold gT_11 at h
  cases hb : Nat.ble pc 89 with
  | true => exact Nat.lt_succ_of_le (Nat.le_of_ble_eq_true hb)
  | false => rw [hb] at h; exact absurd h (by simp)
theorem gO_11 : ∀ pc e, gF 11 pc = some e → gChk 11 pc e = true := fun pc e h => gLeaf (M := 90) (by decide +kernel) (by decide +kernel) (gB_11 pc e h) h
theorem gB_12 (pc : Nat) (e : gE) (h : gT_12 pc = some e) : pc < 235 := by
  unfold gT_12 at h
  cases hb : Nat.ble pc 234 with
  | true => exact Nat.lt_succ_of_le (Nat.le_of_ble_eq_true hb)
  | false => rw [hb] at h; exact absurd h (by simp)
theorem gO_12 : ∀ pc e, gF 12 pc = some e → gChk 12 pc e = true := fun pc e h => gLeaf (M := 235) (by decide +kernel) (by decide +kernel) (gB_12 pc e h) h
theorem gB_13 (pc : Nat) (e : gE) (h : gT_13 pc = some e) : pc < 42 := by
  unfold gT_13 at h
  cases hb : Nat.ble pc 41 with
  | true => exact Nat.lt_succ_of_le (Nat.le_of_ble_eq_true hb)
  | false => rw [hb] at h; exact absurd h (by simp)
theorem gO_13 : ∀ pc e, gF 13 pc = some e → gChk 13 pc e = true := fun pc e h => gLeaf (M := 42) (by decide +kernel) (by decide +kernel) (gB_13 pc e h) h
theorem gB_14 (pc : Nat) (e : gE) (h : gT_14 pc = some e) : pc < 73 := by
  unfold gT_14 at h
  cases hb : Nat.ble pc 72 with
  | true => exact Nat.lt_succ_of_le (Nat.le_of_ble_eq_true hb)
  | false => rw [hb] at h; exact absurd h (by simp)
theorem gO_14 : ∀ pc e, gF 14 pc = some e → gChk 14 pc e = true := fun pc e h => gLeaf (M := 73) (by decide +kernel) (by decide +kernel) (gB_14 pc e h) h
theorem gB_15 (pc : Nat) (e : gE) (h : gT_15 pc = some e) : pc < 75 := by
  unfold gT_15 at h
  cases hb : Nat.ble pc 74 with
  | true => exact Nat.lt_succ_of_le (Nat.le_of_ble_eq_true hb)
  | false => rw [hb] at h; exact absurd h (by simp)
theorem gO_15 : ∀ pc e, gF 15 pc = some e → gChk 15 pc e = true := fun pc e h => gLeaf (M := 75) (by decide +kernel) (by decide +kernel) (gB_15 pc e h) h
theorem gB_16 (pc : Nat) (e : gE) (h : gT_16 pc = some e) : pc < 55 := by
  unfold gT_16 at h
  cases hb : Nat.ble pc 54 with
  | true => exact Nat.lt_succ_of_le (Nat.le_of_ble_eq_true hb)
  | false => rw [hb] at h; exact absurd h (by simp)
theorem gO_16 : ∀ pc e, gF 16 pc = some e → gChk 16 pc e = true := fun pc e h => gLeaf (M := 55) (by decide +kernel) (by decide +kernel) (gB_16 pc e h) h
theorem gB_17 (pc : Nat) (e : gE) (h : gT_17 pc = some e) : pc < 59 := by
  unfold gT_17 at h
  cases hb : Nat.ble pc 58 with
  | true => exact Nat.lt_succ_of_le (Nat.le_of_ble_eq_true hb)
  | false => rw [hb] at h; exact absurd h (by simp)
theorem gO_17 : ∀ pc e, gF 17 pc = some e → gChk 17 pc e = true := fun pc e h => gLeaf (M := 59) (by decide +kernel) (by decide +kernel) (gB_17 pc e h) h
theorem gB_18 (pc : Nat) (e : gE) (h : gT_18 pc = some e) : pc < 31 := by
  unfold gT_18 at h
  cases hb : Nat.ble pc 30 with
  | true => exact Nat.lt_succ_of_le (Nat.le_of_ble_eq_true hb)
  | false => rw [hb] at h; exact absurd h (by simp)
theorem gO_18 : ∀ pc e, gF 18 pc = some e → gChk 18 pc e = true := fun pc e h => gLeaf (M := 31) (by decide +kernel) (by decide +kernel) (gB_18 pc e h) h
theorem gB_19 (pc : Nat) (e : gE) (h : gT_19 pc = some e) : pc < 21 := by
  unfold gT_19 at h
  cases hb : Nat.ble pc 20 with
  | true => exact Nat.lt_succ_of_le (Nat.le_of_ble_eq_true hb)
  | false => rw [hb] at h; exact absurd h (by simp)
theorem gO_19 : ∀ pc e, gF 19 pc = some e → gChk 19 pc e = true := fun pc e h => gLeaf (M := 21) (by decide +kernel) (by decide +kernel) (gB_19 pc e h) h
theorem gB_20 (pc : Nat) (e : gE) (h : gT_20 pc = some e) : pc < 118 := by
  unfold gT_20 at h
  cases hb : Nat.ble pc 117 with
  | true => exact Nat.lt_succ_of_le (Nat.le_of_ble_eq_true hb)
  | false => rw [hb] at h; exact absurd h (by simp)
theorem gO_20 : ∀ pc e, gF 20 pc = some e → gChk 20 pc e = true := fun pc e h => gLeaf (M := 118) (by decide +kernel) (by decide +kernel) (gB_20 pc e h) h
theorem gB_21 (pc : Nat) (e : gE) (h : gT_21 pc = some e) : pc < 61 := by
  unfold gT_21 at h
  cases hb : Nat.ble pc 60 with
  | true => exact Nat.lt_succ_of_le (Nat.le_of_ble_eq_true hb)
  | false => rw [hb] at h; exact absurd h (by simp)
theorem gO_21 : ∀ pc e, gF 21 pc = some e → gChk 21 pc e = true := fun pc e h => gLeaf (M := 61) (by decide +kernel) (by decide +kernel) (gB_21 pc e h) h
theorem gB_22 (pc : Nat) (e : gE) (h : gT_22 pc = some e) : pc < 88 := by
  unfold gT_22 at h
  cases hb : Nat.ble pc 87 with
  | true => exact Nat.lt_succ_of_le (Nat.le_of_ble_eq_true hb)
  | false => rw [hb] at h; exact absurd h (by simp)
theorem gO_22 : ∀ pc e, gF 22 pc = some e → gChk 22 pc e = true := fun pc e h => gLeaf (M := 88) (by decide +kernel) (by decide +kernel) (gB_22 pc e h) h
theorem gB_23 (pc : Nat) (e : gE) (h : gT_23 pc = some e) : pc < 79 := by
  unfold gT_23 at h
  cases hb : Nat.ble pc 78 with
  | true => exact Nat.lt_succ_of_le (Nat.le_of_ble_eq_true hb)
  | false => rw [hb] at h; exact absurd h (by simp)
theorem gO_23 : ∀ pc e, gF 23 pc = some e → gChk 23 pc e = true := fun pc e h => gLeaf (M := 79) (by decide +kernel) (by decide +kernel) (gB_23 pc e h) h
theorem gB_24 (pc : Nat) (e : gE) (h : gT_24 pc = some e) : pc < 53 := by
  unfold gT_24 at h
  cases hb : Nat.ble pc 52 with
  | true => exact Nat.lt_succ_of_le (Nat.le_of_ble_eq_true hb)
  | false => rw [hb] at h; exact absurd h (by simp)
theorem gO_24 : ∀ pc e, gF 24 pc = some e → gChk 24 pc e = true := fun pc e h => gLeaf (M := 53) (by decide +kernel) (by decide +kernel) (gB_24 pc e h) h
theorem gB_25 (pc : Nat) (e : gE) (h : gT_25 pc = some e) : pc < 33 := by
  unfold gT_25 at h
  cases hb : Nat.ble pc 32 with
  | true => exact Nat.lt_succ_of_le (Nat.le_of_ble_eq_true hb)
  | false => rw [hb] at h; exact absurd h (by simp)
theorem gO_25 : ∀ pc e, gF 25 pc = some e → gChk 25 pc e = true := fun pc e h => gLeaf (M := 33) (by decide +kernel) (by decide +kernel) (gB_25 pc e h) h
theorem gB_26 (pc : Nat) (e : gE) (h : gT_26 pc = some e) : pc < 34 := by
  unfold gT_26 at h
  cases hb : Nat.ble pc 33 with
  | true => exact Nat.lt_succ_of_le (Nat.le_of_ble_eq_true hb)
  | false => rw [hb] at h; exact absurd h (by simp)
theorem gO_26 : ∀ pc e, gF 26 pc = some e → gChk 26 pc e = true := fun pc e h => gLeaf (M := 34) (by decide +kernel) (by decide +kernel) (gB_26 pc e h) h
theorem gB_27 (pc : Nat) (e : gE) (h : gT_27 pc = some e) : pc < 45 := by
  unfold gT_27 at h
  cases hb : Nat.ble pc 44 with
  | true => exact Nat.lt_succ_of_le (Nat.le_of_ble_eq_true hb)
  | false => rw [hb] at h; exact absurd h (by simp)
theorem gO_27 : ∀ pc e, gF 27 pc = some e → gChk 27 pc e = true := fun pc e h => gLeaf (M := 45) (by decide +kernel) (by decide +kernel) (gB_27 pc e h) h
theorem gB_28 (pc : Nat) (e : gE) (h : gT_28 pc = some e) : pc < 76 := by
  unfold gT_28 at h
  cases hb : Nat.ble pc 75 with
  | true => exact Nat.lt_succ_of_le (Nat.le_of_ble_eq_true hb)
  | false => rw [hb] at h; exact absurd h (by simp)
theorem gO_28 : ∀ pc e, gF 28 pc = some e → gChk 28 pc e = true := fun pc e h => gLeaf (M := 76) (by decide +kernel) (by decide +kernel) (gB_28 pc e h) h
theorem gB_29 (pc : Nat) (e : gE) (h : gT_29 pc = some e) : pc < 46 := by
  unfold gT_29 at h
  cases hb : Nat.ble pc 45 with
  | true => exact Nat.lt_succ_of_le (Nat.le_of_ble_eq_true hb)
  | false => rw [hb] at h; exact absurd h (by simp)
theorem gO_29 : ∀ pc e, gF 29 pc = some e → gChk 29 pc e = true := fun pc e h => gLeaf (M := 46) (by decide +kernel) (by decide +kernel) (gB_29 pc e h) h
theorem gB_30 (pc : Nat) (e : gE) (h : gT_30 pc = some e) : pc < 100 := by
  unfold gT_30 at h
  cases hb : Nat.ble pc 99 with
  | true => exact Nat.lt_succ_of_le (Nat.le_of_ble_eq_true hb)
  | false => rw [hb] at h; exact absurd h (by simp)
theorem gO_30 : ∀ pc e, gF 30 pc = some e → gChk 30 pc e = true := fun pc e h => gLeaf (M := 100) (by decide +kernel) (by decide +kernel) (gB_30 pc e h) h
theorem gB_31 (pc : Nat) (e : gE) (h : gT_31 pc = some e) : pc < 150 := by
  unfold gT_31 at h
  cases hb : Nat.ble pc 149 with
  | true => exact Nat.lt_succ_of_le (Nat.le_of_ble_eq_true hb)
  | false => rw [hb] at h; exact absurd h (by simp)
theorem gO_31 : ∀ pc e, gF 31 pc = some e → gChk 31 pc e = true := fun pc e h => gLeaf (M := 150) (by decide +kernel) (by decide +kernel) (gB_31 pc e h) h
theorem gB_32 (pc : Nat) (e : gE) (h : gT_32 pc = some e) : pc < 56 := by
  unfold gT_32 at h
  cases hb : Nat.ble pc 55 with
  | true => exact Nat.lt_succ_of_le (Nat.le_of_ble_eq_true hb)
  | false => rw [hb] at h; exact absurd h (by simp)
theorem gO_32 : ∀ pc e, gF 32 pc = some e → gChk 32 pc e = true := fun pc e h => gLeaf (M := 56) (by decide +kernel) (by decide +kernel) (gB_32 pc e h) h
theorem gB_33 (pc : Nat) (e : gE) (h : gT_33 pc = some e) : pc < 25 := by
  unfold gT_33 at h
  cases hb : Nat.ble pc 24 with
  | true => exact Nat.lt_succ_of_le (Nat.le_of_ble_eq_true hb)
  | false => rw [hb] at h; exact absurd h (by simp)
theorem gO_33 : ∀ pc e, gF 33 pc = some e → gChk 33 pc e = true := fun pc e h => gLeaf (M := 25) (by decide +kernel) (by decide +kernel) (gB_33 pc e h) h
theorem gB_34 (pc : Nat) (e : gE) (h : gT_34 pc = some e) : pc < 41 := by
  unfold gT_34 at h
  cases hb : Nat.ble pc 40 with
  | true => exact Nat.lt_succ_of_le (Nat.le_of_ble_eq_true hb)
  | false => rw [hb] at h; exact absurd h (by simp)
theorem gO_34 : ∀ pc e, gF 34 pc = some e → gChk 34 pc e = true := fun pc e h => gLeaf (M := 41) (by decide +kernel) (by decide +kernel) (gB_34 pc e h) h
theorem gB_35 (pc : Nat) (e : gE) (h : gT_35 pc = some e) : pc < 18 := by
  unfold gT_35 at h
  cases hb : Nat.ble pc 17 with
  | true => exact Nat.lt_succ_of_le (Nat.le_of_ble_eq_true hb)
  | false => rw [hb] at h; exact absurd h (by simp)
theorem gO_35 : ∀ pc e, gF 35 pc = some e → gChk 35 pc e = true := fun pc e h => gLeaf (M := 18) (by decide +kernel) (by decide +kernel) (gB_35 pc e h) h
theorem gB_36 (pc : Nat) (e : gE) (h : gT_36 pc = some e) : pc < 42 := by
  unfold gT_36 at h
  cases hb : Nat.ble pc 41 with
  | true => exact Nat.lt_succ_of_le (Nat.le_of_ble_eq_true hb)
  | false => rw [hb] at h; exact absurd h (by simp)
theorem gO_36 : ∀ pc e, gF 36 pc = some e → gChk 36 pc e = true := fun pc e h => gLeaf (M := 42) (by decide +kernel) (by decide +kernel) (gB_36 pc e h) h
theorem gB_37 (pc : Nat) (e : gE) (h : gT_37 pc = some e) : pc < 104 := by
  unfold gT_37 at h
  cases hb : Nat.ble pc 103 with
  | true => exact Nat.lt_succ_of_le (Nat.le_of_ble_eq_true hb)
  | false => rw [hb] at h; exact absurd h (by simp)
theorem gO_37 : ∀ pc e, gF 37 pc = some e → gChk 37 pc e = true := fun pc e h => gLeaf (M := 104) (by decide +kernel) (by decide +kernel) (gB_37 pc e h) h
theorem gB_38 (pc : Nat) (e : gE) (h : gT_38 pc = some e) : pc < 156 := by
  unfold gT_38 at h
  cases hb : Nat.ble pc 155 with
  | true => exact Nat.lt_succ_of_le (Nat.le_of_ble_eq_true hb)
  | false => rw [hb] at h; exact absurd h (by simp)
theorem gO_38 : ∀ pc e, gF 38 pc = some e → gChk 38 pc e = true := fun pc e h => gLeaf (M := 156) (by decide +kernel) (by decide +kernel) (gB_38 pc e h) h
theorem gB_39 (pc : Nat) (e : gE) (h : gT_39 pc = some e) : pc < 18 := by
  unfold gT_39 at h
  cases hb : Nat.ble pc 17 with
  | true => exact Nat.lt_succ_of_le (Nat.le_of_ble_eq_true hb)
  | false => rw [hb] at h; exact absurd h (by simp)
theorem gO_39 : ∀ pc e, gF 39 pc = some e → gChk 39 pc e = true := fun pc e h => gLeaf (M := 18) (by decide +kernel) (by decide +kernel) (gB_39 pc e h) h
theorem gB_40 (pc : Nat) (e : gE) (h : gT_40 pc = some e) : pc < 212 := by
  unfold gT_40 at h
  cases hb : Nat.ble pc 211 with
  | true => exact Nat.lt_succ_of_le (Nat.le_of_ble_eq_true hb)
  | false => rw [hb] at h; exact absurd h (by simp)
theorem gO_40 : ∀ pc e, gF 40 pc = some e → gChk 40 pc e = true := fun pc e h => gLeaf (M := 212) (by decide +kernel) (by decide +kernel) (gB_40 pc e h) h
theorem gB_41 (pc : Nat) (e : gE) (h : gT_41 pc = some e) : pc < 191 := by
  unfold gT_41 at h
  cases hb : Nat.ble pc 190 with
  | true => exact Nat.lt_succ_of_le (Nat.le_of_ble_eq_true hb)
  | false => rw [hb] at h; exact absurd h (by simp)
theorem gO_41 : ∀ pc e, gF 41 pc = some e → gChk 41 pc e = true := fun pc e h => gLeaf (M := 191) (by decide +kernel) (by decide +kernel) (gB_41 pc e h) h
