theorem gB_42 (pc : Nat) (e : gE) (h : gT_42 pc = some e) : pc < 31 := by
  unfold gT_42 at h
  cases hb : Nat.ble pc 30 with
  | true => exact Nat.lt_succ_of_le (Nat.le_of_ble_eq_true hb)
  | false => rw [hb] at h; exact absurd h (by simp)
theorem gO_42 : ∀ pc e, gF 42 pc = some e → gChk 42 pc e = true := fun pc e h => gLeaf (M := 31) (by decide +kernel) (by decide +kernel) (gB_42 pc e h) h
theorem gB_43 (pc : Nat) (e : gE) (h : gT_43 pc = some e) : pc < 29 := by
  unfold gT_43 at h
  cases hb : Nat.ble pc 28 with
  | true => exact Nat.lt_succ_of_le (Nat.le_of_ble_eq_true hb)
  | false => rw [hb] at h; exact absurd h (by simp)
theorem gO_43 : ∀ pc e, gF 43 pc = some e → gChk 43 pc e = true := fun pc e h => gLeaf (M := 29) (by decide +kernel) (by decide +kernel) (gB_43 pc e h) h
theorem gB_44 (pc : Nat) (e : gE) (h : gT_44 pc = some e) : pc < 15 := by
  unfold gT_44 at h
  cases hb : Nat.ble pc 14 with
  | true => exact Nat.lt_succ_of_le (Nat.le_of_ble_eq_true hb)
  | false => rw [hb] at h; exact absurd h (by simp)
theorem gO_44 : ∀ pc e, gF 44 pc = some e → gChk 44 pc e = true := fun pc e h => gLeaf (M := 15) (by decide +kernel) (by decide +kernel) (gB_44 pc e h) h
theorem gB_45 (pc : Nat) (e : gE) (h : gT_45 pc = some e) : pc < 37 := by
  unfold gT_45 at h
  cases hb : Nat.ble pc 36 with
  | true => exact Nat.lt_succ_of_le (Nat.le_of_ble_eq_true hb)
  | false => rw [hb] at h; exact absurd h (by simp)
theorem gO_45 : ∀ pc e, gF 45 pc = some e → gChk 45 pc e = true := fun pc e h => gLeaf (M := 37) (by decide +kernel) (by decide +kernel) (gB_45 pc e h) h
theorem gB_46 (pc : Nat) (e : gE) (h : gT_46 pc = some e) : pc < 16 := by
  unfold gT_46 at h
  cases hb : Nat.ble pc 15 with
  | true => exact Nat.lt_succ_of_le (Nat.le_of_ble_eq_true hb)
  | false => rw [hb] at h; exact absurd h (by simp)
theorem gO_46 : ∀ pc e, gF 46 pc = some e → gChk 46 pc e = true := fun pc e h => gLeaf (M := 16) (by decide +kernel) (by decide +kernel) (gB_46 pc e h) h
theorem gB_47 (pc : Nat) (e : gE) (h : gT_47 pc = some e) : pc < 74 := by
  unfold gT_47 at h
  cases hb : Nat.ble pc 73 with
  | true => exact Nat.lt_succ_of_le (Nat.le_of_ble_eq_true hb)
  | false => rw [hb] at h; exact absurd h (by simp)
theorem gO_47 : ∀ pc e, gF 47 pc = some e → gChk 47 pc e = true := fun pc e h => gLeaf (M := 74) (by decide +kernel) (by decide +kernel) (gB_47 pc e h) h
theorem gB_48 (pc : Nat) (e : gE) (h : gT_48 pc = some e) : pc < 45 := by
  unfold gT_48 at h
  cases hb : Nat.ble pc 44 with
  | true => exact Nat.lt_succ_of_le (Nat.le_of_ble_eq_true hb)
  | false => rw [hb] at h; exact absurd h (by simp)
theorem gO_48 : ∀ pc e, gF 48 pc = some e → gChk 48 pc e = true := fun pc e h => gLeaf (M := 45) (by decide +kernel) (by decide +kernel) (gB_48 pc e h) h
theorem gB_49 (pc : Nat) (e : gE) (h : gT_49 pc = some e) : pc < 102 := by
  unfold gT_49 at h
  cases hb : Nat.ble pc 101 with
  | true => exact Nat.lt_succ_of_le (Nat.le_of_ble_eq_true hb)
  | false => rw [hb] at h; exact absurd h (by simp)
theorem gO_49 : ∀ pc e, gF 49 pc = some e → gChk 49 pc e = true := fun pc e h => gLeaf (M := 102) (by decide +kernel) (by decide +kernel) (gB_49 pc e h) h
theorem gB_50 (pc : Nat) (e : gE) (h : gT_50 pc = some e) : pc < 26 := by
  unfold gT_50 at h
  cases hb : Nat.ble pc 25 with
  | true => exact Nat.lt_succ_of_le (Nat.le_of_ble_eq_true hb)
  | false => rw [hb] at h; exact absurd h (by simp)
theorem gO_50 : ∀ pc e, gF 50 pc = some e → gChk 50 pc e = true := fun pc e h => gLeaf (M := 26) (by decide +kernel) (by decide +kernel) (gB_50 pc e h) h
theorem gB_51 (pc : Nat) (e : gE) (h : gT_51 pc = some e) : pc < 20 := by
  unfold gT_51 at h
  cases hb : Nat.ble pc 19 with
  | true => exact Nat.lt_succ_of_le (Nat.le_of_ble_eq_true hb)
  | false => rw [hb] at h; exact absurd h (by simp)
theorem gO_51 : ∀ pc e, gF 51 pc = some e → gChk 51 pc e = true := fun pc e h => gLeaf (M := 20) (by decide +kernel) (by decide +kernel) (gB_51 pc e h) h
theorem gB_52 (pc : Nat) (e : gE) (h : gT_52 pc = some e) : pc < 22 := by
  unfold gT_52 at h
  cases hb : Nat.ble pc 21 with
  | true => exact Nat.lt_succ_of_le (Nat.le_of_ble_eq_true hb)
  | false => rw [hb] at h; exact absurd h (by simp)
theorem gO_52 : ∀ pc e, gF 52 pc = some e → gChk 52 pc e = true := fun pc e h => gLeaf (M := 22) (by decide +kernel) (by decide +kernel) (gB_52 pc e h) h
theorem gB_53 (pc : Nat) (e : gE) (h : gT_53 pc = some e) : pc < 150 := by
  unfold gT_53 at h
  cases hb : Nat.ble pc 149 with
  | true => exact Nat.lt_succ_of_le (Nat.le_of_ble_eq_true hb)
  | false => rw [hb] at h; exact absurd h (by simp)
theorem gO_53 : ∀ pc e, gF 53 pc = some e → gChk 53 pc e = true := fun pc e h => gLeaf (M := 150) (by decide +kernel) (by decide +kernel) (gB_53 pc e h) h
theorem gB_54 (pc : Nat) (e : gE) (h : gT_54 pc = some e) : pc < 30 := by
  unfold gT_54 at h
  cases hb : Nat.ble pc 29 with
  | true => exact Nat.lt_succ_of_le (Nat.le_of_ble_eq_true hb)
  | false => rw [hb] at h; exact absurd h (by simp)
theorem gO_54 : ∀ pc e, gF 54 pc = some e → gChk 54 pc e = true := fun pc e h => gLeaf (M := 30) (by decide +kernel) (by decide +kernel) (gB_54 pc e h) h
theorem gB_55 (pc : Nat) (e : gE) (h : gT_55 pc = some e) : pc < 10 := by
  unfold gT_55 at h
  cases hb : Nat.ble pc 9 with
  | true => exact Nat.lt_succ_of_le (Nat.le_of_ble_eq_true hb)
  | false => rw [hb] at h; exact absurd h (by simp)
theorem gO_55 : ∀ pc e, gF 55 pc = some e → gChk 55 pc e = true := fun pc e h => gLeaf (M := 10) (by decide +kernel) (by decide +kernel) (gB_55 pc e h) h
theorem gB_56 (pc : Nat) (e : gE) (h : gT_56 pc = some e) : pc < 122 := by
  unfold gT_56 at h
  cases hb : Nat.ble pc 121 with
  | true => exact Nat.lt_succ_of_le (Nat.le_of_ble_eq_true hb)
  | false => rw [hb] at h; exact absurd h (by simp)
theorem gO_56 : ∀ pc e, gF 56 pc = some e → gChk 56 pc e = true := fun pc e h => gLeaf (M := 122) (by decide +kernel) (by decide +kernel) (gB_56 pc e h) h
theorem gB_57 (pc : Nat) (e : gE) (h : gT_57 pc = some e) : pc < 51 := by
  unfold gT_57 at h
  cases hb : Nat.ble pc 50 with
  | true => exact Nat.lt_succ_of_le (Nat.le_of_ble_eq_true hb)
  | false => rw [hb] at h; exact absurd h (by simp)
theorem gO_57 : ∀ pc e, gF 57 pc = some e → gChk 57 pc e = true := fun pc e h => gLeaf (M := 51) (by decide +kernel) (by decide +kernel) (gB_57 pc e h) h
theorem gB_58 (pc : Nat) (e : gE) (h : gT_58 pc = some e) : pc < 71 := by
  unfold gT_58 at h
  cases hb : Nat.ble pc 70 with
  | true => exact Nat.lt_succ_of_le (Nat.le_of_ble_eq_true hb)
  | false => rw [hb] at h; exact absurd h (by simp)
theorem gO_58 : ∀ pc e, gF 58 pc = some e → gChk 58 pc e = true := fun pc e h => gLeaf (M := 71) (by decide +kernel) (by decide +kernel) (gB_58 pc e h) h
theorem gB_59 (pc : Nat) (e : gE) (h : gT_59 pc = some e) : pc < 19 := by
  unfold gT_59 at h
  cases hb : Nat.ble pc 18 with
  | true => exact Nat.lt_succ_of_le (Nat.le_of_ble_eq_true hb)
  | false => rw [hb] at h; exact absurd h (by simp)
theorem gO_59 : ∀ pc e, gF 59 pc = some e → gChk 59 pc e = true := fun pc e h => gLeaf (M := 19) (by decide +kernel) (by decide +kernel) (gB_59 pc e h) h
theorem gB_60 (pc : Nat) (e : gE) (h : gT_60 pc = some e) : pc < 18 := by
  unfold gT_60 at h
  cases hb : Nat.ble pc 17 with
  | true => exact Nat.lt_succ_of_le (Nat.le_of_ble_eq_true hb)
  | false => rw [hb] at h; exact absurd h (by simp)
theorem gO_60 : ∀ pc e, gF 60 pc = some e → gChk 60 pc e = true := fun pc e h => gLeaf (M := 18) (by decide +kernel) (by decide +kernel) (gB_60 pc e h) h
theorem gB_61 (pc : Nat) (e : gE) (h : gT_61 pc = some e) : pc < 15 := by
  unfold gT_61 at h
  cases hb : Nat.ble pc 14 with
  | true => exact Nat.lt_succ_of_le (Nat.le_of_ble_eq_true hb)
  | false => rw [hb] at h; exact absurd h (by simp)
theorem gO_61 : ∀ pc e, gF 61 pc = some e → gChk 61 pc e = true := fun pc e h => gLeaf (M := 15) (by decide +kernel) (by decide +kernel) (gB_61 pc e h) h
theorem gB_62 (pc : Nat) (e : gE) (h : gT_62 pc = some e) : pc < 13 := by
  unfold gT_62 at h
  cases hb : Nat.ble pc 12 with
  | true => exact Nat.lt_succ_of_le (Nat.le_of_ble_eq_true hb)
  | false => rw [hb] at h; exact absurd h (by simp)
theorem gO_62 : ∀ pc e, gF 62 pc = some e → gChk 62 pc e = true := fun pc e h => gLeaf (M := 13) (by decide +kernel) (by decide +kernel) (gB_62 pc e h) h
theorem gB_63 (pc : Nat) (e : gE) (h : gT_63 pc = some e) : pc < 14 := by
  unfold gT_63 at h
  cases hb : Nat.ble pc 13 with
  | true => exact Nat.lt_succ_of_le (Nat.le_of_ble_eq_true hb)
  | false => rw [hb] at h; exact absurd h (by simp)
theorem gO_63 : ∀ pc e, gF 63 pc = some e → gChk 63 pc e = true := fun pc e h => gLeaf (M := 14) (by decide +kernel) (by decide +kernel) (gB_63 pc e h) h
theorem gB_64 (pc : Nat) (e : gE) (h : gT_64 pc = some e) : pc < 21 := by
  unfold gT_64 at h
  cases hb : Nat.ble pc 20 with
  | true => exact Nat.lt_succ_of_le (Nat.le_of_ble_eq_true hb)
  | false => rw [hb] at h; exact absurd h (by simp)
theorem gO_64 : ∀ pc e, gF 64 pc = some e → gChk 64 pc e = true := fun pc e h => gLeaf (M := 21) (by decide +kernel) (by decide +kernel) (gB_64 pc e h) h
theorem gB_65 (pc : Nat) (e : gE) (h : gT_65 pc = some e) : pc < 33 := by
  unfold gT_65 at h
  cases hb : Nat.ble pc 32 with
  | true => exact Nat.lt_succ_of_le (Nat.le_of_ble_eq_true hb)
  | false => rw [hb] at h; exact absurd h (by simp)
theorem gO_65 : ∀ pc e, gF 65 pc = some e → gChk 65 pc e = true := fun pc e h => gLeaf (M := 33) (by decide +kernel) (by decide +kernel) (gB_65 pc e h) h
theorem gB_66 (pc : Nat) (e : gE) (h : gT_66 pc = some e) : pc < 11 := by
  unfold gT_66 at h
  cases hb : Nat.ble pc 10 with
  | true => exact Nat.lt_succ_of_le (Nat.le_of_ble_eq_true hb)
  | false => rw [hb] at h; exact absurd h (by simp)
theorem gO_66 : ∀ pc e, gF 66 pc = some e → gChk 66 pc e = true := fun pc e h => gLeaf (M := 11) (by decide +kernel) (by decide +kernel) (gB_66 pc e h) h
theorem gB_67 (pc : Nat) (e : gE) (h : gT_67 pc = some e) : pc < 16 := by
  unfold gT_67 at h
  cases hb : Nat.ble pc 15 with
  | true => exact Nat.lt_succ_of_le (Nat.le_of_ble_eq_true hb)
  | false => rw [hb] at h; exact absurd h (by simp)
theorem gO_67 : ∀ pc e, gF 67 pc = some e → gChk 67 pc e = true := fun pc e h => gLeaf (M := 16) (by decide +kernel) (by decide +kernel) (gB_67 pc e h) h
theorem gB_68 (pc : Nat) (e : gE) (h : gT_68 pc = some e) : pc < 37 := by
  unfold gT_68 at h
  cases hb : Nat.ble pc 36 with
  | true => exact Nat.lt_succ_of_le (Nat.le_of_ble_eq_true hb)
  | false => rw [hb] at h; exact absurd h (by simp)
theorem gO_68 : ∀ pc e, gF 68 pc = some e → gChk 68 pc e = true := fun pc e h => gLeaf (M := 37) (by decide +kernel) (by decide +kernel) (gB_68 pc e h) h
theorem gB_69 (pc : Nat) (e : gE) (h : gT_69 pc = some e) : pc < 24 := by
  unfold gT_69 at h
  cases hb : Nat.ble pc 23 with
  | true => exact Nat.lt_succ_of_le (Nat.le_of_ble_eq_true hb)
  | false => rw [hb] at h; exact absurd h (by simp)
theorem gO_69 : ∀ pc e, gF 69 pc = some e → gChk 69 pc e = true := fun pc e h => gLeaf (M := 24) (by decide +kernel) (by decide +kernel) (gB_69 pc e h) h
theorem gB_70 (pc : Nat) (e : gE) (h : gT_70 pc = some e) : pc < 40 := by
  unfold gT_70 at h
  cases hb : Nat.ble pc 39 with
  | true => exact Nat.lt_succ_of_le (Nat.le_of_ble_eq_true hb)
  | false => rw [hb] at h; exact absurd h (by simp)
theorem gO_70 : ∀ pc e, gF 70 pc = some e → gChk 70 pc e = true := fun pc e h => gLeaf (M := 40) (by decide +kernel) (by decide +kernel) (gB_70 pc e h) h
theorem gB_71 (pc : Nat) (e : gE) (h : gT_71 pc = some e) : pc < 24 := by
  unfold gT_71 at h
  cases hb : Nat.ble pc 23 with
  | true => exact Nat.lt_succ_of_le (Nat.le_of_ble_eq_true hb)
  | false => rw [hb] at h; exact absurd h (by simp)
theorem gO_71 : ∀ pc e, gF 71 pc = some e → gChk 71 pc e = true := fun pc e h => gLeaf (M := 24) (by decide +kernel) (by decide +kernel) (gB_71 pc e h) h
theorem gB_72 (pc : Nat) (e : gE) (h : gT_72 pc = some e) : pc < 23 := by
  unfold gT_72 at h
  cases hb : Nat.ble pc 22 with
  | true => exact Nat.lt_succ_of_le (Nat.le_of_ble_eq_true hb)
  | false => rw [hb] at h; exact absurd h (by simp)
theorem gO_72 : ∀ pc e, gF 72 pc = some e → gChk 72 pc e = true := fun pc e h => gLeaf (M := 23) (by decide +kernel) (by decide +kernel) (gB_72 pc e h) h
theorem gB_73 (pc : Nat) (e : gE) (h : gT_73 pc = some e) : pc < 24 := by
  unfold gT_73 at h
  cases hb : Nat.ble pc 23 with
  | true => exact Nat.lt_succ_of_le (Nat.le_of_ble_eq_true hb)
  | false => rw [hb] at h; exact absurd h (by simp)
theorem gO_73 : ∀ pc e, gF 73 pc = some e → gChk 73 pc e = true := fun pc e h => gLeaf (M := 24) (by decide +kernel) (by decide +kernel) (gB_73 pc e h) h
theorem gB_74 (pc : Nat) (e : gE) (h : gT_74 pc = some e) : pc < 68 := by
  unfold gT_74 at h
  cases hb : Nat.ble pc 67 with
  | true => exact Nat.lt_succ_of_le (Nat.le_of_ble_eq_true hb)
  | false => rw [hb] at h; exact absurd h (by simp)
theorem gO_74 : ∀ pc e, gF 74 pc = some e → gChk 74 pc e = true := fun pc e h => gLeaf (M := 68) (by decide +kernel) (by decide +kernel) (gB_74 pc e h) h
theorem gB_75 (pc : Nat) (e : gE) (h : gT_75 pc = some e) : pc < 37 := by
  unfold gT_75 at h
  cases hb : Nat.ble pc 36 with
  | true => exact Nat.lt_succ_of_le (Nat.le_of_ble_eq_true hb)
  | false => rw [hb] at h; exact absurd h (by simp)
theorem gO_75 : ∀ pc e, gF 75 pc = some e → gChk 75 pc e = true := fun pc e h => gLeaf (M := 37) (by decide +kernel) (by decide +kernel) (gB_75 pc e h) h
theorem gB_76 (pc : Nat) (e : gE) (h : gT_76 pc = some e) : pc < 66 := by
  unfold gT_76 at h
  cases hb : Nat.ble pc 65 with
  | true => exact Nat.lt_succ_of_le (Nat.le_of_ble_eq_true hb)
  | false => rw [hb] at h; exact absurd h (by simp)
theorem gO_76 : ∀ pc e, gF 76 pc = some e → gChk 76 pc e = true := fun pc e h => gLeaf (M := 66) (by decide +kernel) (by decide +kernel) (gB_76 pc e h) h
theorem gB_77 (pc : Nat) (e : gE) (h : gT_77 pc = some e) : pc < 6 := by
  unfold gT_77 at h
  cases hb : Nat.ble pc 5 with
  | true => exact Nat.lt_succ_of_le (Nat.le_of_ble_eq_true hb)
  | false => rw [hb] at h; exact absurd h (by simp)
theorem gO_77 : ∀ pc e, gF 77 pc = some e → gChk 77 pc e = true := fun pc e h => gLeaf (M := 6) (by decide +kernel) (by decide +kernel) (gB_77 pc e h) h
theorem gB_78 (pc : Nat) (e : gE) (h : gT_78 pc = some e) : pc < 64 := by
  unfold gT_78 at h
  cases hb : Nat.ble pc 63 with
  | true => exact Nat.lt_succ_of_le (Nat.le_of_ble_eq_true hb)
  | false => rw [hb] at h; exact absurd h (by simp)
theorem gO_78 : ∀ pc e, gF 78 pc = some e → gChk 78 pc e = true := fun pc e h => gLeaf (M := 64) (by decide +kernel) (by decide +kernel) (gB_78 pc e h) h
theorem gB_79 (pc : Nat) (e : gE) (h : gT_79 pc = some e) : pc < 88 := by
  unfold gT_79 at h
  cases hb : Nat.ble pc 87 with
  | true => exact Nat.lt_succ_of_le (Nat.le_of_ble_eq_true hb)
  | false => rw [hb] at h; exact absurd h (by simp)
theorem gO_79 : ∀ pc e, gF 79 pc = some e → gChk 79 pc e = true := fun pc e h => gLeaf (M := 88) (by decide +kernel) (by decide +kernel) (gB_79 pc e h) h
theorem gB_80 (pc : Nat) (e : gE) (h : gT_80 pc = some e) : pc < 252 := by
  unfold gT_80 at h
  cases hb : Nat.ble pc 251 with
  | true => exact Nat.lt_succ_of_le (Nat.le_of_ble_eq_true hb)
  | false => rw [hb] at h; exact absurd h (by simp)
theorem gO_80 : ∀ pc e, gF 80 pc = some e → gChk 80 pc e = true := fun pc e h => gLeaf (M := 252) (by decide +kernel) (by decide +kernel) (gB_80 pc e h) h
theorem gB_81 (pc : Nat) (e : gE) (h : gT_81 pc = some e) : pc < 40 := by
  unfold gT_81 at h
  cases hb : Nat.ble pc 39 with
  | true => exact Nat.lt_succ_of_le (Nat.le_of_ble_eq_true hb)
  | false => rw [hb] at h; exact absurd h (by simp)
theorem gO_81 : ∀ pc e, gF 81 pc = some e → gChk 81 pc e = true := fun pc e h => gLeaf (M := 40) (by decide +kernel) (by decide +kernel) (gB_81 pc e h) h
theorem gB_82 (pc : Nat) (e : gE) (h : gT_82 pc = some e) : pc < 33 := by
  unfold gT_82 at h
  cases hb : Nat.ble pc 32 with
  | true => exact Nat.lt_succ_of_le (Nat.le_of_ble_eq_true hb)
  | false => rw [hb] at h; exact absurd h (by simp)
theorem gO_82 : ∀ pc e, gF 82 pc = some e → gChk 82 pc e = true := fun pc e h => gLeaf (M := 33) (by decide +kernel) (by decide +kernel) (gB_82 pc e h) h
theorem gB_83 (pc : Nat) (e : gE) (h : gT_83 pc = some e) : pc < 86 := by
  unfold gT_83 at h
  cases hb : Nat.ble pc 85 with
  | true => exact Nat.lt_succ_of_le (Nat.le_of_ble_eq_true hb)
  | false => rw [hb] at h; exact absurd h (by simp)
theorem gO_83 : ∀ pc e, gF 83 pc = some e → gChk 83 pc e = true := fun pc e h => gLeaf (M := 86) (by decide +kernel) (by decide +kernel) (gB_83 pc e h) h
theorem gB_84 (pc : Nat) (e : gE) (h : gT_84 pc = some e) : pc < 88 := by
  unfold gT_84 at h
  cases hb : Nat.ble pc 87 with
  | true => exact Nat.lt_succ_of_le (Nat.le_of_ble_eq_true hb)
  | false => rw [hb] at h; exact absurd h (by simp)
theorem gO_84 : ∀ pc e, gF 84 pc = some e → gChk 84 pc e = true := fun pc e h => gLeaf (M := 88) (by decide +kernel) (by decide +kernel) (gB_84 pc e h) h
theorem gB_85 (pc : Nat) (e : gE) (h : gT_85 pc = some e) : pc < 46 := by
  unfold gT_85 at h
  cases hb : Nat.ble pc 45 with
  | true => exact Nat.lt_succ_of_le (Nat.le_of_ble_eq_true hb)
  | false => rw [hb] at h; exact absurd h (by simp)
theorem gO_85 : ∀ pc e, gF 85 pc = some e → gChk 85 pc e = true := fun pc e h => gLeaf (M := 46) (by decide +kernel) (by decide +kernel) (gB_85 pc e h) h
theorem gB_86 (pc : Nat) (e : gE) (h : gT_86 pc = some e) : pc < 34 := by
  unfold gT_86 at h
  cases hb : Nat.ble pc 33 with
  | true => exact Nat.lt_succ_of_le (Nat.le_of_ble_eq_true hb)
  | false => rw [hb] at h; exact absurd h (by simp)
theorem gO_86 : ∀ pc e, gF 86 pc = some e → gChk 86 pc e = true := fun pc e h => gLeaf (M := 34) (by decide +kernel) (by decide +kernel) (gB_86 pc e h) h
theorem gB_87 (pc : Nat) (e : gE) (h : gT_87 pc = some e) : pc < 18 := by
  unfold gT_87 at h
  cases hb : Nat.ble pc 17 with
  | true => exact Nat.lt_succ_of_le (Nat.le_of_ble_eq_true hb)
  | false => rw [hb] at h; exact absurd h (by simp)
theorem gO_87 : ∀ pc e, gF 87 pc = some e → gChk 87 pc e = true := fun pc e h => gLeaf (M := 18) (by decide +kernel) (by decide +kernel) (gB_87 pc e h) h
theorem gB_88 (pc : Nat) (e : gE) (h : gT_88 pc = some e) : pc < 15 := by
  unfold gT_88 at h
  cases hb : Nat.ble pc 14 with
  | true => exact Nat.lt_succ_of_le (Nat.le_of_ble_eq_true hb)
  | false => rw [hb] at h; exact absurd h (by simp)
theorem gO_88 : ∀ pc e, gF 88 pc = some e → gChk 88 pc e = true := fun pc e h => gLeaf (M := 15) (by decide +kernel) (by decide +kernel) (gB_88 pc e h) h
theorem gB_89 (pc : Nat) (e : gE) (h : gT_89 pc = some e) : pc < 48 := by
  unfold gT_89 at h
  cases hb : Nat.ble pc 47 with
  | true => exact Nat.lt_succ_of_le (Nat.le_of_ble_eq_true hb)
  | false => rw [hb] at h; exact absurd h (by simp)
theorem gO_89 : ∀ pc e, gF 89 pc = some e → gChk 89 pc e = true := fun pc e h => gLeaf (M := 48) (by decide +kernel) (by decide +kernel) (gB_89 pc e h) h
theorem gB_90 (pc : Nat) (e : gE) (h : gT_90 pc = some e) : pc < 22 := by
  unfold gT_90 at h
  cases hb : Nat.ble pc 21 with
  | true => exact Nat.lt_succ_of_le (Nat.le_of_ble_eq_true hb)
  | false => rw [hb] at h; exact absurd h (by simp)
theorem gO_90 : ∀ pc e, gF 90 pc = some e → gChk 90 pc e = true := fun pc e h => gLeaf (M := 22) (by decide +kernel) (by decide +kernel) (gB_90 pc e h) h
theorem gB_91 (pc : Nat) (e : gE) (h : gT_91 pc = some e) : pc < 22 := by
  unfold gT_91 at h
  cases hb : Nat.ble pc 21 with
  | true => exact Nat.lt_succ_of_le (Nat.le_of_ble_eq_true hb)
  | false => rw [hb] at h; exact absurd h (by simp)
theorem gO_91 : ∀ pc e, gF 91 pc = some e → gChk 91 pc e = true := fun pc e h => gLeaf (M := 22) (by decide +kernel) (by decide +kernel) (gB_91 pc e h) h
theorem gB_92 (pc : Nat) (e : gE) (h : gT_92 pc = some e) : pc < 67 := by
  unfold gT_92 at h
  cases hb : Nat.ble pc 66 with
  | true => exact Nat.lt_succ_of_le (Nat.le_of_ble_eq_true hb)
  | false => rw [hb] at h; exact absurd h (by simp)
theorem gO_92 : ∀ pc e, gF 92 pc = some e → gChk 92 pc e = true := fun pc e h => gLeaf (M := 67) (by decide +kernel) (by decide +kernel) (gB_92 pc e h) h
theorem gB_93 (pc : Nat) (e : gE) (h : gT_93 pc = some e) : pc < 24 := by
  unfold gT_93 at h
  cases hb : Nat.ble pc 23 with
  | true => exact Nat.lt_succ_of_le (Nat.le_of_ble_eq_true hb)
  | false => rw [hb] at h; exact absurd h (by simp)
theorem gO_93 : ∀ pc e, gF 93 pc = some e → gChk 93 pc e = true := fun pc e h => gLeaf (M := 24) (by decide +kernel) (by decide +kernel) (gB_93 pc e h) h
theorem gB_94 (pc : Nat) (e : gE) (h : gT_94 pc = some e) : pc < 49 := by
  unfold gT_94 at h
  cases hb : Nat.ble pc 48 with
  | true => exact Nat.lt_succ_of_le (Nat.le_of_ble_eq_true hb)
  | false => rw [hb] at h; exact absurd h (by simp)
theorem gO_94 : ∀ pc e, gF 94 pc = some e → gChk 94 pc e = true := fun pc e h => gLeaf (M := 49) (by decide +kernel) (by decide +kernel) (gB_94 pc e h) h
theorem gB_95 (pc : Nat) (e : gE) (h : gT_95 pc = some e) : pc < 34 := by
  unfold gT_95 at h
  cases hb : Nat.ble pc 33 with
  | true => exact Nat.lt_succ_of_le (Nat.le_of_ble_eq_true hb)
  | false => rw [hb] at h; exact absurd h (by simp)
theorem gO_95 : ∀ pc e, gF 95 pc = some e → gChk 95 pc e = true := fun pc e h => gLeaf (M := 34) (by decide +kernel) (by decide +kernel) (gB_95 pc e h) h
theorem gB_96 (pc : Nat) (e : gE) (h : gT_96 pc = some e) : pc < 25 := by
  unfold gT_96 at h
  cases hb : Nat.ble pc 24 with
  | true => exact Nat.lt_succ_of_le (Nat.le_of_ble_eq_true hb)
  | false => rw [hb] at h; exact absurd h (by simp)
theorem gO_96 : ∀ pc e, gF 96 pc = some e → gChk 96 pc e = true := fun pc e h => gLeaf (M := 25) (by decide +kernel) (by decide +kernel) (gB_96 pc e h) h
theorem gB_97 (pc : Nat) (e : gE) (h : gT_97 pc = some e) : pc < 25 := by
  unfold gT_97 at h
  cases hb : Nat.ble pc 24 with
  | true => exact Nat.lt_succ_of_le (Nat.le_of_ble_eq_true hb)
  | false => rw [hb] at h; exact absurd h (by simp)
theorem gO_97 : ∀ pc e, gF 97 pc = some e → gChk 97 pc e = true := fun pc e h => gLeaf (M := 25) (by decide +kernel) (by decide +kernel) (gB_97 pc e h) h
theorem gB_98 (pc : Nat) (e : gE) (h : gT_98 pc = some e) : pc < 53 := by
  unfold gT_98 at h
  cases hb : Nat.ble pc 52 with
  | true => exact Nat.lt_succ_of_le (Nat.le_of_ble_eq_true hb)
  | false => rw [hb] at h; exact absurd h (by simp)
theorem gO_98 : ∀ pc e, gF 98 pc = some e → gChk 98 pc e = true := fun pc e h => gLeaf (M := 53) (by decide +kernel) (by decide +kernel) (gB_98 pc e h) h
