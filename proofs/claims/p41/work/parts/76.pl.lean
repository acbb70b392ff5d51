/-- a place more -/
noncomputable def aN (N : Int → Int → Int) (n x y o : Int) : Int → Int → Int := fun p w => if p = n ∧ 0 ≤ w ∧ w < 5 then (if w = 0 then x else if w = 1 then y else if w = 2 then o else if w = 3 then 5 else 0) else N p w
theorem w5 {w : Int} (h : 0 ≤ w ∧ w < 5) : w = 0 ∨ w = 1 ∨ w = 2 ∨ w = 3 ∨ w = 4 := by omega
theorem cN_add {J : zA} {n x y o : Int} (hz : J 8 2 = n) (hn : 0 ≤ n ∧ n < 8) : cN (zU (zU (zU (zU (zU (zU J 8 2 (n + 1)) 9 (n * 5 + 0) x) 9 (n * 5 + 1) y) 9 (n * 5 + 2) o) 9 (n * 5 + 3) 5) 9 (n * 5 + 4) 0) = aN (cN J) n x y o := by
  funext p w
  have e9 : ∀ i, (zU (zU (zU (zU (zU (zU J 8 2 (n + 1)) 9 (n * 5 + 0) x) 9 (n * 5 + 1) y) 9 (n * 5 + 2) o) 9 (n * 5 + 3) 5) 9 (n * 5 + 4) 0) 9 i = if i = n * 5 + 4 then 0 else if i = n * 5 + 3 then 5 else if i = n * 5 + 2 then o else if i = n * 5 + 1 then y else if i = n * 5 + 0 then x else J 9 i := fun i => rfl
  have e8 : (zU (zU (zU (zU (zU (zU J 8 2 (n + 1)) 9 (n * 5 + 0) x) 9 (n * 5 + 1) y) 9 (n * 5 + 2) o) 9 (n * 5 + 3) 5) 9 (n * 5 + 4) 0) 8 2 = n + 1 := rfl
  have hC : cN J p w = if 0 ≤ w ∧ w < 5 ∧ 0 ≤ p ∧ p < n then J 9 (p * 5 + w) else if 5 ≤ w ∧ w < 14 ∧ p = 0 then J 9 (40 + w) else 0 := by rw [← hz]; rfl
  show (if 0 ≤ w ∧ w < 5 ∧ 0 ≤ p ∧ p < (zU (zU (zU (zU (zU (zU J 8 2 (n + 1)) 9 (n * 5 + 0) x) 9 (n * 5 + 1) y) 9 (n * 5 + 2) o) 9 (n * 5 + 3) 5) 9 (n * 5 + 4) 0) 8 2 then (zU (zU (zU (zU (zU (zU J 8 2 (n + 1)) 9 (n * 5 + 0) x) 9 (n * 5 + 1) y) 9 (n * 5 + 2) o) 9 (n * 5 + 3) 5) 9 (n * 5 + 4) 0) 9 (p * 5 + w) else if 5 ≤ w ∧ w < 14 ∧ p = 0 then (zU (zU (zU (zU (zU (zU J 8 2 (n + 1)) 9 (n * 5 + 0) x) 9 (n * 5 + 1) y) 9 (n * 5 + 2) o) 9 (n * 5 + 3) 5) 9 (n * 5 + 4) 0) 9 (40 + w) else 0) = (if p = n ∧ 0 ≤ w ∧ w < 5 then (if w = 0 then x else if w = 1 then y else if w = 2 then o else if w = 3 then 5 else 0) else cN J p w)
  rw [e8, e9, e9, hC]
  by_cases c : p = n ∧ 0 ≤ w ∧ w < 5
  · obtain ⟨c1, c2⟩ := c
    rw [if_pos (show 0 ≤ w ∧ w < 5 ∧ 0 ≤ p ∧ p < n + 1 by omega), if_pos (show p = n ∧ 0 ≤ w ∧ w < 5 from ⟨c1, c2⟩)]
    rcases w5 c2 with rfl | rfl | rfl | rfl | rfl <;> (repeat' split) <;> first | rfl | (exfalso; omega)
  · rw [if_neg c]
    by_cases d : 0 ≤ w ∧ w < 5 ∧ 0 ≤ p ∧ p < n
    · rw [if_pos (show 0 ≤ w ∧ w < 5 ∧ 0 ≤ p ∧ p < n + 1 by omega), if_pos d, if_neg (by omega), if_neg (by omega), if_neg (by omega), if_neg (by omega), if_neg (by omega)]
    · rw [if_neg (show ¬ (0 ≤ w ∧ w < 5 ∧ 0 ≤ p ∧ p < n + 1) by omega), if_neg d]
      by_cases g : 5 ≤ w ∧ w < 14 ∧ p = 0
      · rw [if_pos g, if_pos g, if_neg (by omega), if_neg (by omega), if_neg (by omega), if_neg (by omega), if_neg (by omega)]
      · rw [if_neg g, if_neg g]
theorem rN_add {J : zA} {n x y o : Int} (hz : J 50 1 = n) (hn : 0 ≤ n ∧ n < 8) : rN (zU (zU (zU (zU (zU (zU J 51 n x) 52 n y) 53 n o) 54 n 5) 55 n 0) 50 1 (n + 1)) = aN (rN J) n x y o := by
  funext p w
  have e1 : (zU (zU (zU (zU (zU (zU J 51 n x) 52 n y) 53 n o) 54 n 5) 55 n 0) 50 1 (n + 1)) 50 1 = n + 1 := rfl
  have e56 : ∀ i, (zU (zU (zU (zU (zU (zU J 51 n x) 52 n y) 53 n o) 54 n 5) 55 n 0) 50 1 (n + 1)) 56 i = J 56 i := fun i => rfl
  have hC : rN J p w = if 0 ≤ w ∧ w < 5 ∧ 0 ≤ p ∧ p < n then J (51 + w.toNat) p else if 5 ≤ w ∧ w < 14 ∧ p = 0 then J 56 (w - 5) else 0 := by rw [← hz]; rfl
  show (if 0 ≤ w ∧ w < 5 ∧ 0 ≤ p ∧ p < (zU (zU (zU (zU (zU (zU J 51 n x) 52 n y) 53 n o) 54 n 5) 55 n 0) 50 1 (n + 1)) 50 1 then (zU (zU (zU (zU (zU (zU J 51 n x) 52 n y) 53 n o) 54 n 5) 55 n 0) 50 1 (n + 1)) (51 + w.toNat) p else if 5 ≤ w ∧ w < 14 ∧ p = 0 then (zU (zU (zU (zU (zU (zU J 51 n x) 52 n y) 53 n o) 54 n 5) 55 n 0) 50 1 (n + 1)) 56 (w - 5) else 0) = (if p = n ∧ 0 ≤ w ∧ w < 5 then (if w = 0 then x else if w = 1 then y else if w = 2 then o else if w = 3 then 5 else 0) else rN J p w)
  rw [e1, e56, hC]
  by_cases c2 : 0 ≤ w ∧ w < 5
  · have e5 : (zU (zU (zU (zU (zU (zU J 51 n x) 52 n y) 53 n o) 54 n 5) 55 n 0) 50 1 (n + 1)) (51 + w.toNat) p = if p = n then (if w = 0 then x else if w = 1 then y else if w = 2 then o else if w = 3 then 5 else 0) else J (51 + w.toNat) p := by
      rcases w5 c2 with rfl | rfl | rfl | rfl | rfl <;> rfl
    rw [e5]
    (repeat' split) <;> first | rfl | (exfalso; omega)
  · (repeat' split) <;> first | rfl | (exfalso; omega)
theorem zNr_add {n : Int} {N : Int → Int → Int} {x y o : Int} (h : zNr n N) (hn : n < 8) (hx : 0 ≤ x ∧ x ≤ 99) (hy : 0 ≤ y ∧ y ≤ 99) (ho : 0 ≤ o ∧ o ≤ 99) : zNr (n + 1) (aN N n x y o) := by
  have a : ∀ p w, (0 ≤ w ∧ w < 5) → aN N n x y o p w = if p = n then (if w = 0 then x else if w = 1 then y else if w = 2 then o else if w = 3 then 5 else 0) else N p w := fun p w hw => by
    unfold aN
    by_cases e : p = n
    · rw [if_pos ⟨e, hw⟩, if_pos e]
    · rw [if_neg (by omega), if_neg e]
  have b : ∀ w, 5 ≤ w → aN N n x y o 0 w = N 0 w := fun w hw => by unfold aN; rw [if_neg (by omega)]
  have q := zNn h
  refine ⟨fun p => ?_, fun p => ?_, fun p => ?_, fun p => ?_, fun p => ?_, ?_, ?_, ?_, ?_, ?_, ?_, ?_, ?_, ?_, by omega⟩
  · rw [a p 0 (by omega)]; split; exact hx; exact zN0 h p
  · rw [a p 1 (by omega)]; split; exact hy; exact zN1 h p
  · rw [a p 2 (by omega)]; split; exact ho; exact zN2 h p
  · rw [a p 3 (by omega)]; split; (show (0 : Int) ≤ 5 ∧ (5 : Int) ≤ 9; decide); exact zN3 h p
  · rw [a p 4 (by omega)]; split; (show (0 : Int) ≤ 0 ∧ (0 : Int) ≤ 9; decide); exact zN4 h p
  · rw [b 5 (by omega)]; exact zN5 h
  · rw [b 6 (by omega)]; exact zN6 h
  · rw [b 7 (by omega)]; exact zN7 h
  · rw [b 8 (by omega)]; exact zN8 h
  · rw [b 9 (by omega)]; exact zN9 h
  · rw [b 10 (by omega)]; exact zN10 h
  · rw [b 11 (by omega)]; exact zN11 h
  · rw [b 12 (by omega)]; exact zN12 h
  · rw [b 13 (by omega)]; exact zN13 h
