theorem RelD_add {J : zA} {x y o : Int} (h : RelD J) (hn : J 8 2 < 8) : RelD (zU (zU (zU (zU (zU (zU (zU (zU (zU (zU (zU (zU (zU (zU J 8 2 (J 8 2 + 1)) 9 (J 8 2 * 5 + 0) x) 9 (J 8 2 * 5 + 1) y) 9 (J 8 2 * 5 + 2) o) 9 (J 8 2 * 5 + 3) 5) 9 (J 8 2 * 5 + 4) 0) 51 (J 8 2) x) 52 (J 8 2) y) 53 (J 8 2) o) 54 (J 8 2) 5) 55 (J 8 2) 0) 75 (J 8 2) 0) 76 (J 8 2) 0) 50 1 (J 8 2 + 1)) := by
  obtain ⟨a, b, c, e, f, g⟩ := h
  have e75 : ∀ p, (zU (zU (zU (zU (zU (zU (zU (zU (zU (zU (zU (zU (zU (zU J 8 2 (J 8 2 + 1)) 9 (J 8 2 * 5 + 0) x) 9 (J 8 2 * 5 + 1) y) 9 (J 8 2 * 5 + 2) o) 9 (J 8 2 * 5 + 3) 5) 9 (J 8 2 * 5 + 4) 0) 51 (J 8 2) x) 52 (J 8 2) y) 53 (J 8 2) o) 54 (J 8 2) 5) 55 (J 8 2) 0) 75 (J 8 2) 0) 76 (J 8 2) 0) 50 1 (J 8 2 + 1)) 75 p = if p = J 8 2 then 0 else J 75 p := fun p => rfl
  have e76 : ∀ p, (zU (zU (zU (zU (zU (zU (zU (zU (zU (zU (zU (zU (zU (zU J 8 2 (J 8 2 + 1)) 9 (J 8 2 * 5 + 0) x) 9 (J 8 2 * 5 + 1) y) 9 (J 8 2 * 5 + 2) o) 9 (J 8 2 * 5 + 3) 5) 9 (J 8 2 * 5 + 4) 0) 51 (J 8 2) x) 52 (J 8 2) y) 53 (J 8 2) o) 54 (J 8 2) 5) 55 (J 8 2) 0) 75 (J 8 2) 0) 76 (J 8 2) 0) 50 1 (J 8 2 + 1)) 76 p = if p = J 8 2 then 0 else J 76 p := fun p => rfl
  refine ⟨a, b, (show -1 ≤ J 23 4 ∧ J 23 4 < J 8 2 + 1 by omega), fun p p1 p2 => ?_, fun p p1 p2 => ?_, g⟩
  · have p3 : p < J 8 2 + 1 := p2
    show J 24 p = (zU (zU (zU (zU (zU (zU (zU (zU (zU (zU (zU (zU (zU (zU J 8 2 (J 8 2 + 1)) 9 (J 8 2 * 5 + 0) x) 9 (J 8 2 * 5 + 1) y) 9 (J 8 2 * 5 + 2) o) 9 (J 8 2 * 5 + 3) 5) 9 (J 8 2 * 5 + 4) 0) 51 (J 8 2) x) 52 (J 8 2) y) 53 (J 8 2) o) 54 (J 8 2) 5) 55 (J 8 2) 0) 75 (J 8 2) 0) 76 (J 8 2) 0) 50 1 (J 8 2 + 1)) 75 p ∧ J 25 p = (zU (zU (zU (zU (zU (zU (zU (zU (zU (zU (zU (zU (zU (zU J 8 2 (J 8 2 + 1)) 9 (J 8 2 * 5 + 0) x) 9 (J 8 2 * 5 + 1) y) 9 (J 8 2 * 5 + 2) o) 9 (J 8 2 * 5 + 3) 5) 9 (J 8 2 * 5 + 4) 0) 51 (J 8 2) x) 52 (J 8 2) y) 53 (J 8 2) o) 54 (J 8 2) 5) 55 (J 8 2) 0) 75 (J 8 2) 0) 76 (J 8 2) 0) 50 1 (J 8 2 + 1)) 76 p
    rw [e75, e76]
    by_cases q : p = J 8 2
    · rw [if_pos q, if_pos q]
      exact f p (by omega) (by omega)
    · rw [if_neg q, if_neg q]
      exact e p p1 (by omega)
  · have p3 : J 8 2 + 1 ≤ p := p1
    exact f p (by omega) p2
theorem RelP_add {J : zA} {x y o : Int} (h : RelP J) : RelP (zU (zU (zU (zU (zU (zU (zU (zU (zU (zU (zU (zU (zU (zU J 8 2 (J 8 2 + 1)) 9 (J 8 2 * 5 + 0) x) 9 (J 8 2 * 5 + 1) y) 9 (J 8 2 * 5 + 2) o) 9 (J 8 2 * 5 + 3) 5) 9 (J 8 2 * 5 + 4) 0) 51 (J 8 2) x) 52 (J 8 2) y) 53 (J 8 2) o) 54 (J 8 2) 5) 55 (J 8 2) 0) 75 (J 8 2) 0) 76 (J 8 2) 0) 50 1 (J 8 2 + 1)) := by
  obtain ⟨a, b, c⟩ := h
  refine ⟨a, b, fun k => ?_⟩
  obtain ⟨c1, c2, c3, c4, c5, c6, c7⟩ := c k
  exact ⟨c1, c2, (show -1 ≤ J 26 4 ∧ J 26 4 < J 8 2 + 1 by omega), (show 0 ≤ J 50 48 ∧ J 50 48 ≤ J 8 2 + 1 by omega), c5, c6, c7⟩
theorem RelC_add {J : zA} {x y o : Int} (h : RelC J) : RelC (zU (zU (zU (zU (zU (zU (zU (zU (zU (zU (zU (zU (zU (zU J 8 2 (J 8 2 + 1)) 9 (J 8 2 * 5 + 0) x) 9 (J 8 2 * 5 + 1) y) 9 (J 8 2 * 5 + 2) o) 9 (J 8 2 * 5 + 3) 5) 9 (J 8 2 * 5 + 4) 0) 51 (J 8 2) x) 52 (J 8 2) y) 53 (J 8 2) o) 54 (J 8 2) 5) 55 (J 8 2) 0) 75 (J 8 2) 0) 76 (J 8 2) 0) 50 1 (J 8 2 + 1)) := by
  obtain ⟨a, b, c, d, e, f⟩ := h
  refine ⟨a, b, c, d, e, fun i i1 i2 => ?_⟩
  obtain ⟨g, ⟨k, l⟩⟩ := f i i1 i2
  refine ⟨g, ?_, l⟩
  show (0 ≤ J 31 i ∧ J 31 i < 5 ∧ 0 ≤ J 30 i ∧ J 30 i < J 8 2 + 1) ∨ (5 ≤ J 31 i ∧ J 31 i < 14 ∧ J 30 i = 0)
  omega
theorem RelY_add {J : zA} {x y o : Int} (h : RelY J) (hn : J 8 2 < 8) (hx : 0 ≤ x ∧ x ≤ 99) (hy : 0 ≤ y ∧ y ≤ 99) (ho : 0 ≤ o ∧ o ≤ 99) : RelY (zU (zU (zU (zU (zU (zU (zU (zU (zU (zU (zU (zU (zU (zU J 8 2 (J 8 2 + 1)) 9 (J 8 2 * 5 + 0) x) 9 (J 8 2 * 5 + 1) y) 9 (J 8 2 * 5 + 2) o) 9 (J 8 2 * 5 + 3) 5) 9 (J 8 2 * 5 + 4) 0) 51 (J 8 2) x) 52 (J 8 2) y) 53 (J 8 2) o) 54 (J 8 2) 5) 55 (J 8 2) 0) 75 (J 8 2) 0) 76 (J 8 2) 0) 50 1 (J 8 2 + 1)) := by
  obtain ⟨a, b, c⟩ := h
  have q := zNn c
  have e1 : cN (zU (zU (zU (zU (zU (zU (zU (zU (zU (zU (zU (zU (zU (zU J 8 2 (J 8 2 + 1)) 9 (J 8 2 * 5 + 0) x) 9 (J 8 2 * 5 + 1) y) 9 (J 8 2 * 5 + 2) o) 9 (J 8 2 * 5 + 3) 5) 9 (J 8 2 * 5 + 4) 0) 51 (J 8 2) x) 52 (J 8 2) y) 53 (J 8 2) o) 54 (J 8 2) 5) 55 (J 8 2) 0) 75 (J 8 2) 0) 76 (J 8 2) 0) 50 1 (J 8 2 + 1)) = aN (cN J) (J 8 2) x y o := (show cN (zU (zU (zU (zU (zU (zU (zU (zU (zU (zU (zU (zU (zU (zU J 8 2 (J 8 2 + 1)) 9 (J 8 2 * 5 + 0) x) 9 (J 8 2 * 5 + 1) y) 9 (J 8 2 * 5 + 2) o) 9 (J 8 2 * 5 + 3) 5) 9 (J 8 2 * 5 + 4) 0) 51 (J 8 2) x) 52 (J 8 2) y) 53 (J 8 2) o) 54 (J 8 2) 5) 55 (J 8 2) 0) 75 (J 8 2) 0) 76 (J 8 2) 0) 50 1 (J 8 2 + 1)) = cN (zU (zU (zU (zU (zU (zU J 8 2 (J 8 2 + 1)) 9 (J 8 2 * 5 + 0) x) 9 (J 8 2 * 5 + 1) y) 9 (J 8 2 * 5 + 2) o) 9 (J 8 2 * 5 + 3) 5) 9 (J 8 2 * 5 + 4) 0) from rfl).trans (cN_add rfl (by omega))
  have e2 : rN (zU (zU (zU (zU (zU (zU (zU (zU (zU (zU (zU (zU (zU (zU J 8 2 (J 8 2 + 1)) 9 (J 8 2 * 5 + 0) x) 9 (J 8 2 * 5 + 1) y) 9 (J 8 2 * 5 + 2) o) 9 (J 8 2 * 5 + 3) 5) 9 (J 8 2 * 5 + 4) 0) 51 (J 8 2) x) 52 (J 8 2) y) 53 (J 8 2) o) 54 (J 8 2) 5) 55 (J 8 2) 0) 75 (J 8 2) 0) 76 (J 8 2) 0) 50 1 (J 8 2 + 1)) = aN (rN J) (J 8 2) x y o := by
    funext p w
    have f1 : (zU (zU (zU (zU (zU (zU (zU (zU (zU (zU (zU (zU (zU (zU J 8 2 (J 8 2 + 1)) 9 (J 8 2 * 5 + 0) x) 9 (J 8 2 * 5 + 1) y) 9 (J 8 2 * 5 + 2) o) 9 (J 8 2 * 5 + 3) 5) 9 (J 8 2 * 5 + 4) 0) 51 (J 8 2) x) 52 (J 8 2) y) 53 (J 8 2) o) 54 (J 8 2) 5) 55 (J 8 2) 0) 75 (J 8 2) 0) 76 (J 8 2) 0) 50 1 (J 8 2 + 1)) 50 1 = J 8 2 + 1 := rfl
    have f56 : ∀ i, (zU (zU (zU (zU (zU (zU (zU (zU (zU (zU (zU (zU (zU (zU J 8 2 (J 8 2 + 1)) 9 (J 8 2 * 5 + 0) x) 9 (J 8 2 * 5 + 1) y) 9 (J 8 2 * 5 + 2) o) 9 (J 8 2 * 5 + 3) 5) 9 (J 8 2 * 5 + 4) 0) 51 (J 8 2) x) 52 (J 8 2) y) 53 (J 8 2) o) 54 (J 8 2) 5) 55 (J 8 2) 0) 75 (J 8 2) 0) 76 (J 8 2) 0) 50 1 (J 8 2 + 1)) 56 i = J 56 i := fun i => rfl
    have hC : rN J p w = if 0 ≤ w ∧ w < 5 ∧ 0 ≤ p ∧ p < J 8 2 then J (51 + w.toNat) p else if 5 ≤ w ∧ w < 14 ∧ p = 0 then J 56 (w - 5) else 0 := by rw [b]; rfl
    show (if 0 ≤ w ∧ w < 5 ∧ 0 ≤ p ∧ p < (zU (zU (zU (zU (zU (zU (zU (zU (zU (zU (zU (zU (zU (zU J 8 2 (J 8 2 + 1)) 9 (J 8 2 * 5 + 0) x) 9 (J 8 2 * 5 + 1) y) 9 (J 8 2 * 5 + 2) o) 9 (J 8 2 * 5 + 3) 5) 9 (J 8 2 * 5 + 4) 0) 51 (J 8 2) x) 52 (J 8 2) y) 53 (J 8 2) o) 54 (J 8 2) 5) 55 (J 8 2) 0) 75 (J 8 2) 0) 76 (J 8 2) 0) 50 1 (J 8 2 + 1)) 50 1 then (zU (zU (zU (zU (zU (zU (zU (zU (zU (zU (zU (zU (zU (zU J 8 2 (J 8 2 + 1)) 9 (J 8 2 * 5 + 0) x) 9 (J 8 2 * 5 + 1) y) 9 (J 8 2 * 5 + 2) o) 9 (J 8 2 * 5 + 3) 5) 9 (J 8 2 * 5 + 4) 0) 51 (J 8 2) x) 52 (J 8 2) y) 53 (J 8 2) o) 54 (J 8 2) 5) 55 (J 8 2) 0) 75 (J 8 2) 0) 76 (J 8 2) 0) 50 1 (J 8 2 + 1)) (51 + w.toNat) p else if 5 ≤ w ∧ w < 14 ∧ p = 0 then (zU (zU (zU (zU (zU (zU (zU (zU (zU (zU (zU (zU (zU (zU J 8 2 (J 8 2 + 1)) 9 (J 8 2 * 5 + 0) x) 9 (J 8 2 * 5 + 1) y) 9 (J 8 2 * 5 + 2) o) 9 (J 8 2 * 5 + 3) 5) 9 (J 8 2 * 5 + 4) 0) 51 (J 8 2) x) 52 (J 8 2) y) 53 (J 8 2) o) 54 (J 8 2) 5) 55 (J 8 2) 0) 75 (J 8 2) 0) 76 (J 8 2) 0) 50 1 (J 8 2 + 1)) 56 (w - 5) else 0) = (if p = J 8 2 ∧ 0 ≤ w ∧ w < 5 then (if w = 0 then x else if w = 1 then y else if w = 2 then o else if w = 3 then 5 else 0) else rN J p w)
    rw [f1, f56, hC]
    by_cases c2 : 0 ≤ w ∧ w < 5
    · have e5 : (zU (zU (zU (zU (zU (zU (zU (zU (zU (zU (zU (zU (zU (zU J 8 2 (J 8 2 + 1)) 9 (J 8 2 * 5 + 0) x) 9 (J 8 2 * 5 + 1) y) 9 (J 8 2 * 5 + 2) o) 9 (J 8 2 * 5 + 3) 5) 9 (J 8 2 * 5 + 4) 0) 51 (J 8 2) x) 52 (J 8 2) y) 53 (J 8 2) o) 54 (J 8 2) 5) 55 (J 8 2) 0) 75 (J 8 2) 0) 76 (J 8 2) 0) 50 1 (J 8 2 + 1)) (51 + w.toNat) p = if p = J 8 2 then (if w = 0 then x else if w = 1 then y else if w = 2 then o else if w = 3 then 5 else 0) else J (51 + w.toNat) p := by
        rcases w5 c2 with rfl | rfl | rfl | rfl | rfl <;> rfl
      rw [e5]
      (repeat' split) <;> first | rfl | (exfalso; omega)
    · (repeat' split) <;> first | rfl | (exfalso; omega)
  unfold RelY
  rw [e1, e2, a]
  exact ⟨rfl, rfl, zNr_add (a ▸ c) hn hx hy ho⟩
theorem st_place {X : Nat × (Nat → Int32)} {d : Nat} {J M : zA} {R : zR} {p q : Int} (hr : Rel X J M R) (hp : -2147483648 ≤ p ∧ p < 2147483648) (hq : -2147483648 ≤ q ∧ q < 2147483648)  : zW X (d + 20) 101 0 (gEn 101 [(.ref 0), (zi p), (zi q)]) [] J M R (stP X (d + 20) 153 [(zi p), (zi q)]) := by
  have hr0 := hr
  obtain ⟨hR, hG, hY, hD, hP, hC, hAc, hS, hTp, hX, hW⟩ := hr0
  have hRr : zRoR R := zRoR_of hR
  have hY0 := hY
  obtain ⟨y1, y2, y3⟩ := hY0
  have yn := zNn y3
  show zW _ _ _ _ [some (.ref 0), some (zi p), some (zi q)] _ _ _ _ _
  refine z_iload rfl rfl ?_
  refine z_callSi (As := [_]) (le := [some _]) rfl rfl (Nat.le_of_ble_eq_true rfl) (Nat.le_of_ble_eq_true rfl) rfl ?_
  refine z_iload rfl rfl ?_
  refine z_if_lt rfl (by omega) (fun h1 => ?_) (fun h1 => ?_)
  · refine z_pushI (z := 0) rfl rfl ?_
    refine z_bret rfl rfl (by decide) ?_
    show zW _ _ _ _ _ _ _ _ _ _
    refine z_if_eqT rfl (by decide) (by decide) ?_
    refine z_pushI (z := (-1)) rfl rfl ?_
    refine z_iret rfl rfl ?_
    refine ⟨_, rfl, ?_⟩
    show zW _ _ _ _ [some (.ref 50), some (zi p), some (zi q)] _ _ _ _ _
    refine z_iload rfl rfl ?_
    refine z_pushI (z := 0) rfl rfl ?_
    refine z_pushI (z := 9999) rfl rfl ?_
    refine z_callSi (As := [_, _, _]) (le := [some _, some _, some _]) rfl rfl (Nat.le_of_ble_eq_true rfl) (Nat.le_of_ble_eq_true rfl) rfl ?_
    refine z_iload rfl rfl ?_
    refine z_iload rfl rfl ?_
    refine z_icmp_ltT rfl (by omega) (by decide) (by omega) ?_
    refine z_pushI (z := 0) rfl rfl ?_
    refine z_bret rfl rfl (by decide) ?_
    show zW _ _ _ _ _ _ _ _ _ _
    refine z_if_eqT rfl (by decide) (by decide) ?_
    refine z_pushI (z := (-1)) rfl rfl ?_
    refine z_iret rfl rfl ?_
    refine ⟨?_, ?_⟩
    · first | rfl | exact congrArg (fun v => some (zi v)) (by omega) | (exfalso; omega)
    · exact hr
  · refine z_iload rfl rfl ?_
    refine z_pushI (z := 10000) rfl rfl ?_
    refine z_icmp_ge rfl (by omega) (by decide) (fun h2 => ?_) (fun h2 => ?_)
    · refine z_pushI (z := 0) rfl rfl ?_
      refine z_bret rfl rfl (by decide) ?_
      show zW _ _ _ _ _ _ _ _ _ _
      refine z_if_eqT rfl (by decide) (by decide) ?_
      refine z_pushI (z := (-1)) rfl rfl ?_
      refine z_iret rfl rfl ?_
      refine ⟨_, rfl, ?_⟩
      show zW _ _ _ _ [some (.ref 50), some (zi p), some (zi q)] _ _ _ _ _
      refine z_iload rfl rfl ?_
      refine z_pushI (z := 0) rfl rfl ?_
      refine z_pushI (z := 9999) rfl rfl ?_
      refine z_callSi (As := [_, _, _]) (le := [some _, some _, some _]) rfl rfl (Nat.le_of_ble_eq_true rfl) (Nat.le_of_ble_eq_true rfl) rfl ?_
      refine z_iload rfl rfl ?_
      refine z_iload rfl rfl ?_
      refine z_icmp_ltF rfl (by omega) (by decide) (by omega) ?_
      refine z_iload rfl rfl ?_
      refine z_iload rfl rfl ?_
      refine z_icmp_gtT rfl (by omega) (by decide) (by omega) ?_
      refine z_pushI (z := 0) rfl rfl ?_
      refine z_bret rfl rfl (by decide) ?_
      show zW _ _ _ _ _ _ _ _ _ _
      refine z_if_eqT rfl (by decide) (by decide) ?_
      refine z_pushI (z := (-1)) rfl rfl ?_
      refine z_iret rfl rfl ?_
      refine ⟨?_, ?_⟩
      · first | rfl | exact congrArg (fun v => some (zi v)) (by omega) | (exfalso; omega)
      · exact hr
    · refine z_pushI (z := 1) rfl rfl ?_
      refine z_goto rfl ?_
      refine z_bret rfl rfl (by decide) ?_
      show zW _ _ _ _ _ _ _ _ _ _
      refine z_if_eqF rfl (by decide) (by decide) ?_
      refine z_pushI (z := 2) rfl rfl ?_
      refine z_iload rfl rfl ?_
      refine z_callSi (As := [_, _]) (le := [some _, some _]) rfl rfl (Nat.le_of_ble_eq_true rfl) (Nat.le_of_ble_eq_true rfl) rfl ?_
      refine z_iload rfl rfl ?_
      refine z_if_ltF rfl (by decide) (by decide) ?_
      refine z_iload rfl rfl ?_
      refine z_pushI (z := 14) rfl rfl ?_
      refine z_icmp_geF rfl (by decide) (by decide) (by decide) ?_
      refine z_iload rfl rfl ?_
      refine z_getS rfl ?_
      refine z_iload rfl rfl ?_
      refine z_sald (j := 1) (n := 14) (v := 0) rfl (by decide) rfl (by decide) (by decide) rfl ?_
      refine z_icmp_lt rfl (by omega) (by decide) (fun h3 => ?_) (fun h3 => ?_)
      · refine z_pushI (z := 0) rfl rfl ?_
        refine z_bret rfl rfl (by decide) ?_
        show zW _ _ _ _ _ _ _ _ _ _
        refine z_if_neF rfl (by decide) (by decide) ?_
        refine z_pushI (z := (-1)) rfl rfl ?_
        refine z_iret rfl rfl ?_
        refine ⟨_, rfl, ?_⟩
        show zW _ _ _ _ [some (.ref 50), some (zi p), some (zi q)] _ _ _ _ _
        refine z_iload rfl rfl ?_
        refine z_pushI (z := 0) rfl rfl ?_
        refine z_pushI (z := 9999) rfl rfl ?_
        refine z_callSi (As := [_, _, _]) (le := [some _, some _, some _]) rfl rfl (Nat.le_of_ble_eq_true rfl) (Nat.le_of_ble_eq_true rfl) rfl ?_
        refine z_iload rfl rfl ?_
        refine z_iload rfl rfl ?_
        refine z_icmp_ltF rfl (by omega) (by decide) (by omega) ?_
        refine z_iload rfl rfl ?_
        refine z_iload rfl rfl ?_
        refine z_icmp_gtF rfl (by omega) (by decide) (by omega) ?_
        refine z_pushI (z := 1) rfl rfl ?_
        refine z_goto rfl ?_
        refine z_bret rfl rfl (by decide) ?_
        show zW _ _ _ _ _ _ _ _ _ _
        refine z_if_eqF rfl (by decide) (by decide) ?_
        refine z_iload rfl rfl ?_
        refine z_pushI (z := 0) rfl rfl ?_
        refine z_pushI (z := 99) rfl rfl ?_
        refine z_callSi (As := [_, _, _]) (le := [some _, some _, some _]) rfl rfl (Nat.le_of_ble_eq_true rfl) (Nat.le_of_ble_eq_true rfl) rfl ?_
        refine z_iload rfl rfl ?_
        refine z_iload rfl rfl ?_
        refine z_icmp_ltT rfl (by omega) (by decide) (by omega) ?_
        refine z_pushI (z := 0) rfl rfl ?_
        refine z_bret rfl rfl (by decide) ?_
        show zW _ _ _ _ _ _ _ _ _ _
        refine z_if_neF rfl (by decide) (by decide) ?_
        refine z_pushI (z := (-1)) rfl rfl ?_
        refine z_iret rfl rfl ?_
        refine ⟨?_, ?_⟩
        · first | rfl | exact congrArg (fun v => some (zi v)) (by omega) | (exfalso; omega)
        · exact hr
      · refine z_iload rfl rfl ?_
        refine z_getS rfl ?_
        refine z_iload rfl rfl ?_
        refine z_sald (j := 2) (n := 14) (v := 99) rfl (by decide) rfl (by decide) (by decide) rfl ?_
        refine z_icmp_gt rfl (by omega) (by decide) (fun h4 => ?_) (fun h4 => ?_)
        · refine z_pushI (z := 0) rfl rfl ?_
          refine z_bret rfl rfl (by decide) ?_
          show zW _ _ _ _ _ _ _ _ _ _
          refine z_if_neF rfl (by decide) (by decide) ?_
          refine z_pushI (z := (-1)) rfl rfl ?_
          refine z_iret rfl rfl ?_
          refine ⟨_, rfl, ?_⟩
          show zW _ _ _ _ [some (.ref 50), some (zi p), some (zi q)] _ _ _ _ _
          refine z_iload rfl rfl ?_
          refine z_pushI (z := 0) rfl rfl ?_
          refine z_pushI (z := 9999) rfl rfl ?_
          refine z_callSi (As := [_, _, _]) (le := [some _, some _, some _]) rfl rfl (Nat.le_of_ble_eq_true rfl) (Nat.le_of_ble_eq_true rfl) rfl ?_
          refine z_iload rfl rfl ?_
          refine z_iload rfl rfl ?_
          refine z_icmp_ltF rfl (by omega) (by decide) (by omega) ?_
          refine z_iload rfl rfl ?_
          refine z_iload rfl rfl ?_
          refine z_icmp_gtF rfl (by omega) (by decide) (by omega) ?_
          refine z_pushI (z := 1) rfl rfl ?_
          refine z_goto rfl ?_
          refine z_bret rfl rfl (by decide) ?_
          show zW _ _ _ _ _ _ _ _ _ _
          refine z_if_eqF rfl (by decide) (by decide) ?_
          refine z_iload rfl rfl ?_
          refine z_pushI (z := 0) rfl rfl ?_
          refine z_pushI (z := 99) rfl rfl ?_
          refine z_callSi (As := [_, _, _]) (le := [some _, some _, some _]) rfl rfl (Nat.le_of_ble_eq_true rfl) (Nat.le_of_ble_eq_true rfl) rfl ?_
          refine z_iload rfl rfl ?_
          refine z_iload rfl rfl ?_
          refine z_icmp_ltF rfl (by omega) (by decide) (by omega) ?_
          refine z_iload rfl rfl ?_
          refine z_iload rfl rfl ?_
          refine z_icmp_gtT rfl (by omega) (by decide) (by omega) ?_
          refine z_pushI (z := 0) rfl rfl ?_
          refine z_bret rfl rfl (by decide) ?_
          show zW _ _ _ _ _ _ _ _ _ _
          refine z_if_neF rfl (by decide) (by decide) ?_
          refine z_pushI (z := (-1)) rfl rfl ?_
          refine z_iret rfl rfl ?_
          refine ⟨?_, ?_⟩
          · first | rfl | exact congrArg (fun v => some (zi v)) (by omega) | (exfalso; omega)
          · exact hr
        · refine z_pushI (z := 1) rfl rfl ?_
          refine z_goto rfl ?_
          refine z_bret rfl rfl (by decide) ?_
          show zW _ _ _ _ _ _ _ _ _ _
          refine z_if_neT rfl (by decide) (by decide) ?_
          refine z_aload rfl rfl ?_
          refine z_getR (r := 8) rfl rfl (hR _ rm_0_1) ?_
          refine z_getI (v := J 8 2) rfl rfl (rfl) ?_
          refine z_pushI (z := 8) rfl rfl ?_
          refine z_icmp_lt rfl (by omega) (by decide) (fun h5 => ?_) (fun h5 => ?_)
          · refine z_aload rfl rfl ?_
            refine z_getR (r := 8) rfl rfl (hR _ rm_0_1) ?_
            refine z_iload rfl rfl ?_
            refine z_pushI (z := 100) rfl rfl ?_
            refine z_irem (e := p % 100) rfl (by omega) (by omega) rfl ?_
            refine z_iload rfl rfl ?_
            refine z_pushI (z := 100) rfl rfl ?_
            refine z_idiv (e := p / 100) rfl (by omega) (by omega) rfl ?_
            refine z_iload rfl rfl ?_
            refine z_callVi (As := [_, _, _]) (le := [some _, some _, some _, some _, none]) rfl rfl rfl (Nat.le_of_ble_eq_true rfl) (Nat.le_of_ble_eq_true rfl) rfl ?_
            refine z_aload rfl rfl ?_
            refine z_getI (v := J 8 2) rfl rfl (rfl) ?_
            refine z_istore rfl rfl ?_
            refine z_aload rfl rfl ?_
            refine z_dup rfl rfl ?_
            refine z_getI (v := J 8 2) rfl rfl (rfl) ?_
            refine z_pushI (z := 1) rfl rfl ?_
            refine z_iadd (e := (J 8 2) + 1) rfl rfl ?_
            refine z_putI (y := 2) rfl rfl rfl ?_
            refine z_aload rfl rfl ?_
            refine z_iload rfl rfl ?_
            refine z_pushI (z := 0) rfl rfl ?_
            refine z_iload rfl rfl ?_
            refine z_callVi (As := [_, _, _]) (le := [some _, some _, some _, some _, none]) rfl rfl rfl (Nat.le_of_ble_eq_true rfl) (Nat.le_of_ble_eq_true rfl) rfl ?_
            refine z_aload rfl rfl ?_
            refine z_iload rfl rfl ?_
            refine z_iload rfl rfl ?_
            refine z_callVi (As := [_, _]) (le := [some _, some _, some _]) rfl rfl rfl (Nat.le_of_ble_eq_true rfl) (Nat.le_of_ble_eq_true rfl) rfl ?_
            refine z_iload rfl rfl ?_
            refine z_if_ltF rfl (by decide) (by decide) ?_
            refine z_iload rfl rfl ?_
            refine z_pushI (z := 14) rfl rfl ?_
            refine z_icmp_ltT rfl (by decide) (by decide) (by decide) ?_
            refine z_iload rfl rfl ?_
            refine z_pushI (z := 5) rfl rfl ?_
            refine z_icmp_geF rfl (by decide) (by decide) (by decide) ?_
            refine z_aload rfl rfl ?_
            refine z_iload rfl rfl ?_
            refine z_callVi (As := [_]) (le := [some _, some _]) rfl rfl rfl (Nat.le_of_ble_eq_true rfl) (Nat.le_of_ble_eq_true rfl) rfl ?_
            refine z_iload rfl rfl ?_
            refine z_if_ltF rfl (by omega) (by omega) ?_
            refine z_iload rfl rfl ?_
            refine z_aload rfl rfl ?_
            refine z_getI (v := (J 8 2) + 1) rfl rfl (zU_e) ?_
            refine z_icmp_geF rfl (by omega) (by omega) (by omega) ?_
            refine z_pushI (z := 1) rfl rfl ?_
            refine z_goto rfl ?_
            refine z_bret rfl rfl (by decide) ?_
            show zW _ _ _ _ _ _ _ _ _ _
            refine z_if_eqF rfl (by decide) (by decide) ?_
            refine z_iload rfl rfl ?_
            refine z_pushI (z := 5) rfl rfl ?_
            refine z_imul (e := (J 8 2) * 5) rfl rfl ?_
            refine z_iload rfl rfl ?_
            refine z_iadd (e := (J 8 2) * 5 + 0) rfl rfl ?_
            refine z_goto rfl ?_
            refine z_iret rfl rfl ?_
            show zW _ _ _ _ _ _ _ _ _ _
            refine z_istore rfl rfl ?_
            refine z_iload rfl rfl ?_
            refine z_if_lt rfl (by omega) (fun h6 => ?_) (fun h6 => ?_)
            · refine z_vret rfl rfl ?_
              show zW _ _ _ _ _ _ _ _ _ _
              refine z_aload rfl rfl ?_
              refine z_iload rfl rfl ?_
              refine z_pushI (z := 1) rfl rfl ?_
              refine z_iload rfl rfl ?_
              refine z_callVi (As := [_, _, _]) (le := [some _, some _, some _, some _, none]) rfl rfl rfl (Nat.le_of_ble_eq_true rfl) (Nat.le_of_ble_eq_true rfl) rfl ?_
              refine z_aload rfl rfl ?_
              refine z_iload rfl rfl ?_
              refine z_iload rfl rfl ?_
              refine z_callVi (As := [_, _]) (le := [some _, some _, some _]) rfl rfl rfl (Nat.le_of_ble_eq_true rfl) (Nat.le_of_ble_eq_true rfl) rfl ?_
              refine z_iload rfl rfl ?_
              refine z_if_ltF rfl (by decide) (by decide) ?_
              refine z_iload rfl rfl ?_
              refine z_pushI (z := 14) rfl rfl ?_
              refine z_icmp_ltT rfl (by decide) (by decide) (by decide) ?_
              refine z_iload rfl rfl ?_
              refine z_pushI (z := 5) rfl rfl ?_
              refine z_icmp_geF rfl (by decide) (by decide) (by decide) ?_
              refine z_aload rfl rfl ?_
              refine z_iload rfl rfl ?_
              refine z_callVi (As := [_]) (le := [some _, some _]) rfl rfl rfl (Nat.le_of_ble_eq_true rfl) (Nat.le_of_ble_eq_true rfl) rfl ?_
              refine z_iload rfl rfl ?_
              refine z_if_ltF rfl (by omega) (by omega) ?_
              refine z_iload rfl rfl ?_
              refine z_aload rfl rfl ?_
              refine z_getI (v := (J 8 2) + 1) rfl rfl (zU_e) ?_
              refine z_icmp_geF rfl (by omega) (by omega) (by omega) ?_
              refine z_pushI (z := 1) rfl rfl ?_
              refine z_goto rfl ?_
              refine z_bret rfl rfl (by decide) ?_
              show zW _ _ _ _ _ _ _ _ _ _
              refine z_if_eqF rfl (by decide) (by decide) ?_
              refine z_iload rfl rfl ?_
              refine z_pushI (z := 5) rfl rfl ?_
              refine z_imul (e := (J 8 2) * 5) rfl rfl ?_
              refine z_iload rfl rfl ?_
              refine z_iadd (e := (J 8 2) * 5 + 1) rfl rfl ?_
              refine z_goto rfl ?_
              refine z_iret rfl rfl ?_
              show zW _ _ _ _ _ _ _ _ _ _
              refine z_istore rfl rfl ?_
              refine z_iload rfl rfl ?_
              refine z_if_lt rfl (by omega) (fun h7 => ?_) (fun h7 => ?_)
              · refine z_vret rfl rfl ?_
                show zW _ _ _ _ _ _ _ _ _ _
                refine z_aload rfl rfl ?_
                refine z_iload rfl rfl ?_
                refine z_pushI (z := 2) rfl rfl ?_
                refine z_iload rfl rfl ?_
                refine z_callVi (As := [_, _, _]) (le := [some _, some _, some _, some _, none]) rfl rfl rfl (Nat.le_of_ble_eq_true rfl) (Nat.le_of_ble_eq_true rfl) rfl ?_
                refine z_aload rfl rfl ?_
                refine z_iload rfl rfl ?_
                refine z_iload rfl rfl ?_
                refine z_callVi (As := [_, _]) (le := [some _, some _, some _]) rfl rfl rfl (Nat.le_of_ble_eq_true rfl) (Nat.le_of_ble_eq_true rfl) rfl ?_
                refine z_iload rfl rfl ?_
                refine z_if_ltF rfl (by decide) (by decide) ?_
                refine z_iload rfl rfl ?_
                refine z_pushI (z := 14) rfl rfl ?_
                refine z_icmp_ltT rfl (by decide) (by decide) (by decide) ?_
                refine z_iload rfl rfl ?_
                refine z_pushI (z := 5) rfl rfl ?_
                refine z_icmp_geF rfl (by decide) (by decide) (by decide) ?_
                refine z_aload rfl rfl ?_
                refine z_iload rfl rfl ?_
                refine z_callVi (As := [_]) (le := [some _, some _]) rfl rfl rfl (Nat.le_of_ble_eq_true rfl) (Nat.le_of_ble_eq_true rfl) rfl ?_
                refine z_iload rfl rfl ?_
                refine z_if_ltF rfl (by omega) (by omega) ?_
                refine z_iload rfl rfl ?_
                refine z_aload rfl rfl ?_
                refine z_getI (v := (J 8 2) + 1) rfl rfl (zU_e) ?_
                refine z_icmp_geF rfl (by omega) (by omega) (by omega) ?_
                refine z_pushI (z := 1) rfl rfl ?_
                refine z_goto rfl ?_
                refine z_bret rfl rfl (by decide) ?_
                show zW _ _ _ _ _ _ _ _ _ _
                refine z_if_eqF rfl (by decide) (by decide) ?_
                refine z_iload rfl rfl ?_
                refine z_pushI (z := 5) rfl rfl ?_
                refine z_imul (e := (J 8 2) * 5) rfl rfl ?_
                refine z_iload rfl rfl ?_
                refine z_iadd (e := (J 8 2) * 5 + 2) rfl rfl ?_
                refine z_goto rfl ?_
                refine z_iret rfl rfl ?_
                show zW _ _ _ _ _ _ _ _ _ _
                refine z_istore rfl rfl ?_
                refine z_iload rfl rfl ?_
                refine z_if_lt rfl (by omega) (fun h8 => ?_) (fun h8 => ?_)
                · refine z_vret rfl rfl ?_
                  show zW _ _ _ _ _ _ _ _ _ _
                  refine z_aload rfl rfl ?_
                  refine z_iload rfl rfl ?_
                  refine z_pushI (z := 3) rfl rfl ?_
                  refine z_getS rfl ?_
                  refine z_pushI (z := 3) rfl rfl ?_
                  refine z_sald (j := 0) (n := 14) (v := 5) rfl (by decide) rfl (by decide) (by decide) rfl ?_
                  refine z_callVi (As := [_, _, _]) (le := [some _, some _, some _, some _, none]) rfl rfl rfl (Nat.le_of_ble_eq_true rfl) (Nat.le_of_ble_eq_true rfl) rfl ?_
                  refine z_aload rfl rfl ?_
                  refine z_iload rfl rfl ?_
                  refine z_iload rfl rfl ?_
                  refine z_callVi (As := [_, _]) (le := [some _, some _, some _]) rfl rfl rfl (Nat.le_of_ble_eq_true rfl) (Nat.le_of_ble_eq_true rfl) rfl ?_
                  refine z_iload rfl rfl ?_
                  refine z_if_ltF rfl (by decide) (by decide) ?_
                  refine z_iload rfl rfl ?_
                  refine z_pushI (z := 14) rfl rfl ?_
                  refine z_icmp_ltT rfl (by decide) (by decide) (by decide) ?_
                  refine z_iload rfl rfl ?_
                  refine z_pushI (z := 5) rfl rfl ?_
                  refine z_icmp_geF rfl (by decide) (by decide) (by decide) ?_
                  refine z_aload rfl rfl ?_
                  refine z_iload rfl rfl ?_
                  refine z_callVi (As := [_]) (le := [some _, some _]) rfl rfl rfl (Nat.le_of_ble_eq_true rfl) (Nat.le_of_ble_eq_true rfl) rfl ?_
                  refine z_iload rfl rfl ?_
                  refine z_if_ltF rfl (by omega) (by omega) ?_
                  refine z_iload rfl rfl ?_
                  refine z_aload rfl rfl ?_
                  refine z_getI (v := (J 8 2) + 1) rfl rfl (zU_e) ?_
                  refine z_icmp_geF rfl (by omega) (by omega) (by omega) ?_
                  refine z_pushI (z := 1) rfl rfl ?_
                  refine z_goto rfl ?_
                  refine z_bret rfl rfl (by decide) ?_
                  show zW _ _ _ _ _ _ _ _ _ _
                  refine z_if_eqF rfl (by decide) (by decide) ?_
                  refine z_iload rfl rfl ?_
                  refine z_pushI (z := 5) rfl rfl ?_
                  refine z_imul (e := (J 8 2) * 5) rfl rfl ?_
                  refine z_iload rfl rfl ?_
                  refine z_iadd (e := (J 8 2) * 5 + 3) rfl rfl ?_
                  refine z_goto rfl ?_
                  refine z_iret rfl rfl ?_
                  show zW _ _ _ _ _ _ _ _ _ _
                  refine z_istore rfl rfl ?_
                  refine z_iload rfl rfl ?_
                  refine z_if_lt rfl (by omega) (fun h9 => ?_) (fun h9 => ?_)
                  · refine z_vret rfl rfl ?_
                    show zW _ _ _ _ _ _ _ _ _ _
                    refine z_aload rfl rfl ?_
                    refine z_iload rfl rfl ?_
                    refine z_pushI (z := 4) rfl rfl ?_
                    refine z_getS rfl ?_
                    refine z_pushI (z := 4) rfl rfl ?_
                    refine z_sald (j := 0) (n := 14) (v := 0) rfl (by decide) rfl (by decide) (by decide) rfl ?_
                    refine z_callVi (As := [_, _, _]) (le := [some _, some _, some _, some _, none]) rfl rfl rfl (Nat.le_of_ble_eq_true rfl) (Nat.le_of_ble_eq_true rfl) rfl ?_
                    refine z_aload rfl rfl ?_
                    refine z_iload rfl rfl ?_
                    refine z_iload rfl rfl ?_
                    refine z_callVi (As := [_, _]) (le := [some _, some _, some _]) rfl rfl rfl (Nat.le_of_ble_eq_true rfl) (Nat.le_of_ble_eq_true rfl) rfl ?_
                    refine z_iload rfl rfl ?_
                    refine z_if_ltF rfl (by decide) (by decide) ?_
                    refine z_iload rfl rfl ?_
                    refine z_pushI (z := 14) rfl rfl ?_
                    refine z_icmp_ltT rfl (by decide) (by decide) (by decide) ?_
                    refine z_iload rfl rfl ?_
                    refine z_pushI (z := 5) rfl rfl ?_
                    refine z_icmp_geF rfl (by decide) (by decide) (by decide) ?_
                    refine z_aload rfl rfl ?_
                    refine z_iload rfl rfl ?_
                    refine z_callVi (As := [_]) (le := [some _, some _]) rfl rfl rfl (Nat.le_of_ble_eq_true rfl) (Nat.le_of_ble_eq_true rfl) rfl ?_
                    refine z_iload rfl rfl ?_
                    refine z_if_ltF rfl (by omega) (by omega) ?_
                    refine z_iload rfl rfl ?_
                    refine z_aload rfl rfl ?_
                    refine z_getI (v := (J 8 2) + 1) rfl rfl (zU_e) ?_
                    refine z_icmp_geF rfl (by omega) (by omega) (by omega) ?_
                    refine z_pushI (z := 1) rfl rfl ?_
                    refine z_goto rfl ?_
                    refine z_bret rfl rfl (by decide) ?_
                    show zW _ _ _ _ _ _ _ _ _ _
                    refine z_if_eqF rfl (by decide) (by decide) ?_
                    refine z_iload rfl rfl ?_
                    refine z_pushI (z := 5) rfl rfl ?_
                    refine z_imul (e := (J 8 2) * 5) rfl rfl ?_
                    refine z_iload rfl rfl ?_
                    refine z_iadd (e := (J 8 2) * 5 + 4) rfl rfl ?_
                    refine z_goto rfl ?_
                    refine z_iret rfl rfl ?_
                    show zW _ _ _ _ _ _ _ _ _ _
                    refine z_istore rfl rfl ?_
                    refine z_iload rfl rfl ?_
                    refine z_if_lt rfl (by omega) (fun h10 => ?_) (fun h10 => ?_)
                    · refine z_vret rfl rfl ?_
                      show zW _ _ _ _ _ _ _ _ _ _
                      refine z_iload rfl rfl ?_
                      refine z_iret rfl rfl ?_
                      show zW _ _ _ _ _ _ _ _ _ _
                      refine z_iret rfl rfl ?_
                      refine ⟨_, rfl, ?_⟩
                      show zW _ _ _ _ [some (.ref 50), some (zi p), some (zi q)] _ _ _ _ _
                      refine z_iload rfl rfl ?_
                      refine z_pushI (z := 0) rfl rfl ?_
                      refine z_pushI (z := 9999) rfl rfl ?_
                      refine z_callSi (As := [_, _, _]) (le := [some _, some _, some _]) rfl rfl (Nat.le_of_ble_eq_true rfl) (Nat.le_of_ble_eq_true rfl) rfl ?_
                      refine z_iload rfl rfl ?_
                      refine z_iload rfl rfl ?_
                      refine z_icmp_ltF rfl (by omega) (by decide) (by omega) ?_
                      refine z_iload rfl rfl ?_
                      refine z_iload rfl rfl ?_
                      refine z_icmp_gtF rfl (by omega) (by decide) (by omega) ?_
                      refine z_pushI (z := 1) rfl rfl ?_
                      refine z_goto rfl ?_
                      refine z_bret rfl rfl (by decide) ?_
                      show zW _ _ _ _ _ _ _ _ _ _
                      refine z_if_eqF rfl (by decide) (by decide) ?_
                      refine z_iload rfl rfl ?_
                      refine z_pushI (z := 0) rfl rfl ?_
                      refine z_pushI (z := 99) rfl rfl ?_
                      refine z_callSi (As := [_, _, _]) (le := [some _, some _, some _]) rfl rfl (Nat.le_of_ble_eq_true rfl) (Nat.le_of_ble_eq_true rfl) rfl ?_
                      refine z_iload rfl rfl ?_
                      refine z_iload rfl rfl ?_
                      refine z_icmp_ltF rfl (by omega) (by decide) (by omega) ?_
                      refine z_iload rfl rfl ?_
                      refine z_iload rfl rfl ?_
                      refine z_icmp_gtF rfl (by omega) (by decide) (by omega) ?_
                      refine z_pushI (z := 1) rfl rfl ?_
                      refine z_goto rfl ?_
                      refine z_bret rfl rfl (by decide) ?_
                      show zW _ _ _ _ _ _ _ _ _ _
                      refine z_if_neT rfl (by decide) (by decide) ?_
                      refine z_aload rfl rfl ?_
                      refine z_getI (v := J 8 2) rfl rfl ((zU_n (by decide)).trans (y2.symm)) ?_
                      refine z_pushI (z := 8) rfl rfl ?_
                      refine z_icmp_neT rfl (by omega) (by decide) (by omega) ?_
                      refine z_aload rfl rfl ?_
                      refine z_iload rfl rfl ?_
                      refine z_pushI (z := 100) rfl rfl ?_
                      refine z_irem (e := p % 100) rfl (by omega) (by omega) rfl ?_
                      refine z_iload rfl rfl ?_
                      refine z_pushI (z := 100) rfl rfl ?_
                      refine z_idiv (e := p / 100) rfl (by omega) (by omega) rfl ?_
                      refine z_iload rfl rfl ?_
                      refine z_callVi (As := [_, _, _]) (le := [some _, some _, some _, some _]) rfl rfl rfl (Nat.le_of_ble_eq_true rfl) (Nat.le_of_ble_eq_true rfl) rfl ?_
                      refine z_aload rfl rfl ?_
                      refine z_getR (r := 51) rfl rfl (hRr _ rm_50_2 (by decide)) ?_
                      refine z_aload rfl rfl ?_
                      refine z_getI (v := J 8 2) rfl rfl ((zU_n (by decide)).trans (y2.symm)) ?_
                      refine z_iload rfl rfl ?_
                      refine z_iast (e := p % 100) rfl rfl (by decide) (by omega) rfl ?_
                      refine z_aload rfl rfl ?_
                      refine z_getR (r := 52) rfl rfl (hRr _ rm_50_3 (by decide)) ?_
                      refine z_aload rfl rfl ?_
                      refine z_getI (v := J 8 2) rfl rfl ((zU_n (by decide)).trans ((zU_n (by decide)).trans (y2.symm))) ?_
                      refine z_iload rfl rfl ?_
                      refine z_iast (e := p / 100) rfl rfl (by decide) (by omega) rfl ?_
                      refine z_aload rfl rfl ?_
                      refine z_getR (r := 53) rfl rfl (hRr _ rm_50_4 (by decide)) ?_
                      refine z_aload rfl rfl ?_
                      refine z_getI (v := J 8 2) rfl rfl ((zU_n (by decide)).trans ((zU_n (by decide)).trans ((zU_n (by decide)).trans (y2.symm)))) ?_
                      refine z_iload rfl rfl ?_
                      refine z_iast (e := q) rfl rfl (by decide) (by omega) rfl ?_
                      refine z_aload rfl rfl ?_
                      refine z_getR (r := 54) rfl rfl (hRr _ rm_50_5 (by decide)) ?_
                      refine z_aload rfl rfl ?_
                      refine z_getI (v := J 8 2) rfl rfl ((zU_n (by decide)).trans ((zU_n (by decide)).trans ((zU_n (by decide)).trans ((zU_n (by decide)).trans (y2.symm))))) ?_
                      refine z_pushI (z := 5) rfl rfl ?_
                      refine z_iast (e := 5) rfl rfl (by decide) (by omega) rfl ?_
                      refine z_aload rfl rfl ?_
                      refine z_getR (r := 55) rfl rfl (hRr _ rm_50_6 (by decide)) ?_
                      refine z_aload rfl rfl ?_
                      refine z_getI (v := J 8 2) rfl rfl ((zU_n (by decide)).trans ((zU_n (by decide)).trans ((zU_n (by decide)).trans ((zU_n (by decide)).trans ((zU_n (by decide)).trans (y2.symm)))))) ?_
                      refine z_pushI (z := 0) rfl rfl ?_
                      refine z_iast (e := 0) rfl rfl (by decide) (by omega) rfl ?_
                      refine z_aload rfl rfl ?_
                      refine z_getR (r := 75) rfl rfl (hRr _ rm_50_42 (by decide)) ?_
                      refine z_aload rfl rfl ?_
                      refine z_getI (v := J 8 2) rfl rfl ((zU_n (by decide)).trans ((zU_n (by decide)).trans ((zU_n (by decide)).trans ((zU_n (by decide)).trans ((zU_n (by decide)).trans ((zU_n (by decide)).trans (y2.symm))))))) ?_
                      refine z_pushI (z := 0) rfl rfl ?_
                      refine z_iast (e := 0) rfl rfl (by decide) (by omega) rfl ?_
                      refine z_aload rfl rfl ?_
                      refine z_getR (r := 76) rfl rfl (hRr _ rm_50_43 (by decide)) ?_
                      refine z_aload rfl rfl ?_
                      refine z_getI (v := J 8 2) rfl rfl ((zU_n (by decide)).trans ((zU_n (by decide)).trans ((zU_n (by decide)).trans ((zU_n (by decide)).trans ((zU_n (by decide)).trans ((zU_n (by decide)).trans ((zU_n (by decide)).trans (y2.symm)))))))) ?_
                      refine z_pushI (z := 0) rfl rfl ?_
                      refine z_iast (e := 0) rfl rfl (by decide) (by omega) rfl ?_
                      refine z_aload rfl rfl ?_
                      refine z_dup rfl rfl ?_
                      refine z_getI (v := J 8 2) rfl rfl ((zU_n (by decide)).trans ((zU_n (by decide)).trans ((zU_n (by decide)).trans ((zU_n (by decide)).trans ((zU_n (by decide)).trans ((zU_n (by decide)).trans ((zU_n (by decide)).trans ((zU_n (by decide)).trans (y2.symm))))))))) ?_
                      refine z_pushI (z := 1) rfl rfl ?_
                      refine z_iadd (e := (J 8 2) + 1) rfl rfl ?_
                      refine z_putI (y := 1) rfl rfl rfl ?_
                      refine z_aload rfl rfl ?_
                      refine z_getI (v := (J 8 2) + 1) rfl rfl (zU_e) ?_
                      refine z_pushI (z := 1) rfl rfl ?_
                      refine z_isub (e := (J 8 2) + 1 - 1) rfl rfl ?_
                      refine z_iret rfl rfl ?_
                      show zW _ _ _ _ _ _ _ _ _ _
                      refine z_iret rfl rfl ?_
                      refine ⟨?_, ?_⟩
                      · exfalso
                        omega
                      · exfalso
                        omega
                    · refine z_aload rfl rfl ?_
                      refine z_getR (r := 9) rfl rfl (hR _ rm_8_1) ?_
                      refine z_iload rfl rfl ?_
                      refine z_iload rfl rfl ?_
                      refine z_iast (e := 0) rfl rfl (by decide) (by omega) rfl ?_
                      refine z_vret rfl rfl ?_
                      show zW _ _ _ _ _ _ _ _ _ _
                      refine z_iload rfl rfl ?_
                      refine z_iret rfl rfl ?_
                      show zW _ _ _ _ _ _ _ _ _ _
                      refine z_iret rfl rfl ?_
                      refine ⟨_, rfl, ?_⟩
                      show zW _ _ _ _ [some (.ref 50), some (zi p), some (zi q)] _ _ _ _ _
                      refine z_iload rfl rfl ?_
                      refine z_pushI (z := 0) rfl rfl ?_
                      refine z_pushI (z := 9999) rfl rfl ?_
                      refine z_callSi (As := [_, _, _]) (le := [some _, some _, some _]) rfl rfl (Nat.le_of_ble_eq_true rfl) (Nat.le_of_ble_eq_true rfl) rfl ?_
                      refine z_iload rfl rfl ?_
                      refine z_iload rfl rfl ?_
                      refine z_icmp_ltF rfl (by omega) (by decide) (by omega) ?_
                      refine z_iload rfl rfl ?_
                      refine z_iload rfl rfl ?_
                      refine z_icmp_gtF rfl (by omega) (by decide) (by omega) ?_
                      refine z_pushI (z := 1) rfl rfl ?_
                      refine z_goto rfl ?_
                      refine z_bret rfl rfl (by decide) ?_
                      show zW _ _ _ _ _ _ _ _ _ _
                      refine z_if_eqF rfl (by decide) (by decide) ?_
                      refine z_iload rfl rfl ?_
                      refine z_pushI (z := 0) rfl rfl ?_
                      refine z_pushI (z := 99) rfl rfl ?_
                      refine z_callSi (As := [_, _, _]) (le := [some _, some _, some _]) rfl rfl (Nat.le_of_ble_eq_true rfl) (Nat.le_of_ble_eq_true rfl) rfl ?_
                      refine z_iload rfl rfl ?_
                      refine z_iload rfl rfl ?_
                      refine z_icmp_ltF rfl (by omega) (by decide) (by omega) ?_
                      refine z_iload rfl rfl ?_
                      refine z_iload rfl rfl ?_
                      refine z_icmp_gtF rfl (by omega) (by decide) (by omega) ?_
                      refine z_pushI (z := 1) rfl rfl ?_
                      refine z_goto rfl ?_
                      refine z_bret rfl rfl (by decide) ?_
                      show zW _ _ _ _ _ _ _ _ _ _
                      refine z_if_neT rfl (by decide) (by decide) ?_
                      refine z_aload rfl rfl ?_
                      refine z_getI (v := J 8 2) rfl rfl ((zU_n (by decide)).trans ((zU_n (by decide)).trans (y2.symm))) ?_
                      refine z_pushI (z := 8) rfl rfl ?_
                      refine z_icmp_neT rfl (by omega) (by decide) (by omega) ?_
                      refine z_aload rfl rfl ?_
                      refine z_iload rfl rfl ?_
                      refine z_pushI (z := 100) rfl rfl ?_
                      refine z_irem (e := p % 100) rfl (by omega) (by omega) rfl ?_
                      refine z_iload rfl rfl ?_
                      refine z_pushI (z := 100) rfl rfl ?_
                      refine z_idiv (e := p / 100) rfl (by omega) (by omega) rfl ?_
                      refine z_iload rfl rfl ?_
                      refine z_callVi (As := [_, _, _]) (le := [some _, some _, some _, some _]) rfl rfl rfl (Nat.le_of_ble_eq_true rfl) (Nat.le_of_ble_eq_true rfl) rfl ?_
                      refine z_aload rfl rfl ?_
                      refine z_getR (r := 51) rfl rfl (hRr _ rm_50_2 (by decide)) ?_
                      refine z_aload rfl rfl ?_
                      refine z_getI (v := J 8 2) rfl rfl ((zU_n (by decide)).trans ((zU_n (by decide)).trans (y2.symm))) ?_
                      refine z_iload rfl rfl ?_
                      refine z_iast (e := p % 100) rfl rfl (by decide) (by omega) rfl ?_
                      refine z_aload rfl rfl ?_
                      refine z_getR (r := 52) rfl rfl (hRr _ rm_50_3 (by decide)) ?_
                      refine z_aload rfl rfl ?_
                      refine z_getI (v := J 8 2) rfl rfl ((zU_n (by decide)).trans ((zU_n (by decide)).trans ((zU_n (by decide)).trans (y2.symm)))) ?_
                      refine z_iload rfl rfl ?_
                      refine z_iast (e := p / 100) rfl rfl (by decide) (by omega) rfl ?_
                      refine z_aload rfl rfl ?_
                      refine z_getR (r := 53) rfl rfl (hRr _ rm_50_4 (by decide)) ?_
                      refine z_aload rfl rfl ?_
                      refine z_getI (v := J 8 2) rfl rfl ((zU_n (by decide)).trans ((zU_n (by decide)).trans ((zU_n (by decide)).trans ((zU_n (by decide)).trans (y2.symm))))) ?_
                      refine z_iload rfl rfl ?_
                      refine z_iast (e := q) rfl rfl (by decide) (by omega) rfl ?_
                      refine z_aload rfl rfl ?_
                      refine z_getR (r := 54) rfl rfl (hRr _ rm_50_5 (by decide)) ?_
                      refine z_aload rfl rfl ?_
                      refine z_getI (v := J 8 2) rfl rfl ((zU_n (by decide)).trans ((zU_n (by decide)).trans ((zU_n (by decide)).trans ((zU_n (by decide)).trans ((zU_n (by decide)).trans (y2.symm)))))) ?_
                      refine z_pushI (z := 5) rfl rfl ?_
                      refine z_iast (e := 5) rfl rfl (by decide) (by omega) rfl ?_
                      refine z_aload rfl rfl ?_
                      refine z_getR (r := 55) rfl rfl (hRr _ rm_50_6 (by decide)) ?_
                      refine z_aload rfl rfl ?_
                      refine z_getI (v := J 8 2) rfl rfl ((zU_n (by decide)).trans ((zU_n (by decide)).trans ((zU_n (by decide)).trans ((zU_n (by decide)).trans ((zU_n (by decide)).trans ((zU_n (by decide)).trans (y2.symm))))))) ?_
                      refine z_pushI (z := 0) rfl rfl ?_
                      refine z_iast (e := 0) rfl rfl (by decide) (by omega) rfl ?_
                      refine z_aload rfl rfl ?_
                      refine z_getR (r := 75) rfl rfl (hRr _ rm_50_42 (by decide)) ?_
                      refine z_aload rfl rfl ?_
                      refine z_getI (v := J 8 2) rfl rfl ((zU_n (by decide)).trans ((zU_n (by decide)).trans ((zU_n (by decide)).trans ((zU_n (by decide)).trans ((zU_n (by decide)).trans ((zU_n (by decide)).trans ((zU_n (by decide)).trans (y2.symm)))))))) ?_
                      refine z_pushI (z := 0) rfl rfl ?_
                      refine z_iast (e := 0) rfl rfl (by decide) (by omega) rfl ?_
                      refine z_aload rfl rfl ?_
                      refine z_getR (r := 76) rfl rfl (hRr _ rm_50_43 (by decide)) ?_
                      refine z_aload rfl rfl ?_
                      refine z_getI (v := J 8 2) rfl rfl ((zU_n (by decide)).trans ((zU_n (by decide)).trans ((zU_n (by decide)).trans ((zU_n (by decide)).trans ((zU_n (by decide)).trans ((zU_n (by decide)).trans ((zU_n (by decide)).trans ((zU_n (by decide)).trans (y2.symm))))))))) ?_
                      refine z_pushI (z := 0) rfl rfl ?_
                      refine z_iast (e := 0) rfl rfl (by decide) (by omega) rfl ?_
                      refine z_aload rfl rfl ?_
                      refine z_dup rfl rfl ?_
                      refine z_getI (v := J 8 2) rfl rfl ((zU_n (by decide)).trans ((zU_n (by decide)).trans ((zU_n (by decide)).trans ((zU_n (by decide)).trans ((zU_n (by decide)).trans ((zU_n (by decide)).trans ((zU_n (by decide)).trans ((zU_n (by decide)).trans ((zU_n (by decide)).trans (y2.symm)))))))))) ?_
                      refine z_pushI (z := 1) rfl rfl ?_
                      refine z_iadd (e := (J 8 2) + 1) rfl rfl ?_
                      refine z_putI (y := 1) rfl rfl rfl ?_
                      refine z_aload rfl rfl ?_
                      refine z_getI (v := (J 8 2) + 1) rfl rfl (zU_e) ?_
                      refine z_pushI (z := 1) rfl rfl ?_
                      refine z_isub (e := (J 8 2) + 1 - 1) rfl rfl ?_
                      refine z_iret rfl rfl ?_
                      show zW _ _ _ _ _ _ _ _ _ _
                      refine z_iret rfl rfl ?_
                      refine ⟨?_, ?_⟩
                      · exfalso
                        omega
                      · exfalso
                        omega
                  · refine z_aload rfl rfl ?_
                    refine z_getR (r := 9) rfl rfl (hR _ rm_8_1) ?_
                    refine z_iload rfl rfl ?_
                    refine z_iload rfl rfl ?_
                    refine z_iast (e := 5) rfl rfl (by decide) (by omega) rfl ?_
                    refine z_vret rfl rfl ?_
                    show zW _ _ _ _ _ _ _ _ _ _
                    refine z_aload rfl rfl ?_
                    refine z_iload rfl rfl ?_
                    refine z_pushI (z := 4) rfl rfl ?_
                    refine z_getS rfl ?_
                    refine z_pushI (z := 4) rfl rfl ?_
                    refine z_sald (j := 0) (n := 14) (v := 0) rfl (by decide) rfl (by decide) (by decide) rfl ?_
                    refine z_callVi (As := [_, _, _]) (le := [some _, some _, some _, some _, none]) rfl rfl rfl (Nat.le_of_ble_eq_true rfl) (Nat.le_of_ble_eq_true rfl) rfl ?_
                    refine z_aload rfl rfl ?_
                    refine z_iload rfl rfl ?_
                    refine z_iload rfl rfl ?_
                    refine z_callVi (As := [_, _]) (le := [some _, some _, some _]) rfl rfl rfl (Nat.le_of_ble_eq_true rfl) (Nat.le_of_ble_eq_true rfl) rfl ?_
                    refine z_iload rfl rfl ?_
                    refine z_if_ltF rfl (by decide) (by decide) ?_
                    refine z_iload rfl rfl ?_
                    refine z_pushI (z := 14) rfl rfl ?_
                    refine z_icmp_ltT rfl (by decide) (by decide) (by decide) ?_
                    refine z_iload rfl rfl ?_
                    refine z_pushI (z := 5) rfl rfl ?_
                    refine z_icmp_geF rfl (by decide) (by decide) (by decide) ?_
                    refine z_aload rfl rfl ?_
                    refine z_iload rfl rfl ?_
                    refine z_callVi (As := [_]) (le := [some _, some _]) rfl rfl rfl (Nat.le_of_ble_eq_true rfl) (Nat.le_of_ble_eq_true rfl) rfl ?_
                    refine z_iload rfl rfl ?_
                    refine z_if_ltF rfl (by omega) (by omega) ?_
                    refine z_iload rfl rfl ?_
                    refine z_aload rfl rfl ?_
                    refine z_getI (v := (J 8 2) + 1) rfl rfl ((zU_n (by decide)).trans (zU_e)) ?_
                    refine z_icmp_geF rfl (by omega) (by omega) (by omega) ?_
                    refine z_pushI (z := 1) rfl rfl ?_
                    refine z_goto rfl ?_
                    refine z_bret rfl rfl (by decide) ?_
                    show zW _ _ _ _ _ _ _ _ _ _
                    refine z_if_eqF rfl (by decide) (by decide) ?_
                    refine z_iload rfl rfl ?_
                    refine z_pushI (z := 5) rfl rfl ?_
                    refine z_imul (e := (J 8 2) * 5) rfl rfl ?_
                    refine z_iload rfl rfl ?_
                    refine z_iadd (e := (J 8 2) * 5 + 4) rfl rfl ?_
                    refine z_goto rfl ?_
                    refine z_iret rfl rfl ?_
                    show zW _ _ _ _ _ _ _ _ _ _
                    refine z_istore rfl rfl ?_
                    refine z_iload rfl rfl ?_
                    refine z_if_ltF rfl (by omega) (by omega) ?_
                    refine z_aload rfl rfl ?_
                    refine z_getR (r := 9) rfl rfl (hR _ rm_8_1) ?_
                    refine z_iload rfl rfl ?_
                    refine z_iload rfl rfl ?_
                    refine z_iast (e := 0) rfl rfl (by decide) (by omega) rfl ?_
                    refine z_vret rfl rfl ?_
                    show zW _ _ _ _ _ _ _ _ _ _
                    refine z_iload rfl rfl ?_
                    refine z_iret rfl rfl ?_
                    show zW _ _ _ _ _ _ _ _ _ _
                    refine z_iret rfl rfl ?_
                    refine ⟨_, rfl, ?_⟩
                    show zW _ _ _ _ [some (.ref 50), some (zi p), some (zi q)] _ _ _ _ _
                    refine z_iload rfl rfl ?_
                    refine z_pushI (z := 0) rfl rfl ?_
                    refine z_pushI (z := 9999) rfl rfl ?_
                    refine z_callSi (As := [_, _, _]) (le := [some _, some _, some _]) rfl rfl (Nat.le_of_ble_eq_true rfl) (Nat.le_of_ble_eq_true rfl) rfl ?_
                    refine z_iload rfl rfl ?_
                    refine z_iload rfl rfl ?_
                    refine z_icmp_ltF rfl (by omega) (by decide) (by omega) ?_
                    refine z_iload rfl rfl ?_
                    refine z_iload rfl rfl ?_
                    refine z_icmp_gtF rfl (by omega) (by decide) (by omega) ?_
                    refine z_pushI (z := 1) rfl rfl ?_
                    refine z_goto rfl ?_
                    refine z_bret rfl rfl (by decide) ?_
                    show zW _ _ _ _ _ _ _ _ _ _
                    refine z_if_eqF rfl (by decide) (by decide) ?_
                    refine z_iload rfl rfl ?_
                    refine z_pushI (z := 0) rfl rfl ?_
                    refine z_pushI (z := 99) rfl rfl ?_
                    refine z_callSi (As := [_, _, _]) (le := [some _, some _, some _]) rfl rfl (Nat.le_of_ble_eq_true rfl) (Nat.le_of_ble_eq_true rfl) rfl ?_
                    refine z_iload rfl rfl ?_
                    refine z_iload rfl rfl ?_
                    refine z_icmp_ltF rfl (by omega) (by decide) (by omega) ?_
                    refine z_iload rfl rfl ?_
                    refine z_iload rfl rfl ?_
                    refine z_icmp_gtF rfl (by omega) (by decide) (by omega) ?_
                    refine z_pushI (z := 1) rfl rfl ?_
                    refine z_goto rfl ?_
                    refine z_bret rfl rfl (by decide) ?_
                    show zW _ _ _ _ _ _ _ _ _ _
                    refine z_if_neT rfl (by decide) (by decide) ?_
                    refine z_aload rfl rfl ?_
                    refine z_getI (v := J 8 2) rfl rfl ((zU_n (by decide)).trans ((zU_n (by decide)).trans ((zU_n (by decide)).trans (y2.symm)))) ?_
                    refine z_pushI (z := 8) rfl rfl ?_
                    refine z_icmp_neT rfl (by omega) (by decide) (by omega) ?_
                    refine z_aload rfl rfl ?_
                    refine z_iload rfl rfl ?_
                    refine z_pushI (z := 100) rfl rfl ?_
                    refine z_irem (e := p % 100) rfl (by omega) (by omega) rfl ?_
                    refine z_iload rfl rfl ?_
                    refine z_pushI (z := 100) rfl rfl ?_
                    refine z_idiv (e := p / 100) rfl (by omega) (by omega) rfl ?_
                    refine z_iload rfl rfl ?_
                    refine z_callVi (As := [_, _, _]) (le := [some _, some _, some _, some _]) rfl rfl rfl (Nat.le_of_ble_eq_true rfl) (Nat.le_of_ble_eq_true rfl) rfl ?_
                    refine z_aload rfl rfl ?_
                    refine z_getR (r := 51) rfl rfl (hRr _ rm_50_2 (by decide)) ?_
                    refine z_aload rfl rfl ?_
                    refine z_getI (v := J 8 2) rfl rfl ((zU_n (by decide)).trans ((zU_n (by decide)).trans ((zU_n (by decide)).trans (y2.symm)))) ?_
                    refine z_iload rfl rfl ?_
                    refine z_iast (e := p % 100) rfl rfl (by decide) (by omega) rfl ?_
                    refine z_aload rfl rfl ?_
                    refine z_getR (r := 52) rfl rfl (hRr _ rm_50_3 (by decide)) ?_
                    refine z_aload rfl rfl ?_
                    refine z_getI (v := J 8 2) rfl rfl ((zU_n (by decide)).trans ((zU_n (by decide)).trans ((zU_n (by decide)).trans ((zU_n (by decide)).trans (y2.symm))))) ?_
                    refine z_iload rfl rfl ?_
                    refine z_iast (e := p / 100) rfl rfl (by decide) (by omega) rfl ?_
                    refine z_aload rfl rfl ?_
                    refine z_getR (r := 53) rfl rfl (hRr _ rm_50_4 (by decide)) ?_
                    refine z_aload rfl rfl ?_
                    refine z_getI (v := J 8 2) rfl rfl ((zU_n (by decide)).trans ((zU_n (by decide)).trans ((zU_n (by decide)).trans ((zU_n (by decide)).trans ((zU_n (by decide)).trans (y2.symm)))))) ?_
                    refine z_iload rfl rfl ?_
                    refine z_iast (e := q) rfl rfl (by decide) (by omega) rfl ?_
                    refine z_aload rfl rfl ?_
                    refine z_getR (r := 54) rfl rfl (hRr _ rm_50_5 (by decide)) ?_
                    refine z_aload rfl rfl ?_
                    refine z_getI (v := J 8 2) rfl rfl ((zU_n (by decide)).trans ((zU_n (by decide)).trans ((zU_n (by decide)).trans ((zU_n (by decide)).trans ((zU_n (by decide)).trans ((zU_n (by decide)).trans (y2.symm))))))) ?_
                    refine z_pushI (z := 5) rfl rfl ?_
                    refine z_iast (e := 5) rfl rfl (by decide) (by omega) rfl ?_
                    refine z_aload rfl rfl ?_
                    refine z_getR (r := 55) rfl rfl (hRr _ rm_50_6 (by decide)) ?_
                    refine z_aload rfl rfl ?_
                    refine z_getI (v := J 8 2) rfl rfl ((zU_n (by decide)).trans ((zU_n (by decide)).trans ((zU_n (by decide)).trans ((zU_n (by decide)).trans ((zU_n (by decide)).trans ((zU_n (by decide)).trans ((zU_n (by decide)).trans (y2.symm)))))))) ?_
                    refine z_pushI (z := 0) rfl rfl ?_
                    refine z_iast (e := 0) rfl rfl (by decide) (by omega) rfl ?_
                    refine z_aload rfl rfl ?_
                    refine z_getR (r := 75) rfl rfl (hRr _ rm_50_42 (by decide)) ?_
                    refine z_aload rfl rfl ?_
                    refine z_getI (v := J 8 2) rfl rfl ((zU_n (by decide)).trans ((zU_n (by decide)).trans ((zU_n (by decide)).trans ((zU_n (by decide)).trans ((zU_n (by decide)).trans ((zU_n (by decide)).trans ((zU_n (by decide)).trans ((zU_n (by decide)).trans (y2.symm))))))))) ?_
                    refine z_pushI (z := 0) rfl rfl ?_
                    refine z_iast (e := 0) rfl rfl (by decide) (by omega) rfl ?_
                    refine z_aload rfl rfl ?_
                    refine z_getR (r := 76) rfl rfl (hRr _ rm_50_43 (by decide)) ?_
                    refine z_aload rfl rfl ?_
                    refine z_getI (v := J 8 2) rfl rfl ((zU_n (by decide)).trans ((zU_n (by decide)).trans ((zU_n (by decide)).trans ((zU_n (by decide)).trans ((zU_n (by decide)).trans ((zU_n (by decide)).trans ((zU_n (by decide)).trans ((zU_n (by decide)).trans ((zU_n (by decide)).trans (y2.symm)))))))))) ?_
                    refine z_pushI (z := 0) rfl rfl ?_
                    refine z_iast (e := 0) rfl rfl (by decide) (by omega) rfl ?_
                    refine z_aload rfl rfl ?_
                    refine z_dup rfl rfl ?_
                    refine z_getI (v := J 8 2) rfl rfl ((zU_n (by decide)).trans ((zU_n (by decide)).trans ((zU_n (by decide)).trans ((zU_n (by decide)).trans ((zU_n (by decide)).trans ((zU_n (by decide)).trans ((zU_n (by decide)).trans ((zU_n (by decide)).trans ((zU_n (by decide)).trans ((zU_n (by decide)).trans (y2.symm))))))))))) ?_
                    refine z_pushI (z := 1) rfl rfl ?_
                    refine z_iadd (e := (J 8 2) + 1) rfl rfl ?_
                    refine z_putI (y := 1) rfl rfl rfl ?_
                    refine z_aload rfl rfl ?_
                    refine z_getI (v := (J 8 2) + 1) rfl rfl (zU_e) ?_
                    refine z_pushI (z := 1) rfl rfl ?_
                    refine z_isub (e := (J 8 2) + 1 - 1) rfl rfl ?_
                    refine z_iret rfl rfl ?_
                    show zW _ _ _ _ _ _ _ _ _ _
                    refine z_iret rfl rfl ?_
                    refine ⟨?_, ?_⟩
                    · exfalso
                      omega
                    · exfalso
                      omega
                · refine z_aload rfl rfl ?_
                  refine z_getR (r := 9) rfl rfl (hR _ rm_8_1) ?_
                  refine z_iload rfl rfl ?_
                  refine z_iload rfl rfl ?_
                  refine z_iast (e := q) rfl rfl (by decide) (by omega) rfl ?_
                  refine z_vret rfl rfl ?_
                  show zW _ _ _ _ _ _ _ _ _ _
                  refine z_aload rfl rfl ?_
                  refine z_iload rfl rfl ?_
                  refine z_pushI (z := 3) rfl rfl ?_
                  refine z_getS rfl ?_
                  refine z_pushI (z := 3) rfl rfl ?_
                  refine z_sald (j := 0) (n := 14) (v := 5) rfl (by decide) rfl (by decide) (by decide) rfl ?_
                  refine z_callVi (As := [_, _, _]) (le := [some _, some _, some _, some _, none]) rfl rfl rfl (Nat.le_of_ble_eq_true rfl) (Nat.le_of_ble_eq_true rfl) rfl ?_
                  refine z_aload rfl rfl ?_
                  refine z_iload rfl rfl ?_
                  refine z_iload rfl rfl ?_
                  refine z_callVi (As := [_, _]) (le := [some _, some _, some _]) rfl rfl rfl (Nat.le_of_ble_eq_true rfl) (Nat.le_of_ble_eq_true rfl) rfl ?_
                  refine z_iload rfl rfl ?_
                  refine z_if_ltF rfl (by decide) (by decide) ?_
                  refine z_iload rfl rfl ?_
                  refine z_pushI (z := 14) rfl rfl ?_
                  refine z_icmp_ltT rfl (by decide) (by decide) (by decide) ?_
                  refine z_iload rfl rfl ?_
                  refine z_pushI (z := 5) rfl rfl ?_
                  refine z_icmp_geF rfl (by decide) (by decide) (by decide) ?_
                  refine z_aload rfl rfl ?_
                  refine z_iload rfl rfl ?_
                  refine z_callVi (As := [_]) (le := [some _, some _]) rfl rfl rfl (Nat.le_of_ble_eq_true rfl) (Nat.le_of_ble_eq_true rfl) rfl ?_
                  refine z_iload rfl rfl ?_
                  refine z_if_ltF rfl (by omega) (by omega) ?_
                  refine z_iload rfl rfl ?_
                  refine z_aload rfl rfl ?_
                  refine z_getI (v := (J 8 2) + 1) rfl rfl ((zU_n (by decide)).trans (zU_e)) ?_
                  refine z_icmp_geF rfl (by omega) (by omega) (by omega) ?_
                  refine z_pushI (z := 1) rfl rfl ?_
                  refine z_goto rfl ?_
                  refine z_bret rfl rfl (by decide) ?_
                  show zW _ _ _ _ _ _ _ _ _ _
                  refine z_if_eqF rfl (by decide) (by decide) ?_
                  refine z_iload rfl rfl ?_
                  refine z_pushI (z := 5) rfl rfl ?_
                  refine z_imul (e := (J 8 2) * 5) rfl rfl ?_
                  refine z_iload rfl rfl ?_
                  refine z_iadd (e := (J 8 2) * 5 + 3) rfl rfl ?_
                  refine z_goto rfl ?_
                  refine z_iret rfl rfl ?_
                  show zW _ _ _ _ _ _ _ _ _ _
                  refine z_istore rfl rfl ?_
                  refine z_iload rfl rfl ?_
                  refine z_if_ltF rfl (by omega) (by omega) ?_
                  refine z_aload rfl rfl ?_
                  refine z_getR (r := 9) rfl rfl (hR _ rm_8_1) ?_
                  refine z_iload rfl rfl ?_
                  refine z_iload rfl rfl ?_
                  refine z_iast (e := 5) rfl rfl (by decide) (by omega) rfl ?_
                  refine z_vret rfl rfl ?_
                  show zW _ _ _ _ _ _ _ _ _ _
                  refine z_aload rfl rfl ?_
                  refine z_iload rfl rfl ?_
                  refine z_pushI (z := 4) rfl rfl ?_
                  refine z_getS rfl ?_
                  refine z_pushI (z := 4) rfl rfl ?_
                  refine z_sald (j := 0) (n := 14) (v := 0) rfl (by decide) rfl (by decide) (by decide) rfl ?_
                  refine z_callVi (As := [_, _, _]) (le := [some _, some _, some _, some _, none]) rfl rfl rfl (Nat.le_of_ble_eq_true rfl) (Nat.le_of_ble_eq_true rfl) rfl ?_
                  refine z_aload rfl rfl ?_
                  refine z_iload rfl rfl ?_
                  refine z_iload rfl rfl ?_
                  refine z_callVi (As := [_, _]) (le := [some _, some _, some _]) rfl rfl rfl (Nat.le_of_ble_eq_true rfl) (Nat.le_of_ble_eq_true rfl) rfl ?_
                  refine z_iload rfl rfl ?_
                  refine z_if_ltF rfl (by decide) (by decide) ?_
                  refine z_iload rfl rfl ?_
                  refine z_pushI (z := 14) rfl rfl ?_
                  refine z_icmp_ltT rfl (by decide) (by decide) (by decide) ?_
                  refine z_iload rfl rfl ?_
                  refine z_pushI (z := 5) rfl rfl ?_
                  refine z_icmp_geF rfl (by decide) (by decide) (by decide) ?_
                  refine z_aload rfl rfl ?_
                  refine z_iload rfl rfl ?_
                  refine z_callVi (As := [_]) (le := [some _, some _]) rfl rfl rfl (Nat.le_of_ble_eq_true rfl) (Nat.le_of_ble_eq_true rfl) rfl ?_
                  refine z_iload rfl rfl ?_
                  refine z_if_ltF rfl (by omega) (by omega) ?_
                  refine z_iload rfl rfl ?_
                  refine z_aload rfl rfl ?_
                  refine z_getI (v := (J 8 2) + 1) rfl rfl ((zU_n (by decide)).trans ((zU_n (by decide)).trans (zU_e))) ?_
                  refine z_icmp_geF rfl (by omega) (by omega) (by omega) ?_
                  refine z_pushI (z := 1) rfl rfl ?_
                  refine z_goto rfl ?_
                  refine z_bret rfl rfl (by decide) ?_
                  show zW _ _ _ _ _ _ _ _ _ _
                  refine z_if_eqF rfl (by decide) (by decide) ?_
                  refine z_iload rfl rfl ?_
                  refine z_pushI (z := 5) rfl rfl ?_
                  refine z_imul (e := (J 8 2) * 5) rfl rfl ?_
                  refine z_iload rfl rfl ?_
                  refine z_iadd (e := (J 8 2) * 5 + 4) rfl rfl ?_
                  refine z_goto rfl ?_
                  refine z_iret rfl rfl ?_
                  show zW _ _ _ _ _ _ _ _ _ _
                  refine z_istore rfl rfl ?_
                  refine z_iload rfl rfl ?_
                  refine z_if_ltF rfl (by omega) (by omega) ?_
                  refine z_aload rfl rfl ?_
                  refine z_getR (r := 9) rfl rfl (hR _ rm_8_1) ?_
                  refine z_iload rfl rfl ?_
                  refine z_iload rfl rfl ?_
                  refine z_iast (e := 0) rfl rfl (by decide) (by omega) rfl ?_
                  refine z_vret rfl rfl ?_
                  show zW _ _ _ _ _ _ _ _ _ _
                  refine z_iload rfl rfl ?_
                  refine z_iret rfl rfl ?_
                  show zW _ _ _ _ _ _ _ _ _ _
                  refine z_iret rfl rfl ?_
                  refine ⟨_, rfl, ?_⟩
                  show zW _ _ _ _ [some (.ref 50), some (zi p), some (zi q)] _ _ _ _ _
                  refine z_iload rfl rfl ?_
                  refine z_pushI (z := 0) rfl rfl ?_
                  refine z_pushI (z := 9999) rfl rfl ?_
                  refine z_callSi (As := [_, _, _]) (le := [some _, some _, some _]) rfl rfl (Nat.le_of_ble_eq_true rfl) (Nat.le_of_ble_eq_true rfl) rfl ?_
                  refine z_iload rfl rfl ?_
                  refine z_iload rfl rfl ?_
                  refine z_icmp_ltF rfl (by omega) (by decide) (by omega) ?_
                  refine z_iload rfl rfl ?_
                  refine z_iload rfl rfl ?_
                  refine z_icmp_gtF rfl (by omega) (by decide) (by omega) ?_
                  refine z_pushI (z := 1) rfl rfl ?_
                  refine z_goto rfl ?_
                  refine z_bret rfl rfl (by decide) ?_
                  show zW _ _ _ _ _ _ _ _ _ _
                  refine z_if_eqF rfl (by decide) (by decide) ?_
                  refine z_iload rfl rfl ?_
                  refine z_pushI (z := 0) rfl rfl ?_
                  refine z_pushI (z := 99) rfl rfl ?_
                  refine z_callSi (As := [_, _, _]) (le := [some _, some _, some _]) rfl rfl (Nat.le_of_ble_eq_true rfl) (Nat.le_of_ble_eq_true rfl) rfl ?_
                  refine z_iload rfl rfl ?_
                  refine z_iload rfl rfl ?_
                  refine z_icmp_ltF rfl (by omega) (by decide) (by omega) ?_
                  refine z_iload rfl rfl ?_
                  refine z_iload rfl rfl ?_
                  refine z_icmp_gtF rfl (by omega) (by decide) (by omega) ?_
                  refine z_pushI (z := 1) rfl rfl ?_
                  refine z_goto rfl ?_
                  refine z_bret rfl rfl (by decide) ?_
                  show zW _ _ _ _ _ _ _ _ _ _
                  refine z_if_neT rfl (by decide) (by decide) ?_
                  refine z_aload rfl rfl ?_
                  refine z_getI (v := J 8 2) rfl rfl ((zU_n (by decide)).trans ((zU_n (by decide)).trans ((zU_n (by decide)).trans ((zU_n (by decide)).trans (y2.symm))))) ?_
                  refine z_pushI (z := 8) rfl rfl ?_
                  refine z_icmp_neT rfl (by omega) (by decide) (by omega) ?_
                  refine z_aload rfl rfl ?_
                  refine z_iload rfl rfl ?_
                  refine z_pushI (z := 100) rfl rfl ?_
                  refine z_irem (e := p % 100) rfl (by omega) (by omega) rfl ?_
                  refine z_iload rfl rfl ?_
                  refine z_pushI (z := 100) rfl rfl ?_
                  refine z_idiv (e := p / 100) rfl (by omega) (by omega) rfl ?_
                  refine z_iload rfl rfl ?_
                  refine z_callVi (As := [_, _, _]) (le := [some _, some _, some _, some _]) rfl rfl rfl (Nat.le_of_ble_eq_true rfl) (Nat.le_of_ble_eq_true rfl) rfl ?_
                  refine z_aload rfl rfl ?_
                  refine z_getR (r := 51) rfl rfl (hRr _ rm_50_2 (by decide)) ?_
                  refine z_aload rfl rfl ?_
                  refine z_getI (v := J 8 2) rfl rfl ((zU_n (by decide)).trans ((zU_n (by decide)).trans ((zU_n (by decide)).trans ((zU_n (by decide)).trans (y2.symm))))) ?_
                  refine z_iload rfl rfl ?_
                  refine z_iast (e := p % 100) rfl rfl (by decide) (by omega) rfl ?_
                  refine z_aload rfl rfl ?_
                  refine z_getR (r := 52) rfl rfl (hRr _ rm_50_3 (by decide)) ?_
                  refine z_aload rfl rfl ?_
                  refine z_getI (v := J 8 2) rfl rfl ((zU_n (by decide)).trans ((zU_n (by decide)).trans ((zU_n (by decide)).trans ((zU_n (by decide)).trans ((zU_n (by decide)).trans (y2.symm)))))) ?_
                  refine z_iload rfl rfl ?_
                  refine z_iast (e := p / 100) rfl rfl (by decide) (by omega) rfl ?_
                  refine z_aload rfl rfl ?_
                  refine z_getR (r := 53) rfl rfl (hRr _ rm_50_4 (by decide)) ?_
                  refine z_aload rfl rfl ?_
                  refine z_getI (v := J 8 2) rfl rfl ((zU_n (by decide)).trans ((zU_n (by decide)).trans ((zU_n (by decide)).trans ((zU_n (by decide)).trans ((zU_n (by decide)).trans ((zU_n (by decide)).trans (y2.symm))))))) ?_
                  refine z_iload rfl rfl ?_
                  refine z_iast (e := q) rfl rfl (by decide) (by omega) rfl ?_
                  refine z_aload rfl rfl ?_
                  refine z_getR (r := 54) rfl rfl (hRr _ rm_50_5 (by decide)) ?_
                  refine z_aload rfl rfl ?_
                  refine z_getI (v := J 8 2) rfl rfl ((zU_n (by decide)).trans ((zU_n (by decide)).trans ((zU_n (by decide)).trans ((zU_n (by decide)).trans ((zU_n (by decide)).trans ((zU_n (by decide)).trans ((zU_n (by decide)).trans (y2.symm)))))))) ?_
                  refine z_pushI (z := 5) rfl rfl ?_
                  refine z_iast (e := 5) rfl rfl (by decide) (by omega) rfl ?_
                  refine z_aload rfl rfl ?_
                  refine z_getR (r := 55) rfl rfl (hRr _ rm_50_6 (by decide)) ?_
                  refine z_aload rfl rfl ?_
                  refine z_getI (v := J 8 2) rfl rfl ((zU_n (by decide)).trans ((zU_n (by decide)).trans ((zU_n (by decide)).trans ((zU_n (by decide)).trans ((zU_n (by decide)).trans ((zU_n (by decide)).trans ((zU_n (by decide)).trans ((zU_n (by decide)).trans (y2.symm))))))))) ?_
                  refine z_pushI (z := 0) rfl rfl ?_
                  refine z_iast (e := 0) rfl rfl (by decide) (by omega) rfl ?_
                  refine z_aload rfl rfl ?_
                  refine z_getR (r := 75) rfl rfl (hRr _ rm_50_42 (by decide)) ?_
                  refine z_aload rfl rfl ?_
                  refine z_getI (v := J 8 2) rfl rfl ((zU_n (by decide)).trans ((zU_n (by decide)).trans ((zU_n (by decide)).trans ((zU_n (by decide)).trans ((zU_n (by decide)).trans ((zU_n (by decide)).trans ((zU_n (by decide)).trans ((zU_n (by decide)).trans ((zU_n (by decide)).trans (y2.symm)))))))))) ?_
                  refine z_pushI (z := 0) rfl rfl ?_
                  refine z_iast (e := 0) rfl rfl (by decide) (by omega) rfl ?_
                  refine z_aload rfl rfl ?_
                  refine z_getR (r := 76) rfl rfl (hRr _ rm_50_43 (by decide)) ?_
                  refine z_aload rfl rfl ?_
                  refine z_getI (v := J 8 2) rfl rfl ((zU_n (by decide)).trans ((zU_n (by decide)).trans ((zU_n (by decide)).trans ((zU_n (by decide)).trans ((zU_n (by decide)).trans ((zU_n (by decide)).trans ((zU_n (by decide)).trans ((zU_n (by decide)).trans ((zU_n (by decide)).trans ((zU_n (by decide)).trans (y2.symm))))))))))) ?_
                  refine z_pushI (z := 0) rfl rfl ?_
                  refine z_iast (e := 0) rfl rfl (by decide) (by omega) rfl ?_
                  refine z_aload rfl rfl ?_
                  refine z_dup rfl rfl ?_
                  refine z_getI (v := J 8 2) rfl rfl ((zU_n (by decide)).trans ((zU_n (by decide)).trans ((zU_n (by decide)).trans ((zU_n (by decide)).trans ((zU_n (by decide)).trans ((zU_n (by decide)).trans ((zU_n (by decide)).trans ((zU_n (by decide)).trans ((zU_n (by decide)).trans ((zU_n (by decide)).trans ((zU_n (by decide)).trans (y2.symm)))))))))))) ?_
                  refine z_pushI (z := 1) rfl rfl ?_
                  refine z_iadd (e := (J 8 2) + 1) rfl rfl ?_
                  refine z_putI (y := 1) rfl rfl rfl ?_
                  refine z_aload rfl rfl ?_
                  refine z_getI (v := (J 8 2) + 1) rfl rfl (zU_e) ?_
                  refine z_pushI (z := 1) rfl rfl ?_
                  refine z_isub (e := (J 8 2) + 1 - 1) rfl rfl ?_
                  refine z_iret rfl rfl ?_
                  show zW _ _ _ _ _ _ _ _ _ _
                  refine z_iret rfl rfl ?_
                  refine ⟨?_, ?_⟩
                  · exfalso
                    omega
                  · exfalso
                    omega
              · refine z_aload rfl rfl ?_
                refine z_getR (r := 9) rfl rfl (hR _ rm_8_1) ?_
                refine z_iload rfl rfl ?_
                refine z_iload rfl rfl ?_
                refine z_iast (e := p / 100) rfl rfl (by decide) (by omega) rfl ?_
                refine z_vret rfl rfl ?_
                show zW _ _ _ _ _ _ _ _ _ _
                refine z_aload rfl rfl ?_
                refine z_iload rfl rfl ?_
                refine z_pushI (z := 2) rfl rfl ?_
                refine z_iload rfl rfl ?_
                refine z_callVi (As := [_, _, _]) (le := [some _, some _, some _, some _, none]) rfl rfl rfl (Nat.le_of_ble_eq_true rfl) (Nat.le_of_ble_eq_true rfl) rfl ?_
                refine z_aload rfl rfl ?_
                refine z_iload rfl rfl ?_
                refine z_iload rfl rfl ?_
                refine z_callVi (As := [_, _]) (le := [some _, some _, some _]) rfl rfl rfl (Nat.le_of_ble_eq_true rfl) (Nat.le_of_ble_eq_true rfl) rfl ?_
                refine z_iload rfl rfl ?_
                refine z_if_ltF rfl (by decide) (by decide) ?_
                refine z_iload rfl rfl ?_
                refine z_pushI (z := 14) rfl rfl ?_
                refine z_icmp_ltT rfl (by decide) (by decide) (by decide) ?_
                refine z_iload rfl rfl ?_
                refine z_pushI (z := 5) rfl rfl ?_
                refine z_icmp_geF rfl (by decide) (by decide) (by decide) ?_
                refine z_aload rfl rfl ?_
                refine z_iload rfl rfl ?_
                refine z_callVi (As := [_]) (le := [some _, some _]) rfl rfl rfl (Nat.le_of_ble_eq_true rfl) (Nat.le_of_ble_eq_true rfl) rfl ?_
                refine z_iload rfl rfl ?_
                refine z_if_ltF rfl (by omega) (by omega) ?_
                refine z_iload rfl rfl ?_
                refine z_aload rfl rfl ?_
                refine z_getI (v := (J 8 2) + 1) rfl rfl ((zU_n (by decide)).trans (zU_e)) ?_
                refine z_icmp_geF rfl (by omega) (by omega) (by omega) ?_
                refine z_pushI (z := 1) rfl rfl ?_
                refine z_goto rfl ?_
                refine z_bret rfl rfl (by decide) ?_
                show zW _ _ _ _ _ _ _ _ _ _
                refine z_if_eqF rfl (by decide) (by decide) ?_
                refine z_iload rfl rfl ?_
                refine z_pushI (z := 5) rfl rfl ?_
                refine z_imul (e := (J 8 2) * 5) rfl rfl ?_
                refine z_iload rfl rfl ?_
                refine z_iadd (e := (J 8 2) * 5 + 2) rfl rfl ?_
                refine z_goto rfl ?_
                refine z_iret rfl rfl ?_
                show zW _ _ _ _ _ _ _ _ _ _
                refine z_istore rfl rfl ?_
                refine z_iload rfl rfl ?_
                refine z_if_ltF rfl (by omega) (by omega) ?_
                refine z_aload rfl rfl ?_
                refine z_getR (r := 9) rfl rfl (hR _ rm_8_1) ?_
                refine z_iload rfl rfl ?_
                refine z_iload rfl rfl ?_
                refine z_iast (e := q) rfl rfl (by decide) (by omega) rfl ?_
                refine z_vret rfl rfl ?_
                show zW _ _ _ _ _ _ _ _ _ _
                refine z_aload rfl rfl ?_
                refine z_iload rfl rfl ?_
                refine z_pushI (z := 3) rfl rfl ?_
                refine z_getS rfl ?_
                refine z_pushI (z := 3) rfl rfl ?_
                refine z_sald (j := 0) (n := 14) (v := 5) rfl (by decide) rfl (by decide) (by decide) rfl ?_
                refine z_callVi (As := [_, _, _]) (le := [some _, some _, some _, some _, none]) rfl rfl rfl (Nat.le_of_ble_eq_true rfl) (Nat.le_of_ble_eq_true rfl) rfl ?_
                refine z_aload rfl rfl ?_
                refine z_iload rfl rfl ?_
                refine z_iload rfl rfl ?_
                refine z_callVi (As := [_, _]) (le := [some _, some _, some _]) rfl rfl rfl (Nat.le_of_ble_eq_true rfl) (Nat.le_of_ble_eq_true rfl) rfl ?_
                refine z_iload rfl rfl ?_
                refine z_if_ltF rfl (by decide) (by decide) ?_
                refine z_iload rfl rfl ?_
                refine z_pushI (z := 14) rfl rfl ?_
                refine z_icmp_ltT rfl (by decide) (by decide) (by decide) ?_
                refine z_iload rfl rfl ?_
                refine z_pushI (z := 5) rfl rfl ?_
                refine z_icmp_geF rfl (by decide) (by decide) (by decide) ?_
                refine z_aload rfl rfl ?_
                refine z_iload rfl rfl ?_
                refine z_callVi (As := [_]) (le := [some _, some _]) rfl rfl rfl (Nat.le_of_ble_eq_true rfl) (Nat.le_of_ble_eq_true rfl) rfl ?_
                refine z_iload rfl rfl ?_
                refine z_if_ltF rfl (by omega) (by omega) ?_
                refine z_iload rfl rfl ?_
                refine z_aload rfl rfl ?_
                refine z_getI (v := (J 8 2) + 1) rfl rfl ((zU_n (by decide)).trans ((zU_n (by decide)).trans (zU_e))) ?_
                refine z_icmp_geF rfl (by omega) (by omega) (by omega) ?_
                refine z_pushI (z := 1) rfl rfl ?_
                refine z_goto rfl ?_
                refine z_bret rfl rfl (by decide) ?_
                show zW _ _ _ _ _ _ _ _ _ _
                refine z_if_eqF rfl (by decide) (by decide) ?_
                refine z_iload rfl rfl ?_
                refine z_pushI (z := 5) rfl rfl ?_
                refine z_imul (e := (J 8 2) * 5) rfl rfl ?_
                refine z_iload rfl rfl ?_
                refine z_iadd (e := (J 8 2) * 5 + 3) rfl rfl ?_
                refine z_goto rfl ?_
                refine z_iret rfl rfl ?_
                show zW _ _ _ _ _ _ _ _ _ _
                refine z_istore rfl rfl ?_
                refine z_iload rfl rfl ?_
                refine z_if_ltF rfl (by omega) (by omega) ?_
                refine z_aload rfl rfl ?_
                refine z_getR (r := 9) rfl rfl (hR _ rm_8_1) ?_
                refine z_iload rfl rfl ?_
                refine z_iload rfl rfl ?_
                refine z_iast (e := 5) rfl rfl (by decide) (by omega) rfl ?_
                refine z_vret rfl rfl ?_
                show zW _ _ _ _ _ _ _ _ _ _
                refine z_aload rfl rfl ?_
                refine z_iload rfl rfl ?_
                refine z_pushI (z := 4) rfl rfl ?_
                refine z_getS rfl ?_
                refine z_pushI (z := 4) rfl rfl ?_
                refine z_sald (j := 0) (n := 14) (v := 0) rfl (by decide) rfl (by decide) (by decide) rfl ?_
                refine z_callVi (As := [_, _, _]) (le := [some _, some _, some _, some _, none]) rfl rfl rfl (Nat.le_of_ble_eq_true rfl) (Nat.le_of_ble_eq_true rfl) rfl ?_
                refine z_aload rfl rfl ?_
                refine z_iload rfl rfl ?_
                refine z_iload rfl rfl ?_
                refine z_callVi (As := [_, _]) (le := [some _, some _, some _]) rfl rfl rfl (Nat.le_of_ble_eq_true rfl) (Nat.le_of_ble_eq_true rfl) rfl ?_
                refine z_iload rfl rfl ?_
                refine z_if_ltF rfl (by decide) (by decide) ?_
                refine z_iload rfl rfl ?_
                refine z_pushI (z := 14) rfl rfl ?_
                refine z_icmp_ltT rfl (by decide) (by decide) (by decide) ?_
                refine z_iload rfl rfl ?_
                refine z_pushI (z := 5) rfl rfl ?_
                refine z_icmp_geF rfl (by decide) (by decide) (by decide) ?_
                refine z_aload rfl rfl ?_
                refine z_iload rfl rfl ?_
                refine z_callVi (As := [_]) (le := [some _, some _]) rfl rfl rfl (Nat.le_of_ble_eq_true rfl) (Nat.le_of_ble_eq_true rfl) rfl ?_
                refine z_iload rfl rfl ?_
                refine z_if_ltF rfl (by omega) (by omega) ?_
                refine z_iload rfl rfl ?_
                refine z_aload rfl rfl ?_
                refine z_getI (v := (J 8 2) + 1) rfl rfl ((zU_n (by decide)).trans ((zU_n (by decide)).trans ((zU_n (by decide)).trans (zU_e)))) ?_
                refine z_icmp_geF rfl (by omega) (by omega) (by omega) ?_
                refine z_pushI (z := 1) rfl rfl ?_
                refine z_goto rfl ?_
                refine z_bret rfl rfl (by decide) ?_
                show zW _ _ _ _ _ _ _ _ _ _
                refine z_if_eqF rfl (by decide) (by decide) ?_
                refine z_iload rfl rfl ?_
                refine z_pushI (z := 5) rfl rfl ?_
                refine z_imul (e := (J 8 2) * 5) rfl rfl ?_
                refine z_iload rfl rfl ?_
                refine z_iadd (e := (J 8 2) * 5 + 4) rfl rfl ?_
                refine z_goto rfl ?_
                refine z_iret rfl rfl ?_
                show zW _ _ _ _ _ _ _ _ _ _
                refine z_istore rfl rfl ?_
                refine z_iload rfl rfl ?_
                refine z_if_ltF rfl (by omega) (by omega) ?_
                refine z_aload rfl rfl ?_
                refine z_getR (r := 9) rfl rfl (hR _ rm_8_1) ?_
                refine z_iload rfl rfl ?_
                refine z_iload rfl rfl ?_
                refine z_iast (e := 0) rfl rfl (by decide) (by omega) rfl ?_
                refine z_vret rfl rfl ?_
                show zW _ _ _ _ _ _ _ _ _ _
                refine z_iload rfl rfl ?_
                refine z_iret rfl rfl ?_
                show zW _ _ _ _ _ _ _ _ _ _
                refine z_iret rfl rfl ?_
                refine ⟨_, rfl, ?_⟩
                show zW _ _ _ _ [some (.ref 50), some (zi p), some (zi q)] _ _ _ _ _
                refine z_iload rfl rfl ?_
                refine z_pushI (z := 0) rfl rfl ?_
                refine z_pushI (z := 9999) rfl rfl ?_
                refine z_callSi (As := [_, _, _]) (le := [some _, some _, some _]) rfl rfl (Nat.le_of_ble_eq_true rfl) (Nat.le_of_ble_eq_true rfl) rfl ?_
                refine z_iload rfl rfl ?_
                refine z_iload rfl rfl ?_
                refine z_icmp_ltF rfl (by omega) (by decide) (by omega) ?_
                refine z_iload rfl rfl ?_
                refine z_iload rfl rfl ?_
                refine z_icmp_gtF rfl (by omega) (by decide) (by omega) ?_
                refine z_pushI (z := 1) rfl rfl ?_
                refine z_goto rfl ?_
                refine z_bret rfl rfl (by decide) ?_
                show zW _ _ _ _ _ _ _ _ _ _
                refine z_if_eqF rfl (by decide) (by decide) ?_
                refine z_iload rfl rfl ?_
                refine z_pushI (z := 0) rfl rfl ?_
                refine z_pushI (z := 99) rfl rfl ?_
                refine z_callSi (As := [_, _, _]) (le := [some _, some _, some _]) rfl rfl (Nat.le_of_ble_eq_true rfl) (Nat.le_of_ble_eq_true rfl) rfl ?_
                refine z_iload rfl rfl ?_
                refine z_iload rfl rfl ?_
                refine z_icmp_ltF rfl (by omega) (by decide) (by omega) ?_
                refine z_iload rfl rfl ?_
                refine z_iload rfl rfl ?_
                refine z_icmp_gtF rfl (by omega) (by decide) (by omega) ?_
                refine z_pushI (z := 1) rfl rfl ?_
                refine z_goto rfl ?_
                refine z_bret rfl rfl (by decide) ?_
                show zW _ _ _ _ _ _ _ _ _ _
                refine z_if_neT rfl (by decide) (by decide) ?_
                refine z_aload rfl rfl ?_
                refine z_getI (v := J 8 2) rfl rfl ((zU_n (by decide)).trans ((zU_n (by decide)).trans ((zU_n (by decide)).trans ((zU_n (by decide)).trans ((zU_n (by decide)).trans (y2.symm)))))) ?_
                refine z_pushI (z := 8) rfl rfl ?_
                refine z_icmp_neT rfl (by omega) (by decide) (by omega) ?_
                refine z_aload rfl rfl ?_
                refine z_iload rfl rfl ?_
                refine z_pushI (z := 100) rfl rfl ?_
                refine z_irem (e := p % 100) rfl (by omega) (by omega) rfl ?_
                refine z_iload rfl rfl ?_
                refine z_pushI (z := 100) rfl rfl ?_
                refine z_idiv (e := p / 100) rfl (by omega) (by omega) rfl ?_
                refine z_iload rfl rfl ?_
                refine z_callVi (As := [_, _, _]) (le := [some _, some _, some _, some _]) rfl rfl rfl (Nat.le_of_ble_eq_true rfl) (Nat.le_of_ble_eq_true rfl) rfl ?_
                refine z_aload rfl rfl ?_
                refine z_getR (r := 51) rfl rfl (hRr _ rm_50_2 (by decide)) ?_
                refine z_aload rfl rfl ?_
                refine z_getI (v := J 8 2) rfl rfl ((zU_n (by decide)).trans ((zU_n (by decide)).trans ((zU_n (by decide)).trans ((zU_n (by decide)).trans ((zU_n (by decide)).trans (y2.symm)))))) ?_
                refine z_iload rfl rfl ?_
                refine z_iast (e := p % 100) rfl rfl (by decide) (by omega) rfl ?_
                refine z_aload rfl rfl ?_
                refine z_getR (r := 52) rfl rfl (hRr _ rm_50_3 (by decide)) ?_
                refine z_aload rfl rfl ?_
                refine z_getI (v := J 8 2) rfl rfl ((zU_n (by decide)).trans ((zU_n (by decide)).trans ((zU_n (by decide)).trans ((zU_n (by decide)).trans ((zU_n (by decide)).trans ((zU_n (by decide)).trans (y2.symm))))))) ?_
                refine z_iload rfl rfl ?_
                refine z_iast (e := p / 100) rfl rfl (by decide) (by omega) rfl ?_
                refine z_aload rfl rfl ?_
                refine z_getR (r := 53) rfl rfl (hRr _ rm_50_4 (by decide)) ?_
                refine z_aload rfl rfl ?_
                refine z_getI (v := J 8 2) rfl rfl ((zU_n (by decide)).trans ((zU_n (by decide)).trans ((zU_n (by decide)).trans ((zU_n (by decide)).trans ((zU_n (by decide)).trans ((zU_n (by decide)).trans ((zU_n (by decide)).trans (y2.symm)))))))) ?_
                refine z_iload rfl rfl ?_
                refine z_iast (e := q) rfl rfl (by decide) (by omega) rfl ?_
                refine z_aload rfl rfl ?_
                refine z_getR (r := 54) rfl rfl (hRr _ rm_50_5 (by decide)) ?_
                refine z_aload rfl rfl ?_
                refine z_getI (v := J 8 2) rfl rfl ((zU_n (by decide)).trans ((zU_n (by decide)).trans ((zU_n (by decide)).trans ((zU_n (by decide)).trans ((zU_n (by decide)).trans ((zU_n (by decide)).trans ((zU_n (by decide)).trans ((zU_n (by decide)).trans (y2.symm))))))))) ?_
                refine z_pushI (z := 5) rfl rfl ?_
                refine z_iast (e := 5) rfl rfl (by decide) (by omega) rfl ?_
                refine z_aload rfl rfl ?_
                refine z_getR (r := 55) rfl rfl (hRr _ rm_50_6 (by decide)) ?_
                refine z_aload rfl rfl ?_
                refine z_getI (v := J 8 2) rfl rfl ((zU_n (by decide)).trans ((zU_n (by decide)).trans ((zU_n (by decide)).trans ((zU_n (by decide)).trans ((zU_n (by decide)).trans ((zU_n (by decide)).trans ((zU_n (by decide)).trans ((zU_n (by decide)).trans ((zU_n (by decide)).trans (y2.symm)))))))))) ?_
                refine z_pushI (z := 0) rfl rfl ?_
                refine z_iast (e := 0) rfl rfl (by decide) (by omega) rfl ?_
                refine z_aload rfl rfl ?_
                refine z_getR (r := 75) rfl rfl (hRr _ rm_50_42 (by decide)) ?_
                refine z_aload rfl rfl ?_
                refine z_getI (v := J 8 2) rfl rfl ((zU_n (by decide)).trans ((zU_n (by decide)).trans ((zU_n (by decide)).trans ((zU_n (by decide)).trans ((zU_n (by decide)).trans ((zU_n (by decide)).trans ((zU_n (by decide)).trans ((zU_n (by decide)).trans ((zU_n (by decide)).trans ((zU_n (by decide)).trans (y2.symm))))))))))) ?_
                refine z_pushI (z := 0) rfl rfl ?_
                refine z_iast (e := 0) rfl rfl (by decide) (by omega) rfl ?_
                refine z_aload rfl rfl ?_
                refine z_getR (r := 76) rfl rfl (hRr _ rm_50_43 (by decide)) ?_
                refine z_aload rfl rfl ?_
                refine z_getI (v := J 8 2) rfl rfl ((zU_n (by decide)).trans ((zU_n (by decide)).trans ((zU_n (by decide)).trans ((zU_n (by decide)).trans ((zU_n (by decide)).trans ((zU_n (by decide)).trans ((zU_n (by decide)).trans ((zU_n (by decide)).trans ((zU_n (by decide)).trans ((zU_n (by decide)).trans ((zU_n (by decide)).trans (y2.symm)))))))))))) ?_
                refine z_pushI (z := 0) rfl rfl ?_
                refine z_iast (e := 0) rfl rfl (by decide) (by omega) rfl ?_
                refine z_aload rfl rfl ?_
                refine z_dup rfl rfl ?_
                refine z_getI (v := J 8 2) rfl rfl ((zU_n (by decide)).trans ((zU_n (by decide)).trans ((zU_n (by decide)).trans ((zU_n (by decide)).trans ((zU_n (by decide)).trans ((zU_n (by decide)).trans ((zU_n (by decide)).trans ((zU_n (by decide)).trans ((zU_n (by decide)).trans ((zU_n (by decide)).trans ((zU_n (by decide)).trans ((zU_n (by decide)).trans (y2.symm))))))))))))) ?_
                refine z_pushI (z := 1) rfl rfl ?_
                refine z_iadd (e := (J 8 2) + 1) rfl rfl ?_
                refine z_putI (y := 1) rfl rfl rfl ?_
                refine z_aload rfl rfl ?_
                refine z_getI (v := (J 8 2) + 1) rfl rfl (zU_e) ?_
                refine z_pushI (z := 1) rfl rfl ?_
                refine z_isub (e := (J 8 2) + 1 - 1) rfl rfl ?_
                refine z_iret rfl rfl ?_
                show zW _ _ _ _ _ _ _ _ _ _
                refine z_iret rfl rfl ?_
                refine ⟨?_, ?_⟩
                · exfalso
                  omega
                · exfalso
                  omega
            · refine z_aload rfl rfl ?_
              refine z_getR (r := 9) rfl rfl (hR _ rm_8_1) ?_
              refine z_iload rfl rfl ?_
              refine z_iload rfl rfl ?_
              refine z_iast (e := p % 100) rfl rfl (by decide) (by omega) rfl ?_
              refine z_vret rfl rfl ?_
              show zW _ _ _ _ _ _ _ _ _ _
              refine z_aload rfl rfl ?_
              refine z_iload rfl rfl ?_
              refine z_pushI (z := 1) rfl rfl ?_
              refine z_iload rfl rfl ?_
              refine z_callVi (As := [_, _, _]) (le := [some _, some _, some _, some _, none]) rfl rfl rfl (Nat.le_of_ble_eq_true rfl) (Nat.le_of_ble_eq_true rfl) rfl ?_
              refine z_aload rfl rfl ?_
              refine z_iload rfl rfl ?_
              refine z_iload rfl rfl ?_
              refine z_callVi (As := [_, _]) (le := [some _, some _, some _]) rfl rfl rfl (Nat.le_of_ble_eq_true rfl) (Nat.le_of_ble_eq_true rfl) rfl ?_
              refine z_iload rfl rfl ?_
              refine z_if_ltF rfl (by decide) (by decide) ?_
              refine z_iload rfl rfl ?_
              refine z_pushI (z := 14) rfl rfl ?_
              refine z_icmp_ltT rfl (by decide) (by decide) (by decide) ?_
              refine z_iload rfl rfl ?_
              refine z_pushI (z := 5) rfl rfl ?_
              refine z_icmp_geF rfl (by decide) (by decide) (by decide) ?_
              refine z_aload rfl rfl ?_
              refine z_iload rfl rfl ?_
              refine z_callVi (As := [_]) (le := [some _, some _]) rfl rfl rfl (Nat.le_of_ble_eq_true rfl) (Nat.le_of_ble_eq_true rfl) rfl ?_
              refine z_iload rfl rfl ?_
              refine z_if_ltF rfl (by omega) (by omega) ?_
              refine z_iload rfl rfl ?_
              refine z_aload rfl rfl ?_
              refine z_getI (v := (J 8 2) + 1) rfl rfl ((zU_n (by decide)).trans (zU_e)) ?_
              refine z_icmp_geF rfl (by omega) (by omega) (by omega) ?_
              refine z_pushI (z := 1) rfl rfl ?_
              refine z_goto rfl ?_
              refine z_bret rfl rfl (by decide) ?_
              show zW _ _ _ _ _ _ _ _ _ _
              refine z_if_eqF rfl (by decide) (by decide) ?_
              refine z_iload rfl rfl ?_
              refine z_pushI (z := 5) rfl rfl ?_
              refine z_imul (e := (J 8 2) * 5) rfl rfl ?_
              refine z_iload rfl rfl ?_
              refine z_iadd (e := (J 8 2) * 5 + 1) rfl rfl ?_
              refine z_goto rfl ?_
              refine z_iret rfl rfl ?_
              show zW _ _ _ _ _ _ _ _ _ _
              refine z_istore rfl rfl ?_
              refine z_iload rfl rfl ?_
              refine z_if_ltF rfl (by omega) (by omega) ?_
              refine z_aload rfl rfl ?_
              refine z_getR (r := 9) rfl rfl (hR _ rm_8_1) ?_
              refine z_iload rfl rfl ?_
              refine z_iload rfl rfl ?_
              refine z_iast (e := p / 100) rfl rfl (by decide) (by omega) rfl ?_
              refine z_vret rfl rfl ?_
              show zW _ _ _ _ _ _ _ _ _ _
              refine z_aload rfl rfl ?_
              refine z_iload rfl rfl ?_
              refine z_pushI (z := 2) rfl rfl ?_
              refine z_iload rfl rfl ?_
              refine z_callVi (As := [_, _, _]) (le := [some _, some _, some _, some _, none]) rfl rfl rfl (Nat.le_of_ble_eq_true rfl) (Nat.le_of_ble_eq_true rfl) rfl ?_
              refine z_aload rfl rfl ?_
              refine z_iload rfl rfl ?_
              refine z_iload rfl rfl ?_
              refine z_callVi (As := [_, _]) (le := [some _, some _, some _]) rfl rfl rfl (Nat.le_of_ble_eq_true rfl) (Nat.le_of_ble_eq_true rfl) rfl ?_
              refine z_iload rfl rfl ?_
              refine z_if_ltF rfl (by decide) (by decide) ?_
              refine z_iload rfl rfl ?_
              refine z_pushI (z := 14) rfl rfl ?_
              refine z_icmp_ltT rfl (by decide) (by decide) (by decide) ?_
              refine z_iload rfl rfl ?_
              refine z_pushI (z := 5) rfl rfl ?_
              refine z_icmp_geF rfl (by decide) (by decide) (by decide) ?_
              refine z_aload rfl rfl ?_
              refine z_iload rfl rfl ?_
              refine z_callVi (As := [_]) (le := [some _, some _]) rfl rfl rfl (Nat.le_of_ble_eq_true rfl) (Nat.le_of_ble_eq_true rfl) rfl ?_
              refine z_iload rfl rfl ?_
              refine z_if_ltF rfl (by omega) (by omega) ?_
              refine z_iload rfl rfl ?_
              refine z_aload rfl rfl ?_
              refine z_getI (v := (J 8 2) + 1) rfl rfl ((zU_n (by decide)).trans ((zU_n (by decide)).trans (zU_e))) ?_
              refine z_icmp_geF rfl (by omega) (by omega) (by omega) ?_
              refine z_pushI (z := 1) rfl rfl ?_
              refine z_goto rfl ?_
              refine z_bret rfl rfl (by decide) ?_
              show zW _ _ _ _ _ _ _ _ _ _
              refine z_if_eqF rfl (by decide) (by decide) ?_
              refine z_iload rfl rfl ?_
              refine z_pushI (z := 5) rfl rfl ?_
              refine z_imul (e := (J 8 2) * 5) rfl rfl ?_
              refine z_iload rfl rfl ?_
              refine z_iadd (e := (J 8 2) * 5 + 2) rfl rfl ?_
              refine z_goto rfl ?_
              refine z_iret rfl rfl ?_
              show zW _ _ _ _ _ _ _ _ _ _
              refine z_istore rfl rfl ?_
              refine z_iload rfl rfl ?_
              refine z_if_ltF rfl (by omega) (by omega) ?_
              refine z_aload rfl rfl ?_
              refine z_getR (r := 9) rfl rfl (hR _ rm_8_1) ?_
              refine z_iload rfl rfl ?_
              refine z_iload rfl rfl ?_
              refine z_iast (e := q) rfl rfl (by decide) (by omega) rfl ?_
              refine z_vret rfl rfl ?_
              show zW _ _ _ _ _ _ _ _ _ _
              refine z_aload rfl rfl ?_
              refine z_iload rfl rfl ?_
              refine z_pushI (z := 3) rfl rfl ?_
              refine z_getS rfl ?_
              refine z_pushI (z := 3) rfl rfl ?_
              refine z_sald (j := 0) (n := 14) (v := 5) rfl (by decide) rfl (by decide) (by decide) rfl ?_
              refine z_callVi (As := [_, _, _]) (le := [some _, some _, some _, some _, none]) rfl rfl rfl (Nat.le_of_ble_eq_true rfl) (Nat.le_of_ble_eq_true rfl) rfl ?_
              refine z_aload rfl rfl ?_
              refine z_iload rfl rfl ?_
              refine z_iload rfl rfl ?_
              refine z_callVi (As := [_, _]) (le := [some _, some _, some _]) rfl rfl rfl (Nat.le_of_ble_eq_true rfl) (Nat.le_of_ble_eq_true rfl) rfl ?_
              refine z_iload rfl rfl ?_
              refine z_if_ltF rfl (by decide) (by decide) ?_
              refine z_iload rfl rfl ?_
              refine z_pushI (z := 14) rfl rfl ?_
              refine z_icmp_ltT rfl (by decide) (by decide) (by decide) ?_
              refine z_iload rfl rfl ?_
              refine z_pushI (z := 5) rfl rfl ?_
              refine z_icmp_geF rfl (by decide) (by decide) (by decide) ?_
              refine z_aload rfl rfl ?_
              refine z_iload rfl rfl ?_
              refine z_callVi (As := [_]) (le := [some _, some _]) rfl rfl rfl (Nat.le_of_ble_eq_true rfl) (Nat.le_of_ble_eq_true rfl) rfl ?_
              refine z_iload rfl rfl ?_
              refine z_if_ltF rfl (by omega) (by omega) ?_
              refine z_iload rfl rfl ?_
              refine z_aload rfl rfl ?_
              refine z_getI (v := (J 8 2) + 1) rfl rfl ((zU_n (by decide)).trans ((zU_n (by decide)).trans ((zU_n (by decide)).trans (zU_e)))) ?_
              refine z_icmp_geF rfl (by omega) (by omega) (by omega) ?_
              refine z_pushI (z := 1) rfl rfl ?_
              refine z_goto rfl ?_
              refine z_bret rfl rfl (by decide) ?_
              show zW _ _ _ _ _ _ _ _ _ _
              refine z_if_eqF rfl (by decide) (by decide) ?_
              refine z_iload rfl rfl ?_
              refine z_pushI (z := 5) rfl rfl ?_
              refine z_imul (e := (J 8 2) * 5) rfl rfl ?_
              refine z_iload rfl rfl ?_
              refine z_iadd (e := (J 8 2) * 5 + 3) rfl rfl ?_
              refine z_goto rfl ?_
              refine z_iret rfl rfl ?_
              show zW _ _ _ _ _ _ _ _ _ _
              refine z_istore rfl rfl ?_
              refine z_iload rfl rfl ?_
              refine z_if_ltF rfl (by omega) (by omega) ?_
              refine z_aload rfl rfl ?_
              refine z_getR (r := 9) rfl rfl (hR _ rm_8_1) ?_
              refine z_iload rfl rfl ?_
              refine z_iload rfl rfl ?_
              refine z_iast (e := 5) rfl rfl (by decide) (by omega) rfl ?_
              refine z_vret rfl rfl ?_
              show zW _ _ _ _ _ _ _ _ _ _
              refine z_aload rfl rfl ?_
              refine z_iload rfl rfl ?_
              refine z_pushI (z := 4) rfl rfl ?_
              refine z_getS rfl ?_
              refine z_pushI (z := 4) rfl rfl ?_
              refine z_sald (j := 0) (n := 14) (v := 0) rfl (by decide) rfl (by decide) (by decide) rfl ?_
              refine z_callVi (As := [_, _, _]) (le := [some _, some _, some _, some _, none]) rfl rfl rfl (Nat.le_of_ble_eq_true rfl) (Nat.le_of_ble_eq_true rfl) rfl ?_
              refine z_aload rfl rfl ?_
              refine z_iload rfl rfl ?_
              refine z_iload rfl rfl ?_
              refine z_callVi (As := [_, _]) (le := [some _, some _, some _]) rfl rfl rfl (Nat.le_of_ble_eq_true rfl) (Nat.le_of_ble_eq_true rfl) rfl ?_
              refine z_iload rfl rfl ?_
              refine z_if_ltF rfl (by decide) (by decide) ?_
              refine z_iload rfl rfl ?_
              refine z_pushI (z := 14) rfl rfl ?_
              refine z_icmp_ltT rfl (by decide) (by decide) (by decide) ?_
              refine z_iload rfl rfl ?_
              refine z_pushI (z := 5) rfl rfl ?_
              refine z_icmp_geF rfl (by decide) (by decide) (by decide) ?_
              refine z_aload rfl rfl ?_
              refine z_iload rfl rfl ?_
              refine z_callVi (As := [_]) (le := [some _, some _]) rfl rfl rfl (Nat.le_of_ble_eq_true rfl) (Nat.le_of_ble_eq_true rfl) rfl ?_
              refine z_iload rfl rfl ?_
              refine z_if_ltF rfl (by omega) (by omega) ?_
              refine z_iload rfl rfl ?_
              refine z_aload rfl rfl ?_
              refine z_getI (v := (J 8 2) + 1) rfl rfl ((zU_n (by decide)).trans ((zU_n (by decide)).trans ((zU_n (by decide)).trans ((zU_n (by decide)).trans (zU_e))))) ?_
              refine z_icmp_geF rfl (by omega) (by omega) (by omega) ?_
              refine z_pushI (z := 1) rfl rfl ?_
              refine z_goto rfl ?_
              refine z_bret rfl rfl (by decide) ?_
              show zW _ _ _ _ _ _ _ _ _ _
              refine z_if_eqF rfl (by decide) (by decide) ?_
              refine z_iload rfl rfl ?_
              refine z_pushI (z := 5) rfl rfl ?_
              refine z_imul (e := (J 8 2) * 5) rfl rfl ?_
              refine z_iload rfl rfl ?_
              refine z_iadd (e := (J 8 2) * 5 + 4) rfl rfl ?_
              refine z_goto rfl ?_
              refine z_iret rfl rfl ?_
              show zW _ _ _ _ _ _ _ _ _ _
              refine z_istore rfl rfl ?_
              refine z_iload rfl rfl ?_
              refine z_if_ltF rfl (by omega) (by omega) ?_
              refine z_aload rfl rfl ?_
              refine z_getR (r := 9) rfl rfl (hR _ rm_8_1) ?_
              refine z_iload rfl rfl ?_
              refine z_iload rfl rfl ?_
              refine z_iast (e := 0) rfl rfl (by decide) (by omega) rfl ?_
              refine z_vret rfl rfl ?_
              show zW _ _ _ _ _ _ _ _ _ _
              refine z_iload rfl rfl ?_
              refine z_iret rfl rfl ?_
              show zW _ _ _ _ _ _ _ _ _ _
              refine z_iret rfl rfl ?_
              refine ⟨_, rfl, ?_⟩
              show zW _ _ _ _ [some (.ref 50), some (zi p), some (zi q)] _ _ _ _ _
              refine z_iload rfl rfl ?_
              refine z_pushI (z := 0) rfl rfl ?_
              refine z_pushI (z := 9999) rfl rfl ?_
              refine z_callSi (As := [_, _, _]) (le := [some _, some _, some _]) rfl rfl (Nat.le_of_ble_eq_true rfl) (Nat.le_of_ble_eq_true rfl) rfl ?_
              refine z_iload rfl rfl ?_
              refine z_iload rfl rfl ?_
              refine z_icmp_ltF rfl (by omega) (by decide) (by omega) ?_
              refine z_iload rfl rfl ?_
              refine z_iload rfl rfl ?_
              refine z_icmp_gtF rfl (by omega) (by decide) (by omega) ?_
              refine z_pushI (z := 1) rfl rfl ?_
              refine z_goto rfl ?_
              refine z_bret rfl rfl (by decide) ?_
              show zW _ _ _ _ _ _ _ _ _ _
              refine z_if_eqF rfl (by decide) (by decide) ?_
              refine z_iload rfl rfl ?_
              refine z_pushI (z := 0) rfl rfl ?_
              refine z_pushI (z := 99) rfl rfl ?_
              refine z_callSi (As := [_, _, _]) (le := [some _, some _, some _]) rfl rfl (Nat.le_of_ble_eq_true rfl) (Nat.le_of_ble_eq_true rfl) rfl ?_
              refine z_iload rfl rfl ?_
              refine z_iload rfl rfl ?_
              refine z_icmp_ltF rfl (by omega) (by decide) (by omega) ?_
              refine z_iload rfl rfl ?_
              refine z_iload rfl rfl ?_
              refine z_icmp_gtF rfl (by omega) (by decide) (by omega) ?_
              refine z_pushI (z := 1) rfl rfl ?_
              refine z_goto rfl ?_
              refine z_bret rfl rfl (by decide) ?_
              show zW _ _ _ _ _ _ _ _ _ _
              refine z_if_neT rfl (by decide) (by decide) ?_
              refine z_aload rfl rfl ?_
              refine z_getI (v := J 8 2) rfl rfl ((zU_n (by decide)).trans ((zU_n (by decide)).trans ((zU_n (by decide)).trans ((zU_n (by decide)).trans ((zU_n (by decide)).trans ((zU_n (by decide)).trans (y2.symm))))))) ?_
              refine z_pushI (z := 8) rfl rfl ?_
              refine z_icmp_neT rfl (by omega) (by decide) (by omega) ?_
              refine z_aload rfl rfl ?_
              refine z_iload rfl rfl ?_
              refine z_pushI (z := 100) rfl rfl ?_
              refine z_irem (e := p % 100) rfl (by omega) (by omega) rfl ?_
              refine z_iload rfl rfl ?_
              refine z_pushI (z := 100) rfl rfl ?_
              refine z_idiv (e := p / 100) rfl (by omega) (by omega) rfl ?_
              refine z_iload rfl rfl ?_
              refine z_callVi (As := [_, _, _]) (le := [some _, some _, some _, some _]) rfl rfl rfl (Nat.le_of_ble_eq_true rfl) (Nat.le_of_ble_eq_true rfl) rfl ?_
              refine z_aload rfl rfl ?_
              refine z_getR (r := 51) rfl rfl (hRr _ rm_50_2 (by decide)) ?_
              refine z_aload rfl rfl ?_
              refine z_getI (v := J 8 2) rfl rfl ((zU_n (by decide)).trans ((zU_n (by decide)).trans ((zU_n (by decide)).trans ((zU_n (by decide)).trans ((zU_n (by decide)).trans ((zU_n (by decide)).trans (y2.symm))))))) ?_
              refine z_iload rfl rfl ?_
              refine z_iast (e := p % 100) rfl rfl (by decide) (by omega) rfl ?_
              refine z_aload rfl rfl ?_
              refine z_getR (r := 52) rfl rfl (hRr _ rm_50_3 (by decide)) ?_
              refine z_aload rfl rfl ?_
              refine z_getI (v := J 8 2) rfl rfl ((zU_n (by decide)).trans ((zU_n (by decide)).trans ((zU_n (by decide)).trans ((zU_n (by decide)).trans ((zU_n (by decide)).trans ((zU_n (by decide)).trans ((zU_n (by decide)).trans (y2.symm)))))))) ?_
              refine z_iload rfl rfl ?_
              refine z_iast (e := p / 100) rfl rfl (by decide) (by omega) rfl ?_
              refine z_aload rfl rfl ?_
              refine z_getR (r := 53) rfl rfl (hRr _ rm_50_4 (by decide)) ?_
              refine z_aload rfl rfl ?_
              refine z_getI (v := J 8 2) rfl rfl ((zU_n (by decide)).trans ((zU_n (by decide)).trans ((zU_n (by decide)).trans ((zU_n (by decide)).trans ((zU_n (by decide)).trans ((zU_n (by decide)).trans ((zU_n (by decide)).trans ((zU_n (by decide)).trans (y2.symm))))))))) ?_
              refine z_iload rfl rfl ?_
              refine z_iast (e := q) rfl rfl (by decide) (by omega) rfl ?_
              refine z_aload rfl rfl ?_
              refine z_getR (r := 54) rfl rfl (hRr _ rm_50_5 (by decide)) ?_
              refine z_aload rfl rfl ?_
              refine z_getI (v := J 8 2) rfl rfl ((zU_n (by decide)).trans ((zU_n (by decide)).trans ((zU_n (by decide)).trans ((zU_n (by decide)).trans ((zU_n (by decide)).trans ((zU_n (by decide)).trans ((zU_n (by decide)).trans ((zU_n (by decide)).trans ((zU_n (by decide)).trans (y2.symm)))))))))) ?_
              refine z_pushI (z := 5) rfl rfl ?_
              refine z_iast (e := 5) rfl rfl (by decide) (by omega) rfl ?_
              refine z_aload rfl rfl ?_
              refine z_getR (r := 55) rfl rfl (hRr _ rm_50_6 (by decide)) ?_
              refine z_aload rfl rfl ?_
              refine z_getI (v := J 8 2) rfl rfl ((zU_n (by decide)).trans ((zU_n (by decide)).trans ((zU_n (by decide)).trans ((zU_n (by decide)).trans ((zU_n (by decide)).trans ((zU_n (by decide)).trans ((zU_n (by decide)).trans ((zU_n (by decide)).trans ((zU_n (by decide)).trans ((zU_n (by decide)).trans (y2.symm))))))))))) ?_
              refine z_pushI (z := 0) rfl rfl ?_
              refine z_iast (e := 0) rfl rfl (by decide) (by omega) rfl ?_
              refine z_aload rfl rfl ?_
              refine z_getR (r := 75) rfl rfl (hRr _ rm_50_42 (by decide)) ?_
              refine z_aload rfl rfl ?_
              refine z_getI (v := J 8 2) rfl rfl ((zU_n (by decide)).trans ((zU_n (by decide)).trans ((zU_n (by decide)).trans ((zU_n (by decide)).trans ((zU_n (by decide)).trans ((zU_n (by decide)).trans ((zU_n (by decide)).trans ((zU_n (by decide)).trans ((zU_n (by decide)).trans ((zU_n (by decide)).trans ((zU_n (by decide)).trans (y2.symm)))))))))))) ?_
              refine z_pushI (z := 0) rfl rfl ?_
              refine z_iast (e := 0) rfl rfl (by decide) (by omega) rfl ?_
              refine z_aload rfl rfl ?_
              refine z_getR (r := 76) rfl rfl (hRr _ rm_50_43 (by decide)) ?_
              refine z_aload rfl rfl ?_
              refine z_getI (v := J 8 2) rfl rfl ((zU_n (by decide)).trans ((zU_n (by decide)).trans ((zU_n (by decide)).trans ((zU_n (by decide)).trans ((zU_n (by decide)).trans ((zU_n (by decide)).trans ((zU_n (by decide)).trans ((zU_n (by decide)).trans ((zU_n (by decide)).trans ((zU_n (by decide)).trans ((zU_n (by decide)).trans ((zU_n (by decide)).trans (y2.symm))))))))))))) ?_
              refine z_pushI (z := 0) rfl rfl ?_
              refine z_iast (e := 0) rfl rfl (by decide) (by omega) rfl ?_
              refine z_aload rfl rfl ?_
              refine z_dup rfl rfl ?_
              refine z_getI (v := J 8 2) rfl rfl ((zU_n (by decide)).trans ((zU_n (by decide)).trans ((zU_n (by decide)).trans ((zU_n (by decide)).trans ((zU_n (by decide)).trans ((zU_n (by decide)).trans ((zU_n (by decide)).trans ((zU_n (by decide)).trans ((zU_n (by decide)).trans ((zU_n (by decide)).trans ((zU_n (by decide)).trans ((zU_n (by decide)).trans ((zU_n (by decide)).trans (y2.symm)))))))))))))) ?_
              refine z_pushI (z := 1) rfl rfl ?_
              refine z_iadd (e := (J 8 2) + 1) rfl rfl ?_
              refine z_putI (y := 1) rfl rfl rfl ?_
              refine z_aload rfl rfl ?_
              refine z_getI (v := (J 8 2) + 1) rfl rfl (zU_e) ?_
              refine z_pushI (z := 1) rfl rfl ?_
              refine z_isub (e := (J 8 2) + 1 - 1) rfl rfl ?_
              refine z_iret rfl rfl ?_
              show zW _ _ _ _ _ _ _ _ _ _
              refine z_iret rfl rfl ?_
              refine ⟨?_, ?_⟩
              · first | rfl | exact congrArg (fun v => some (zi v)) (by omega) | (exfalso; omega)
              · have hk := (zK_x (a := 50) (x := 1) (v := (J 8 2) + 1) (zK_x (a := 76) (x := J 8 2) (v := 0) (zK_x (a := 75) (x := J 8 2) (v := 0) (zK_x (a := 55) (x := J 8 2) (v := 0) (zK_x (a := 54) (x := J 8 2) (v := 5) (zK_x (a := 53) (x := J 8 2) (v := q) (zK_x (a := 52) (x := J 8 2) (v := p / 100) (zK_x (a := 51) (x := J 8 2) (v := p % 100) (zK_x (a := 9) (x := (J 8 2) * 5 + 4) (v := 0) (zK_x (a := 9) (x := (J 8 2) * 5 + 3) (v := 5) (zK_x (a := 9) (x := (J 8 2) * 5 + 2) (v := q) (zK_x (a := 9) (x := (J 8 2) * 5 + 1) (v := p / 100) (zK_x (a := 9) (x := (J 8 2) * 5 + 0) (v := p % 100) (zK_x (a := 8) (x := 2) (v := (J 8 2) + 1) (zK_r (k := (kL [9, 51, 52, 53, 54, 55, 75, 76] [(8, 2), (50, 1)])) (A := J)) rfl) rfl) rfl) rfl) rfl) rfl) rfl) rfl) rfl) rfl) rfl) rfl) rfl) rfl)
                exact ⟨hR, hG, RelY_add hY (by omega) (by omega) (by omega) (by omega), RelD_add hD (by omega), RelP_add hP, RelC_add hC, RelA_k hk (by repeat' constructor) (fun p => by repeat' constructor) hAc, RelS_k hk (zK_r (k := kM)) (fun x j a b => ⟨kL_38 (by decide) (by decide) x j a b, kM_38 x j a b⟩) (fun p => ⟨rfl, rfl, rfl⟩) rfl hS, RelT_k hk (by repeat' constructor) (fun p => by repeat' constructor) hTp, RelX_k hk (by repeat' constructor) (fun p => by repeat' constructor) hX, RelW_k hk ⟨rfl, rfl⟩ trivial hW⟩
          · refine z_pushI (z := (-3)) rfl rfl ?_
            refine z_iret rfl rfl ?_
            refine ⟨_, rfl, ?_⟩
            show zW _ _ _ _ [some (.ref 50), some (zi p), some (zi q)] _ _ _ _ _
            refine z_iload rfl rfl ?_
            refine z_pushI (z := 0) rfl rfl ?_
            refine z_pushI (z := 9999) rfl rfl ?_
            refine z_callSi (As := [_, _, _]) (le := [some _, some _, some _]) rfl rfl (Nat.le_of_ble_eq_true rfl) (Nat.le_of_ble_eq_true rfl) rfl ?_
            refine z_iload rfl rfl ?_
            refine z_iload rfl rfl ?_
            refine z_icmp_ltF rfl (by omega) (by decide) (by omega) ?_
            refine z_iload rfl rfl ?_
            refine z_iload rfl rfl ?_
            refine z_icmp_gtF rfl (by omega) (by decide) (by omega) ?_
            refine z_pushI (z := 1) rfl rfl ?_
            refine z_goto rfl ?_
            refine z_bret rfl rfl (by decide) ?_
            show zW _ _ _ _ _ _ _ _ _ _
            refine z_if_eqF rfl (by decide) (by decide) ?_
            refine z_iload rfl rfl ?_
            refine z_pushI (z := 0) rfl rfl ?_
            refine z_pushI (z := 99) rfl rfl ?_
            refine z_callSi (As := [_, _, _]) (le := [some _, some _, some _]) rfl rfl (Nat.le_of_ble_eq_true rfl) (Nat.le_of_ble_eq_true rfl) rfl ?_
            refine z_iload rfl rfl ?_
            refine z_iload rfl rfl ?_
            refine z_icmp_ltF rfl (by omega) (by decide) (by omega) ?_
            refine z_iload rfl rfl ?_
            refine z_iload rfl rfl ?_
            refine z_icmp_gtF rfl (by omega) (by decide) (by omega) ?_
            refine z_pushI (z := 1) rfl rfl ?_
            refine z_goto rfl ?_
            refine z_bret rfl rfl (by decide) ?_
            show zW _ _ _ _ _ _ _ _ _ _
            refine z_if_neT rfl (by decide) (by decide) ?_
            refine z_aload rfl rfl ?_
            refine z_getI (v := J 8 2) rfl rfl (y2.symm) ?_
            refine z_pushI (z := 8) rfl rfl ?_
            refine z_icmp_neF rfl (by omega) (by decide) (by omega) ?_
            refine z_pushI (z := (-3)) rfl rfl ?_
            refine z_goto rfl ?_
            refine z_iret rfl rfl ?_
            refine ⟨?_, ?_⟩
            · first | rfl | exact congrArg (fun v => some (zi v)) (by omega) | (exfalso; omega)
            · exact hr
