theorem RelD_add {J : zA} {x y o : Int} (h : RelD J) (hn : J 8 2 < 8) : RelD (zU (zU (zU (zU (zU (zU (zU (zU (zU (zU (zU (zU (zU (zU J 8 2 (J 8 2 + 1)) 9 (J 8 2 * 5 + 0) x) 9 (J 8 2 * 5 + 1) y) 9 (J 8 2 * 5 + 2) o) 9 (J 8 2 * 5 + 3) 5) 9 (J 8 2 * 5 + 4) 0) 51 (J 8 2) x) 52 (J 8 2) y) 53 (J 8 2) o) 54 (J 8 2) 5) 55 (J 8 2) 0) 75 (J 8 2) 0) 76 (J 8 2) 0) 50 1 (J 8 2 + 1)) := by
  obtain ⟨a, b, c, e, f, g⟩ := h
  have e75 : ∀ p, (zU (zU (zU (zU (zU (zU (zU (zU (zU (zU (zU (zU (zU (zU J 8 2 (J 8 2 + 1)) 9 (J 8 2 * 5 + 0) x) 9 (J 8 2 * 5 + 1) y) 9 (J 8 2 * 5 + 2) o) 9 (J 8 2 * 5 + 3) 5) 9 (J 8 2 * 5 + 4) 0) 51 (J 8 2) x) 52 (J 8 2) y) 53 (J 8 2) o) 54 (J 8 2) 5) 55 (J 8 2) 0) 75 (J 8 2) 0) 76 (J 8 2) 0) 50 1 (J 8 2 + 1)) 75 p = if p = J 8 2 then 0 else J 75 p := fun p => rfl
  have e76 : ∀ p, (zU (zU (zU (zU (zU (zU (zU (zU (zU (zU (zU (zU (zU (zU J 8 2 (J 8 2 + 1)) 9 (J 8 2 * 5 + 0) x) 9 (J 8 2 * 5 + 1) y) 9 (J 8 2 * 5 + 2) o) 9 (J 8 2 * 5 + 3) 5) 9 (J 8 2 * 5 + 4) 0) 51 (J 8 2) x) 52 (J 8 2) y) 53 (J 8 2) o) 54 (J 8 2) 5) 55 (J 8 2) 0) 75 (J 8 2) 0) 76 (J 8 2) 0) 50 1 (J 8 2 + 1)) 76 p = if p = J 8 2 then 0 else J 76 p := fun p => rfl
  refine ⟨a, b, (show -1 ≤ J 23 4 ∧ J 23 4 < J 8 2 + 1 by omega), fun p p1 p2 => ?_, fun p p1 p2 => ?_, g⟩
  · have p3 : p < J 8 2 + 1 := p2
    show J 24 p = (zU (zU (zU (zU (zU (zU (zU (zU (zU (zU (zU (zU (zU (zU J 8 2 (J 8 2 + 1)) 9 (J 8 2 * 5 + 0) x) 9 (J 8 2 * 5 + 1) y) 9 (J 8 2 * 5 + 2) o) 9 (J 8 2 * 5 + 3) 5) 9 (J 8 2 * 5 + 4) 0) 51 (J 8 2) x) 52 (J 8 2) y) 53 (J 8 2) o) 54 (J 8 2) 5) 55 (J 8 2) 0) 75 (J 8 2) 0) 76 (J 8 2) 0) 50 1 (J 8 2 + 1)) 75 p ∧ J 25 p = (zU (zU (zU (zU (zU (zU (zU (zU (zU (zU (zU (zU (zU (zU J 8 2 (J 8 2 + 1)) 9 (J 8 2 * 5 + 0) x) 9 (J 8 2 * 5 + 1) y) 9 (J 8 2 * 5 + 2) o) 9 (J 8 2 * 5 + 3) 5) 9 (J 8 2 * 5 + 4) 0) 51 (J 8 2) x) 52 (J 8 2) y) 53 (J 8 2) o) 54 (J 8 2) 5) 55 (J 8 2) 0) 75 (J 8 2) 0) 76 (J 8 2) 0) 50 1 (J 8 2 + 1)) 76 p
    rw [e75, e76]
    by_cases q : p = J 8 2
    · rw [if_pos q, if_pos q]
      exact f p (by omega) (by omega)
    · rw [if_neg q, if_neg q]
      exact e p p1 (by omega)
  · have p3 : J 8 2 + 1 ≤ p := p1
    exact f p (by omega) p2
theorem RelP_add {J : zA} {x y o : Int} (h : RelP J) : RelP (zU (zU (zU (zU (zU (zU (zU (zU (zU (zU (zU (zU (zU (zU J 8 2 (J 8 2 + 1)) 9 (J 8 2 * 5 + 0) x) 9 (J 8 2 * 5 + 1) y) 9 (J 8 2 * 5 + 2) o) 9 (J 8 2 * 5 + 3) 5) 9 (J 8 2 * 5 + 4) 0) 51 (J 8 2) x) 52 (J 8 2) y) 53 (J 8 2) o) 54 (J 8 2) 5) 55 (J 8 2) 0) 75 (J 8 2) 0) 76 (J 8 2) 0) 50 1 (J 8 2 + 1)) := by
  obtain ⟨a, b, c⟩ := h
  refine ⟨a, b, fun k => ?_⟩
  obtain ⟨c1, c2, c3, c4, c5, c6, c7⟩ := c k
  exact ⟨c1, c2, (show -1 ≤ J 26 4 ∧ J 26 4 < J 8 2 + 1 by omega), (show 0 ≤ J 50 48 ∧ J 50 48 ≤ J 8 2 + 1 by omega), c5, c6, c7⟩
theorem RelC_add {J : zA} {x y o : Int} (h : RelC J) : RelC (zU (zU (zU (zU (zU (zU (zU (zU (zU (zU (zU (zU (zU (zU J 8 2 (J 8 2 + 1)) 9 (J 8 2 * 5 + 0) x) 9 (J 8 2 * 5 + 1) y) 9 (J 8 2 * 5 + 2) o) 9 (J 8 2 * 5 + 3) 5) 9 (J 8 2 * 5 + 4) 0) 51 (J 8 2) x) 52 (J 8 2) y) 53 (J 8 2) o) 54 (J 8 2) 5) 55 (J 8 2) 0) 75 (J 8 2) 0) 76 (J 8 2) 0) 50 1 (J 8 2 + 1)) := by
  obtain ⟨a, b, c, d, e, f⟩ := h
  refine ⟨a, b, c, d, e, fun i i1 i2 => ?_⟩
  obtain ⟨g, ⟨k, l⟩⟩ := f i i1 i2
  refine ⟨g, ?_, l⟩
  show (0 ≤ J 31 i ∧ J 31 i < 5 ∧ 0 ≤ J 30 i ∧ J 30 i < J 8 2 + 1) ∨ (5 ≤ J 31 i ∧ J 31 i < 14 ∧ J 30 i = 0)
  omega
theorem RelY_add {J : zA} {x y o : Int} (h : RelY J) (hn : J 8 2 < 8) (hx : 0 ≤ x ∧ x ≤ 99) (hy : 0 ≤ y ∧ y ≤ 99) (ho : 0 ≤ o ∧ o ≤ 99) : RelY (zU (zU (zU (zU (zU (zU (zU (zU (zU (zU (zU (zU (zU (zU J 8 2 (J 8 2 + 1)) 9 (J 8 2 * 5 + 0) x) 9 (J 8 2 * 5 + 1) y) 9 (J 8 2 * 5 + 2) o) 9 (J 8 2 * 5 + 3) 5) 9 (J 8 2 * 5 + 4) 0) 51 (J 8 2) x) 52 (J 8 2) y) 53 (J 8 2) o) 54 (J 8 2) 5) 55 (J 8 2) 0) 75 (J 8 2) 0) 76 (J 8 2) 0) 50 1 (J 8 2 + 1)) := by
  obtain ⟨a, b, c⟩ := h
  have q := zNn c
  have e1 : cN (zU (zU (zU (zU (zU (zU (zU (zU (zU (zU (zU (zU (zU (zU J 8 2 (J 8 2 + 1)) 9 (J 8 2 * 5 + 0) x) 9 (J 8 2 * 5 + 1) y) 9 (J 8 2 * 5 + 2) o) 9 (J 8 2 * 5 + 3) 5) 9 (J 8 2 * 5 + 4) 0) 51 (J 8 2) x) 52 (J 8 2) y) 53 (J 8 2) o) 54 (J 8 2) 5) 55 (J 8 2) 0) 75 (J 8 2) 0) 76 (J 8 2) 0) 50 1 (J 8 2 + 1)) = aN (cN J) (J 8 2) x y o := (show cN (zU (zU (zU (zU (zU (zU (zU (zU (zU (zU (zU (zU (zU (zU J 8 2 (J 8 2 + 1)) 9 (J 8 2 * 5 + 0) x) 9 (J 8 2 * 5 + 1) y) 9 (J 8 2 * 5 + 2) o) 9 (J 8 2 * 5 + 3) 5) 9 (J 8 2 * 5 + 4) 0) 51 (J 8 2) x) 52 (J 8 2) y) 53 (J 8 2) o) 54 (J 8 2) 5) 55 (J 8 2) 0) 75 (J 8 2) 0) 76 (J 8 2) 0) 50 1 (J 8 2 + 1)) = cN (zU (zU (zU (zU (zU (zU J 8 2 (J 8 2 + 1)) 9 (J 8 2 * 5 + 0) x) 9 (J 8 2 * 5 + 1) y) 9 (J 8 2 * 5 + 2) o) 9 (J 8 2 * 5 + 3) 5) 9 (J 8 2 * 5 + 4) 0) from rfl).trans (cN_add rfl (by omega))
  have e2 : rN (zU (zU (zU (zU (zU (zU (zU (zU (zU (zU (zU (zU (zU (zU J 8 2 (J 8 2 + 1)) 9 (J 8 2 * 5 + 0) x) 9 (J 8 2 * 5 + 1) y) 9 (J 8 2 * 5 + 2) o) 9 (J 8 2 * 5 + 3) 5) 9 (J 8 2 * 5 + 4) 0) 51 (J 8 2) x) 52 (J 8 2) y) 53 (J 8 2) o) 54 (J 8 2) 5) 55 (J 8 2) 0) 75 (J 8 2) 0) 76 (J 8 2) 0) 50 1 (J 8 2 + 1)) = aN (rN J) (J 8 2) x y o := by
    funext p w
    have f1 : (zU (zU (zU (zU (zU (zU (zU (zU (zU (zU (zU (zU (zU (zU J 8 2 (J 8 2 + 1)) 9 (J 8 2 * 5 + 0) x) 9 (J 8 2 * 5 + 1) y) 9 (J 8 2 * 5 + 2) o) 9 (J 8 2 * 5 + 3) 5) 9 (J 8 2 * 5 + 4) 0) 51 (J 8 2) x) 52 (J 8 2) y) 53 (J 8 2) o) 54 (J 8 2) 5) 55 (J 8 2) 0) 75 (J 8 2) 0) 76 (J 8 2) 0) 50 1 (J 8 2 + 1)) 50 1 = J 8 2 + 1 := rfl
    have f56 : ∀ i, (zU (zU (zU (zU (zU (zU (zU (zU (zU (zU (zU (zU (zU (zU J 8 2 (J 8 2 + 1)) 9 (J 8 2 * 5 + 0) x) 9 (J 8 2 * 5 + 1) y) 9 (J 8 2 * 5 + 2) o) 9 (J 8 2 * 5 + 3) 5) 9 (J 8 2 * 5 + 4) 0) 51 (J 8 2) x) 52 (J 8 2) y) 53 (J 8 2) o) 54 (J 8 2) 5) 55 (J 8 2) 0) 75 (J 8 2) 0) 76 (J 8 2) 0) 50 1 (J 8 2 + 1)) 56 i = J 56 i := fun i => rfl
    have hC : rN J p w = if 0 ≤ w ∧ w < 5 ∧ 0 ≤ p ∧ p < J 8 2 then J (51 + w.toNat) p else if 5 ≤ w ∧ w < 14 ∧ p = 0 then J 56 (w - 5) else 0 := by rw [b]; rfl
    show (if 0 ≤ w ∧ w < 5 ∧ 0 ≤ p ∧ p < (zU (zU (zU (zU (zU (zU (zU (zU (zU (zU (zU (zU (zU (zU J 8 2 (J 8 2 + 1)) 9 (J 8 2 * 5 + 0) x) 9 (J 8 2 * 5 + 1) y) 9 (J 8 2 * 5 + 2) o) 9 (J 8 2 * 5 + 3) 5) 9 (J 8 2 * 5 + 4) 0) 51 (J 8 2) x) 52 (J 8 2) y) 53 (J 8 2) o) 54 (J 8 2) 5) 55 (J 8 2) 0) 75 (J 8 2) 0) 76 (J 8 2) 0) 50 1 (J 8 2 + 1)) 50 1 then (zU (zU (zU (zU (zU (zU (zU (zU (zU (zU (zU (zU (zU (zU J 8 2 (J 8 2 + 1)) 9 (J 8 2 * 5 + 0) x) 9 (J 8 2 * 5 + 1) y) 9 (J 8 2 * 5 + 2) o) 9 (J 8 2 * 5 + 3) 5) 9 (J 8 2 * 5 + 4) 0) 51 (J 8 2) x) 52 (J 8 2) y) 53 (J 8 2) o) 54 (J 8 2) 5) 55 (J 8 2) 0) 75 (J 8 2) 0) 76 (J 8 2) 0) 50 1 (J 8 2 + 1)) (51 + w.toNat) p else if 5 ≤ w ∧ w < 14 ∧ p = 0 then (zU (zU (zU (zU (zU (zU (zU (zU (zU (zU (zU (zU (zU (zU J 8 2 (J 8 2 + 1)) 9 (J 8 2 * 5 + 0) x) 9 (J 8 2 * 5 + 1) y) 9 (J 8 2 * 5 + 2) o) 9 (J 8 2 * 5 + 3) 5) 9 (J 8 2 * 5 + 4) 0) 51 (J 8 2) x) 52 (J 8 2) y) 53 (J 8 2) o) 54 (J 8 2) 5) 55 (J 8 2) 0) 75 (J 8 2) 0) 76 (J 8 2) 0) 50 1 (J 8 2 + 1)) 56 (w - 5) else 0) = (if p = J 8 2 ∧ 0 ≤ w ∧ w < 5 then (if w = 0 then x else if w = 1 then y else if w = 2 then o else if w = 3 then 5 else 0) else rN J p w)
    rw [f1, f56, hC]
    by_cases c2 : 0 ≤ w ∧ w < 5
    · have e5 : (zU (zU (zU (zU (zU (zU (zU (zU (zU (zU (zU (zU (zU (zU J 8 2 (J 8 2 + 1)) 9 (J 8 2 * 5 + 0) x) 9 (J 8 2 * 5 + 1) y) 9 (J 8 2 * 5 + 2) o) 9 (J 8 2 * 5 + 3) 5) 9 (J 8 2 * 5 + 4) 0) 51 (J 8 2) x) 52 (J 8 2) y) 53 (J 8 2) o) 54 (J 8 2) 5) 55 (J 8 2) 0) 75 (J 8 2) 0) 76 (J 8 2) 0) 50 1 (J 8 2 + 1)) (51 + w.toNat) p = if p = J 8 2 then (if w = 0 then x else if w = 1 then y else if w = 2 then o else if w = 3 then 5 else 0) else J (51 + w.toNat) p := by
        rcases w5 c2 with rfl | rfl | rfl | rfl | rfl <;> rfl
      rw [e5]
      (repeat' split) <;> first | rfl | (exfalso; omega)
    · (repeat' split) <;> first | rfl | (exfalso; omega)
  unfold RelY
  rw [e1, e2, a]
  exact ⟨rfl, rfl, zNr_add (a ▸ c) hn hx hy ho⟩
theorem st_place {X : Nat × (Nat → Int32)} {d : Nat} {J M : zA} {R : zR} {p q : Int} (hr : Rel X J M R) (hp : -2147483648 ≤ p ∧ p < 2147483648) (hq : -2147483648 ≤ q ∧ q < 2147483648)  : zW X (d + 20) 101 0 (gEn 101 [(.ref 0), (zi p), (zi q)]) [] J M R (stP X (d + 20) 153 [(zi p), (zi q)]) := by
  have hr0 := hr
  obtain ⟨hR, hG, hY, hD, hP, hC, hAc, hS, hTp, hX, hW⟩ := hr0
  have hRr : zRoR R := zRoR_of hR
  have hY0 := hY
  obtain ⟨y1, y2, y3⟩ := hY0
  have yn := zNn y3
  show zW _ _ _ _ [some (.ref 0), some (zi p), some (zi q)] _ _ _ _ _
  refine z_iload1 rfl ?_
  refine z_cS1 rfl (Nat.le_of_ble_eq_true rfl) gc_144_I ?_
  refine z_iload0 gi_144_0 ?_
  refine z_if_lt gi_144_1 (by omega) (fun h1 => ?_) (fun h1 => ?_)
  · refine z_pushJ gp_144_15 ?_
    refine z_bret0 gi_144_16 gr_144 ?_
    show zW _ _ _ _ _ _ _ _ _ _
    refine z_if_eqT gi_101_4 zr_0 (by decide) ?_
    refine z_pushJ gp_101_15 ?_
    refine z_iret gi_101_16 gr_101 ?_
    refine ⟨_, rfl, ?_⟩
    show zW _ _ _ _ [some (.ref 50), some (zi p), some (zi q)] _ _ _ _ _
    refine z_iload1 gi_153_0 ?_
    refine z_pushJ gp_153_1 ?_
    refine z_pushJ gp_153_2 ?_
    refine z_cS3 gi_153_5 (Nat.le_of_ble_eq_true rfl) gc_148_III ?_
    refine z_iload0 gi_148_0 ?_
    refine z_iload1 gi_148_1 ?_
    refine z_icmp_ltT gi_148_2 (by omega) zr_0 (by omega) ?_
    refine z_pushJ gp_148_14 ?_
    refine z_bret0 gi_148_15 gr_148 ?_
    show zW _ _ _ _ _ _ _ _ _ _
    refine z_if_eqT gi_153_8 zr_0 (by decide) ?_
    refine z_pushJ gp_153_21 ?_
    refine z_iret gi_153_22 gr_153 ?_
    refine ⟨?_, ?_⟩
    · first | rfl | exact congrArg (fun v => some (zi v)) (by omega) | (exfalso; omega)
    · exact hr
  · refine z_iload0 gi_144_4 ?_
    refine z_pushJ gp_144_5 ?_
    refine z_icmp_ge gi_144_8 (by omega) (by decide) (fun h2 => ?_) (fun h2 => ?_)
    · refine z_pushJ gp_144_15 ?_
      refine z_bret0 gi_144_16 gr_144 ?_
      show zW _ _ _ _ _ _ _ _ _ _
      refine z_if_eqT gi_101_4 zr_0 (by decide) ?_
      refine z_pushJ gp_101_15 ?_
      refine z_iret gi_101_16 gr_101 ?_
      refine ⟨_, rfl, ?_⟩
      show zW _ _ _ _ [some (.ref 50), some (zi p), some (zi q)] _ _ _ _ _
      refine z_iload1 gi_153_0 ?_
      refine z_pushJ gp_153_1 ?_
      refine z_pushJ gp_153_2 ?_
      refine z_cS3 gi_153_5 (Nat.le_of_ble_eq_true rfl) gc_148_III ?_
      refine z_iload0 gi_148_0 ?_
      refine z_iload1 gi_148_1 ?_
      refine z_icmp_ltF gi_148_2 (by omega) zr_0 (by omega) ?_
      refine z_iload0 gi_148_5 ?_
      refine z_iload2 gi_148_6 ?_
      refine z_icmp_gtT gi_148_7 (by omega) (by decide) (by omega) ?_
      refine z_pushJ gp_148_14 ?_
      refine z_bret0 gi_148_15 gr_148 ?_
      show zW _ _ _ _ _ _ _ _ _ _
      refine z_if_eqT gi_153_8 zr_0 (by decide) ?_
      refine z_pushJ gp_153_21 ?_
      refine z_iret gi_153_22 gr_153 ?_
      refine ⟨?_, ?_⟩
      · first | rfl | exact congrArg (fun v => some (zi v)) (by omega) | (exfalso; omega)
      · exact hr
    · refine z_pushJ gp_144_11 ?_
      refine z_goto gi_144_12 ?_
      refine z_bret1 gi_144_16 gr_144 ?_
      show zW _ _ _ _ _ _ _ _ _ _
      refine z_if_eqF gi_101_4 zr_1 (by decide) ?_
      refine z_pushJ gp_101_7 ?_
      refine z_iload2 rfl ?_
      refine z_cS2 rfl (Nat.le_of_ble_eq_true rfl) gc_86_II ?_
      refine z_iload0 gi_86_0 ?_
      refine z_if_ltF gi_86_1 zr_2 (by decide) ?_
      refine z_iload0 gi_86_4 ?_
      refine z_pushJ gp_86_5 ?_
      refine z_icmp_geF gi_86_7 zr_2 zr_14 (by decide) ?_
      refine z_iload1 gi_86_10 ?_
      refine z_getS gi_86_11 ?_
      refine z_iload0 gi_86_14 ?_
      refine z_sald (j := 1) (n := 14) (v := 0) gi_86_15 (by decide) rfl (by decide) (by decide) rfl ?_
      refine z_icmp_lt gi_86_16 (by omega) zr_0 (fun h3 => ?_) (fun h3 => ?_)
      · refine z_pushJ gp_86_32 ?_
        refine z_bret0 gi_86_33 gr_86 ?_
        show zW _ _ _ _ _ _ _ _ _ _
        refine z_if_neF gi_101_12 zr_0 (by decide) ?_
        refine z_pushJ gp_101_15 ?_
        refine z_iret gi_101_16 gr_101 ?_
        refine ⟨_, rfl, ?_⟩
        show zW _ _ _ _ [some (.ref 50), some (zi p), some (zi q)] _ _ _ _ _
        refine z_iload1 gi_153_0 ?_
        refine z_pushJ gp_153_1 ?_
        refine z_pushJ gp_153_2 ?_
        refine z_cS3 gi_153_5 (Nat.le_of_ble_eq_true rfl) gc_148_III ?_
        refine z_iload0 gi_148_0 ?_
        refine z_iload1 gi_148_1 ?_
        refine z_icmp_ltF gi_148_2 (by omega) zr_0 (by omega) ?_
        refine z_iload0 gi_148_5 ?_
        refine z_iload2 gi_148_6 ?_
        refine z_icmp_gtF gi_148_7 (by omega) (by decide) (by omega) ?_
        refine z_pushJ gp_148_10 ?_
        refine z_goto gi_148_11 ?_
        refine z_bret1 gi_148_15 gr_148 ?_
        show zW _ _ _ _ _ _ _ _ _ _
        refine z_if_eqF gi_153_8 zr_1 (by decide) ?_
        refine z_iload2 gi_153_11 ?_
        refine z_pushJ gp_153_12 ?_
        refine z_pushJ gp_153_13 ?_
        refine z_cS3 gi_153_15 (Nat.le_of_ble_eq_true rfl) gc_148_III ?_
        refine z_iload0 gi_148_0 ?_
        refine z_iload1 gi_148_1 ?_
        refine z_icmp_ltT gi_148_2 (by omega) zr_0 (by omega) ?_
        refine z_pushJ gp_148_14 ?_
        refine z_bret0 gi_148_15 gr_148 ?_
        show zW _ _ _ _ _ _ _ _ _ _
        refine z_if_neF gi_153_18 zr_0 (by decide) ?_
        refine z_pushJ gp_153_21 ?_
        refine z_iret gi_153_22 gr_153 ?_
        refine ⟨?_, ?_⟩
        · first | rfl | exact congrArg (fun v => some (zi v)) (by omega) | (exfalso; omega)
        · exact hr
      · refine z_iload1 gi_86_19 ?_
        refine z_getS gi_86_20 ?_
        refine z_iload0 gi_86_23 ?_
        refine z_sald (j := 2) (n := 14) (v := 99) gi_86_24 (by decide) rfl (by decide) (by decide) rfl ?_
        refine z_icmp_gt gi_86_25 (by omega) zr_99 (fun h4 => ?_) (fun h4 => ?_)
        · refine z_pushJ gp_86_32 ?_
          refine z_bret0 gi_86_33 gr_86 ?_
          show zW _ _ _ _ _ _ _ _ _ _
          refine z_if_neF gi_101_12 zr_0 (by decide) ?_
          refine z_pushJ gp_101_15 ?_
          refine z_iret gi_101_16 gr_101 ?_
          refine ⟨_, rfl, ?_⟩
          show zW _ _ _ _ [some (.ref 50), some (zi p), some (zi q)] _ _ _ _ _
          refine z_iload1 gi_153_0 ?_
          refine z_pushJ gp_153_1 ?_
          refine z_pushJ gp_153_2 ?_
          refine z_cS3 gi_153_5 (Nat.le_of_ble_eq_true rfl) gc_148_III ?_
          refine z_iload0 gi_148_0 ?_
          refine z_iload1 gi_148_1 ?_
          refine z_icmp_ltF gi_148_2 (by omega) zr_0 (by omega) ?_
          refine z_iload0 gi_148_5 ?_
          refine z_iload2 gi_148_6 ?_
          refine z_icmp_gtF gi_148_7 (by omega) (by decide) (by omega) ?_
          refine z_pushJ gp_148_10 ?_
          refine z_goto gi_148_11 ?_
          refine z_bret1 gi_148_15 gr_148 ?_
          show zW _ _ _ _ _ _ _ _ _ _
          refine z_if_eqF gi_153_8 zr_1 (by decide) ?_
          refine z_iload2 gi_153_11 ?_
          refine z_pushJ gp_153_12 ?_
          refine z_pushJ gp_153_13 ?_
          refine z_cS3 gi_153_15 (Nat.le_of_ble_eq_true rfl) gc_148_III ?_
          refine z_iload0 gi_148_0 ?_
          refine z_iload1 gi_148_1 ?_
          refine z_icmp_ltF gi_148_2 (by omega) zr_0 (by omega) ?_
          refine z_iload0 gi_148_5 ?_
          refine z_iload2 gi_148_6 ?_
          refine z_icmp_gtT gi_148_7 (by omega) zr_99 (by omega) ?_
          refine z_pushJ gp_148_14 ?_
          refine z_bret0 gi_148_15 gr_148 ?_
          show zW _ _ _ _ _ _ _ _ _ _
          refine z_if_neF gi_153_18 zr_0 (by decide) ?_
          refine z_pushJ gp_153_21 ?_
          refine z_iret gi_153_22 gr_153 ?_
          refine ⟨?_, ?_⟩
          · first | rfl | exact congrArg (fun v => some (zi v)) (by omega) | (exfalso; omega)
          · exact hr
        · refine z_pushJ gp_86_28 ?_
          refine z_goto gi_86_29 ?_
          refine z_bret1 gi_86_33 gr_86 ?_
          show zW _ _ _ _ _ _ _ _ _ _
          refine z_if_neT gi_101_12 zr_1 (by decide) ?_
          refine z_aload0 rfl ?_
          refine z_getR (r := 8) rfl gk_0 (hR _ rm_0_1) ?_
          refine z_getI (v := J 8 2) rfl gk_8 (rfl) ?_
          refine z_pushJ gp_101_24 ?_
          refine z_icmp_lt rfl (by omega) zr_8 (fun h5 => ?_) (fun h5 => ?_)
          · refine z_aload0 rfl ?_
            refine z_getR (r := 8) rfl gk_0 (hR _ rm_0_1) ?_
            refine z_iload1 rfl ?_
            refine z_pushJ gp_101_37 ?_
            refine z_irem (e := p % 100) rfl (by omega) (by omega) rfl ?_
            refine z_iload1 rfl ?_
            refine z_pushJ gp_101_41 ?_
            refine z_idiv (e := p / 100) rfl (by omega) (by omega) rfl ?_
            refine z_iload2 rfl ?_
            refine z_callVi (As := [_, _, _]) (le := [some _, some _, some _, some _, none]) rfl rfl gk_8 (Nat.le_of_ble_eq_true rfl) (Nat.le_of_ble_eq_true rfl) rfl ?_
            refine z_aload0 gi_92_0 ?_
            refine z_getI (v := J 8 2) gi_92_1 gk_8 (rfl) ?_
            refine z_istore (ls1 := [some (.ref 8), some (zi (p % 100)), some (zi (p / 100)), some (zi q), some (zi (J 8 2))]) gi_92_4 rfl ?_
            refine z_aload0 gi_92_6 ?_
            refine z_dup gi_92_7 rfl ?_
            refine z_getI (v := J 8 2) gi_92_8 gk_8 (rfl) ?_
            refine z_pushJ gp_92_11 ?_
            refine z_iadd (e := (J 8 2) + 1) gi_92_12 rfl ?_
            refine z_putI (y := 2) gi_92_13 rfl gk_8 ?_
            refine z_aload0 gi_92_16 ?_
            refine z_iload4 gi_92_17 ?_
            refine z_pushJ gp_92_19 ?_
            refine z_iload1 gi_92_20 ?_
            refine z_callVi (As := [_, _, _]) (le := [some _, some _, some _, some _, none]) gi_92_21 rfl gk_8 (Nat.le_of_ble_eq_true rfl) (Nat.le_of_ble_eq_true rfl) rfl ?_
            refine z_aload0 gi_91_0 ?_
            refine z_iload1 gi_91_1 ?_
            refine z_iload2 gi_91_2 ?_
            refine z_cV2 gi_91_3 gk_8 go_89 (Nat.le_of_ble_eq_true rfl) gc_89_RII ?_
            refine z_iload2 gi_89_0 ?_
            refine z_if_ltF gi_89_1 zr_0 (by decide) ?_
            refine z_iload2 gi_89_4 ?_
            refine z_pushJ gp_89_5 ?_
            refine z_icmp_ltT gi_89_7 zr_0 zr_14 (by decide) ?_
            refine z_iload2 gi_89_12 ?_
            refine z_pushJ gp_89_13 ?_
            refine z_icmp_geF gi_89_14 zr_0 zr_5 (by decide) ?_
            refine z_aload0 gi_89_17 ?_
            refine z_iload1 gi_89_18 ?_
            refine z_cV1 gi_89_19 gk_8 go_87 (Nat.le_of_ble_eq_true rfl) gc_87_RI ?_
            refine z_iload1 gi_87_0 ?_
            refine z_if_ltF gi_87_1 (by omega) (by omega) ?_
            refine z_iload1 gi_87_4 ?_
            refine z_aload0 gi_87_5 ?_
            refine z_getI (v := (J 8 2) + 1) gi_87_6 gk_8 (zU_e) ?_
            refine z_icmp_geF gi_87_9 (by omega) (by omega) (by omega) ?_
            refine z_pushJ gp_87_12 ?_
            refine z_goto gi_87_13 ?_
            refine z_bret1 gi_87_17 gr_87 ?_
            show zW _ _ _ _ _ _ _ _ _ _
            refine z_if_eqF gi_89_22 zr_1 (by decide) ?_
            refine z_iload1 gi_89_25 ?_
            refine z_pushJ gp_89_26 ?_
            refine z_imul (e := (J 8 2) * 5) gi_89_27 rfl ?_
            refine z_iload2 gi_89_28 ?_
            refine z_iadd (e := (J 8 2) * 5 + 0) gi_89_29 rfl ?_
            refine z_goto gi_89_30 ?_
            refine z_iret gi_89_34 gr_89 ?_
            show zW _ _ _ _ _ _ _ _ _ _
            refine z_istore (ls1 := [some (.ref 8), some (zi (J 8 2)), some (zi 0), some (zi (p % 100)), some (zi ((J 8 2) * 5 + 0))]) gi_91_6 rfl ?_
            refine z_iload4 gi_91_8 ?_
            refine z_if_lt gi_91_10 (by omega) (fun h6 => ?_) (fun h6 => ?_)
            · refine z_vret gi_91_21 gr_91 ?_
              show zW _ _ _ _ _ _ _ _ _ _
              refine z_aload0 gi_92_24 ?_
              refine z_iload4 gi_92_25 ?_
              refine z_pushJ gp_92_27 ?_
              refine z_iload2 gi_92_28 ?_
              refine z_callVi (As := [_, _, _]) (le := [some _, some _, some _, some _, none]) gi_92_29 rfl gk_8 (Nat.le_of_ble_eq_true rfl) (Nat.le_of_ble_eq_true rfl) rfl ?_
              refine z_aload0 gi_91_0 ?_
              refine z_iload1 gi_91_1 ?_
              refine z_iload2 gi_91_2 ?_
              refine z_cV2 gi_91_3 gk_8 go_89 (Nat.le_of_ble_eq_true rfl) gc_89_RII ?_
              refine z_iload2 gi_89_0 ?_
              refine z_if_ltF gi_89_1 zr_1 (by decide) ?_
              refine z_iload2 gi_89_4 ?_
              refine z_pushJ gp_89_5 ?_
              refine z_icmp_ltT gi_89_7 zr_1 zr_14 (by decide) ?_
              refine z_iload2 gi_89_12 ?_
              refine z_pushJ gp_89_13 ?_
              refine z_icmp_geF gi_89_14 zr_1 zr_5 (by decide) ?_
              refine z_aload0 gi_89_17 ?_
              refine z_iload1 gi_89_18 ?_
              refine z_cV1 gi_89_19 gk_8 go_87 (Nat.le_of_ble_eq_true rfl) gc_87_RI ?_
              refine z_iload1 gi_87_0 ?_
              refine z_if_ltF gi_87_1 (by omega) (by omega) ?_
              refine z_iload1 gi_87_4 ?_
              refine z_aload0 gi_87_5 ?_
              refine z_getI (v := (J 8 2) + 1) gi_87_6 gk_8 (zU_e) ?_
              refine z_icmp_geF gi_87_9 (by omega) (by omega) (by omega) ?_
              refine z_pushJ gp_87_12 ?_
              refine z_goto gi_87_13 ?_
              refine z_bret1 gi_87_17 gr_87 ?_
              show zW _ _ _ _ _ _ _ _ _ _
              refine z_if_eqF gi_89_22 zr_1 (by decide) ?_
              refine z_iload1 gi_89_25 ?_
              refine z_pushJ gp_89_26 ?_
              refine z_imul (e := (J 8 2) * 5) gi_89_27 rfl ?_
              refine z_iload2 gi_89_28 ?_
              refine z_iadd (e := (J 8 2) * 5 + 1) gi_89_29 rfl ?_
              refine z_goto gi_89_30 ?_
              refine z_iret gi_89_34 gr_89 ?_
              show zW _ _ _ _ _ _ _ _ _ _
              refine z_istore (ls1 := [some (.ref 8), some (zi (J 8 2)), some (zi 1), some (zi (p / 100)), some (zi ((J 8 2) * 5 + 1))]) gi_91_6 rfl ?_
              refine z_iload4 gi_91_8 ?_
              refine z_if_lt gi_91_10 (by omega) (fun h7 => ?_) (fun h7 => ?_)
              · refine z_vret gi_91_21 gr_91 ?_
                show zW _ _ _ _ _ _ _ _ _ _
                refine z_aload0 gi_92_32 ?_
                refine z_iload4 gi_92_33 ?_
                refine z_pushJ gp_92_35 ?_
                refine z_iload3 gi_92_36 ?_
                refine z_callVi (As := [_, _, _]) (le := [some _, some _, some _, some _, none]) gi_92_37 rfl gk_8 (Nat.le_of_ble_eq_true rfl) (Nat.le_of_ble_eq_true rfl) rfl ?_
                refine z_aload0 gi_91_0 ?_
                refine z_iload1 gi_91_1 ?_
                refine z_iload2 gi_91_2 ?_
                refine z_cV2 gi_91_3 gk_8 go_89 (Nat.le_of_ble_eq_true rfl) gc_89_RII ?_
                refine z_iload2 gi_89_0 ?_
                refine z_if_ltF gi_89_1 zr_2 (by decide) ?_
                refine z_iload2 gi_89_4 ?_
                refine z_pushJ gp_89_5 ?_
                refine z_icmp_ltT gi_89_7 zr_2 zr_14 (by decide) ?_
                refine z_iload2 gi_89_12 ?_
                refine z_pushJ gp_89_13 ?_
                refine z_icmp_geF gi_89_14 zr_2 zr_5 (by decide) ?_
                refine z_aload0 gi_89_17 ?_
                refine z_iload1 gi_89_18 ?_
                refine z_cV1 gi_89_19 gk_8 go_87 (Nat.le_of_ble_eq_true rfl) gc_87_RI ?_
                refine z_iload1 gi_87_0 ?_
                refine z_if_ltF gi_87_1 (by omega) (by omega) ?_
                refine z_iload1 gi_87_4 ?_
                refine z_aload0 gi_87_5 ?_
                refine z_getI (v := (J 8 2) + 1) gi_87_6 gk_8 (zU_e) ?_
                refine z_icmp_geF gi_87_9 (by omega) (by omega) (by omega) ?_
                refine z_pushJ gp_87_12 ?_
                refine z_goto gi_87_13 ?_
                refine z_bret1 gi_87_17 gr_87 ?_
                show zW _ _ _ _ _ _ _ _ _ _
                refine z_if_eqF gi_89_22 zr_1 (by decide) ?_
                refine z_iload1 gi_89_25 ?_
                refine z_pushJ gp_89_26 ?_
                refine z_imul (e := (J 8 2) * 5) gi_89_27 rfl ?_
                refine z_iload2 gi_89_28 ?_
                refine z_iadd (e := (J 8 2) * 5 + 2) gi_89_29 rfl ?_
                refine z_goto gi_89_30 ?_
                refine z_iret gi_89_34 gr_89 ?_
                show zW _ _ _ _ _ _ _ _ _ _
                refine z_istore (ls1 := [some (.ref 8), some (zi (J 8 2)), some (zi 2), some (zi q), some (zi ((J 8 2) * 5 + 2))]) gi_91_6 rfl ?_
                refine z_iload4 gi_91_8 ?_
                refine z_if_lt gi_91_10 (by omega) (fun h8 => ?_) (fun h8 => ?_)
                · refine z_vret gi_91_21 gr_91 ?_
                  show zW _ _ _ _ _ _ _ _ _ _
                  refine z_aload0 gi_92_40 ?_
                  refine z_iload4 gi_92_41 ?_
                  refine z_pushJ gp_92_43 ?_
                  refine z_getS gi_92_44 ?_
                  refine z_pushJ gp_92_47 ?_
                  refine z_sald (j := 0) (n := 14) (v := 5) gi_92_48 (by decide) rfl (by decide) (by decide) rfl ?_
                  refine z_callVi (As := [_, _, _]) (le := [some _, some _, some _, some _, none]) gi_92_49 rfl gk_8 (Nat.le_of_ble_eq_true rfl) (Nat.le_of_ble_eq_true rfl) rfl ?_
                  refine z_aload0 gi_91_0 ?_
                  refine z_iload1 gi_91_1 ?_
                  refine z_iload2 gi_91_2 ?_
                  refine z_cV2 gi_91_3 gk_8 go_89 (Nat.le_of_ble_eq_true rfl) gc_89_RII ?_
                  refine z_iload2 gi_89_0 ?_
                  refine z_if_ltF gi_89_1 zr_3 (by decide) ?_
                  refine z_iload2 gi_89_4 ?_
                  refine z_pushJ gp_89_5 ?_
                  refine z_icmp_ltT gi_89_7 zr_3 zr_14 (by decide) ?_
                  refine z_iload2 gi_89_12 ?_
                  refine z_pushJ gp_89_13 ?_
                  refine z_icmp_geF gi_89_14 zr_3 zr_5 (by decide) ?_
                  refine z_aload0 gi_89_17 ?_
                  refine z_iload1 gi_89_18 ?_
                  refine z_cV1 gi_89_19 gk_8 go_87 (Nat.le_of_ble_eq_true rfl) gc_87_RI ?_
                  refine z_iload1 gi_87_0 ?_
                  refine z_if_ltF gi_87_1 (by omega) (by omega) ?_
                  refine z_iload1 gi_87_4 ?_
                  refine z_aload0 gi_87_5 ?_
                  refine z_getI (v := (J 8 2) + 1) gi_87_6 gk_8 (zU_e) ?_
                  refine z_icmp_geF gi_87_9 (by omega) (by omega) (by omega) ?_
                  refine z_pushJ gp_87_12 ?_
                  refine z_goto gi_87_13 ?_
                  refine z_bret1 gi_87_17 gr_87 ?_
                  show zW _ _ _ _ _ _ _ _ _ _
                  refine z_if_eqF gi_89_22 zr_1 (by decide) ?_
                  refine z_iload1 gi_89_25 ?_
                  refine z_pushJ gp_89_26 ?_
                  refine z_imul (e := (J 8 2) * 5) gi_89_27 rfl ?_
                  refine z_iload2 gi_89_28 ?_
                  refine z_iadd (e := (J 8 2) * 5 + 3) gi_89_29 rfl ?_
                  refine z_goto gi_89_30 ?_
                  refine z_iret gi_89_34 gr_89 ?_
                  show zW _ _ _ _ _ _ _ _ _ _
                  refine z_istore (ls1 := [some (.ref 8), some (zi (J 8 2)), some (zi 3), some (zi 5), some (zi ((J 8 2) * 5 + 3))]) gi_91_6 rfl ?_
                  refine z_iload4 gi_91_8 ?_
                  refine z_if_lt gi_91_10 (by omega) (fun h9 => ?_) (fun h9 => ?_)
                  · refine z_vret gi_91_21 gr_91 ?_
                    show zW _ _ _ _ _ _ _ _ _ _
                    refine z_aload0 gi_92_52 ?_
                    refine z_iload4 gi_92_53 ?_
                    refine z_pushJ gp_92_55 ?_
                    refine z_getS gi_92_56 ?_
                    refine z_pushJ gp_92_59 ?_
                    refine z_sald (j := 0) (n := 14) (v := 0) gi_92_60 (by decide) rfl (by decide) (by decide) rfl ?_
                    refine z_callVi (As := [_, _, _]) (le := [some _, some _, some _, some _, none]) gi_92_61 rfl gk_8 (Nat.le_of_ble_eq_true rfl) (Nat.le_of_ble_eq_true rfl) rfl ?_
                    refine z_aload0 gi_91_0 ?_
                    refine z_iload1 gi_91_1 ?_
                    refine z_iload2 gi_91_2 ?_
                    refine z_cV2 gi_91_3 gk_8 go_89 (Nat.le_of_ble_eq_true rfl) gc_89_RII ?_
                    refine z_iload2 gi_89_0 ?_
                    refine z_if_ltF gi_89_1 zr_4 (by decide) ?_
                    refine z_iload2 gi_89_4 ?_
                    refine z_pushJ gp_89_5 ?_
                    refine z_icmp_ltT gi_89_7 zr_4 zr_14 (by decide) ?_
                    refine z_iload2 gi_89_12 ?_
                    refine z_pushJ gp_89_13 ?_
                    refine z_icmp_geF gi_89_14 zr_4 zr_5 (by decide) ?_
                    refine z_aload0 gi_89_17 ?_
                    refine z_iload1 gi_89_18 ?_
                    refine z_cV1 gi_89_19 gk_8 go_87 (Nat.le_of_ble_eq_true rfl) gc_87_RI ?_
                    refine z_iload1 gi_87_0 ?_
                    refine z_if_ltF gi_87_1 (by omega) (by omega) ?_
                    refine z_iload1 gi_87_4 ?_
                    refine z_aload0 gi_87_5 ?_
                    refine z_getI (v := (J 8 2) + 1) gi_87_6 gk_8 (zU_e) ?_
                    refine z_icmp_geF gi_87_9 (by omega) (by omega) (by omega) ?_
                    refine z_pushJ gp_87_12 ?_
                    refine z_goto gi_87_13 ?_
                    refine z_bret1 gi_87_17 gr_87 ?_
                    show zW _ _ _ _ _ _ _ _ _ _
                    refine z_if_eqF gi_89_22 zr_1 (by decide) ?_
                    refine z_iload1 gi_89_25 ?_
                    refine z_pushJ gp_89_26 ?_
                    refine z_imul (e := (J 8 2) * 5) gi_89_27 rfl ?_
                    refine z_iload2 gi_89_28 ?_
                    refine z_iadd (e := (J 8 2) * 5 + 4) gi_89_29 rfl ?_
                    refine z_goto gi_89_30 ?_
                    refine z_iret gi_89_34 gr_89 ?_
                    show zW _ _ _ _ _ _ _ _ _ _
                    refine z_istore (ls1 := [some (.ref 8), some (zi (J 8 2)), some (zi 4), some (zi 0), some (zi ((J 8 2) * 5 + 4))]) gi_91_6 rfl ?_
                    refine z_iload4 gi_91_8 ?_
                    refine z_if_lt gi_91_10 (by omega) (fun h10 => ?_) (fun h10 => ?_)
                    · refine z_vret gi_91_21 gr_91 ?_
                      show zW _ _ _ _ _ _ _ _ _ _
                      refine z_iload4 gi_92_64 ?_
                      refine z_iret gi_92_66 gr_92 ?_
                      show zW _ _ _ _ _ _ _ _ _ _
                      refine z_iret gi_101_48 gr_101 ?_
                      refine ⟨_, rfl, ?_⟩
                      show zW _ _ _ _ [some (.ref 50), some (zi p), some (zi q)] _ _ _ _ _
                      refine z_iload1 gi_153_0 ?_
                      refine z_pushJ gp_153_1 ?_
                      refine z_pushJ gp_153_2 ?_
                      refine z_cS3 gi_153_5 (Nat.le_of_ble_eq_true rfl) gc_148_III ?_
                      refine z_iload0 gi_148_0 ?_
                      refine z_iload1 gi_148_1 ?_
                      refine z_icmp_ltF gi_148_2 (by omega) zr_0 (by omega) ?_
                      refine z_iload0 gi_148_5 ?_
                      refine z_iload2 gi_148_6 ?_
                      refine z_icmp_gtF gi_148_7 (by omega) (by decide) (by omega) ?_
                      refine z_pushJ gp_148_10 ?_
                      refine z_goto gi_148_11 ?_
                      refine z_bret1 gi_148_15 gr_148 ?_
                      show zW _ _ _ _ _ _ _ _ _ _
                      refine z_if_eqF gi_153_8 zr_1 (by decide) ?_
                      refine z_iload2 gi_153_11 ?_
                      refine z_pushJ gp_153_12 ?_
                      refine z_pushJ gp_153_13 ?_
                      refine z_cS3 gi_153_15 (Nat.le_of_ble_eq_true rfl) gc_148_III ?_
                      refine z_iload0 gi_148_0 ?_
                      refine z_iload1 gi_148_1 ?_
                      refine z_icmp_ltF gi_148_2 (by omega) zr_0 (by omega) ?_
                      refine z_iload0 gi_148_5 ?_
                      refine z_iload2 gi_148_6 ?_
                      refine z_icmp_gtF gi_148_7 (by omega) zr_99 (by omega) ?_
                      refine z_pushJ gp_148_10 ?_
                      refine z_goto gi_148_11 ?_
                      refine z_bret1 gi_148_15 gr_148 ?_
                      show zW _ _ _ _ _ _ _ _ _ _
                      refine z_if_neT gi_153_18 zr_1 (by decide) ?_
                      refine z_aload0 gi_153_23 ?_
                      refine z_getI (v := J 8 2) gi_153_24 gk_50 ((zU_n (by decide)).trans (y2.symm)) ?_
                      refine z_pushJ gp_153_27 ?_
                      refine z_icmp_neT gi_153_29 (by omega) zr_8 (by omega) ?_
                      refine z_aload0 gi_153_37 ?_
                      refine z_iload1 gi_153_38 ?_
                      refine z_pushJ gp_153_39 ?_
                      refine z_irem (e := p % 100) gi_153_41 (by omega) (by omega) rfl ?_
                      refine z_iload1 gi_153_42 ?_
                      refine z_pushJ gp_153_43 ?_
                      refine z_idiv (e := p / 100) gi_153_45 (by omega) (by omega) rfl ?_
                      refine z_iload2 gi_153_46 ?_
                      refine z_cV3 gi_153_47 gk_50 go_152 (Nat.le_of_ble_eq_true rfl) gc_152_RIII ?_
                      refine z_aload0 gi_152_0 ?_
                      refine z_getR (r := 51) gi_152_1 gk_50 (hRr _ rm_50_2 (by decide)) ?_
                      refine z_aload0 gi_152_4 ?_
                      refine z_getI (v := J 8 2) gi_152_5 gk_50 ((zU_n (by decide)).trans (y2.symm)) ?_
                      refine z_iload1 gi_152_8 ?_
                      refine z_iast (e := p % 100) gi_152_9 gk_51 (by decide) (by omega) rfl ?_
                      refine z_aload0 gi_152_10 ?_
                      refine z_getR (r := 52) gi_152_11 gk_50 (hRr _ rm_50_3 (by decide)) ?_
                      refine z_aload0 gi_152_14 ?_
                      refine z_getI (v := J 8 2) gi_152_15 gk_50 ((zU_n (by decide)).trans ((zU_n (by decide)).trans (y2.symm))) ?_
                      refine z_iload2 gi_152_18 ?_
                      refine z_iast (e := p / 100) gi_152_19 gk_52 (by decide) (by omega) rfl ?_
                      refine z_aload0 gi_152_20 ?_
                      refine z_getR (r := 53) gi_152_21 gk_50 (hRr _ rm_50_4 (by decide)) ?_
                      refine z_aload0 gi_152_24 ?_
                      refine z_getI (v := J 8 2) gi_152_25 gk_50 ((zU_n (by decide)).trans ((zU_n (by decide)).trans ((zU_n (by decide)).trans (y2.symm)))) ?_
                      refine z_iload3 gi_152_28 ?_
                      refine z_iast (e := q) gi_152_29 gk_53 (by decide) (by omega) rfl ?_
                      refine z_aload0 gi_152_30 ?_
                      refine z_getR (r := 54) gi_152_31 gk_50 (hRr _ rm_50_5 (by decide)) ?_
                      refine z_aload0 gi_152_34 ?_
                      refine z_getI (v := J 8 2) gi_152_35 gk_50 ((zU_n (by decide)).trans ((zU_n (by decide)).trans ((zU_n (by decide)).trans ((zU_n (by decide)).trans (y2.symm))))) ?_
                      refine z_pushJ gp_152_38 ?_
                      refine z_iast (e := 5) gi_152_39 gk_54 (by decide) (by omega) rfl ?_
                      refine z_aload0 gi_152_40 ?_
                      refine z_getR (r := 55) gi_152_41 gk_50 (hRr _ rm_50_6 (by decide)) ?_
                      refine z_aload0 gi_152_44 ?_
                      refine z_getI (v := J 8 2) gi_152_45 gk_50 ((zU_n (by decide)).trans ((zU_n (by decide)).trans ((zU_n (by decide)).trans ((zU_n (by decide)).trans ((zU_n (by decide)).trans (y2.symm)))))) ?_
                      refine z_pushJ gp_152_48 ?_
                      refine z_iast (e := 0) gi_152_49 gk_55 (by decide) (by omega) rfl ?_
                      refine z_aload0 gi_152_50 ?_
                      refine z_getR (r := 75) gi_152_51 gk_50 (hRr _ rm_50_42 (by decide)) ?_
                      refine z_aload0 gi_152_54 ?_
                      refine z_getI (v := J 8 2) gi_152_55 gk_50 ((zU_n (by decide)).trans ((zU_n (by decide)).trans ((zU_n (by decide)).trans ((zU_n (by decide)).trans ((zU_n (by decide)).trans ((zU_n (by decide)).trans (y2.symm))))))) ?_
                      refine z_pushJ gp_152_58 ?_
                      refine z_iast (e := 0) gi_152_59 gk_75 (by decide) (by omega) rfl ?_
                      refine z_aload0 gi_152_60 ?_
                      refine z_getR (r := 76) gi_152_61 gk_50 (hRr _ rm_50_43 (by decide)) ?_
                      refine z_aload0 gi_152_64 ?_
                      refine z_getI (v := J 8 2) gi_152_65 gk_50 ((zU_n (by decide)).trans ((zU_n (by decide)).trans ((zU_n (by decide)).trans ((zU_n (by decide)).trans ((zU_n (by decide)).trans ((zU_n (by decide)).trans ((zU_n (by decide)).trans (y2.symm)))))))) ?_
                      refine z_pushJ gp_152_68 ?_
                      refine z_iast (e := 0) gi_152_69 gk_76 (by decide) (by omega) rfl ?_
                      refine z_aload0 gi_152_70 ?_
                      refine z_dup gi_152_71 rfl ?_
                      refine z_getI (v := J 8 2) gi_152_72 gk_50 ((zU_n (by decide)).trans ((zU_n (by decide)).trans ((zU_n (by decide)).trans ((zU_n (by decide)).trans ((zU_n (by decide)).trans ((zU_n (by decide)).trans ((zU_n (by decide)).trans ((zU_n (by decide)).trans (y2.symm))))))))) ?_
                      refine z_pushJ gp_152_75 ?_
                      refine z_iadd (e := (J 8 2) + 1) gi_152_76 rfl ?_
                      refine z_putI (y := 1) gi_152_77 rfl gk_50 ?_
                      refine z_aload0 gi_152_80 ?_
                      refine z_getI (v := (J 8 2) + 1) gi_152_81 gk_50 (zU_e) ?_
                      refine z_pushJ gp_152_84 ?_
                      refine z_isub (e := (J 8 2) + 1 - 1) gi_152_85 rfl ?_
                      refine z_iret gi_152_86 gr_152 ?_
                      show zW _ _ _ _ _ _ _ _ _ _
                      refine z_iret gi_153_50 gr_153 ?_
                      refine ⟨?_, ?_⟩
                      · exfalso
                        omega
                      · exfalso
                        omega
                    · refine z_aload0 gi_91_13 ?_
                      refine z_getR (r := 9) gi_91_14 gk_8 (hR _ rm_8_1) ?_
                      refine z_iload4 gi_91_17 ?_
                      refine z_iload3 gi_91_19 ?_
                      refine z_iast (e := 0) gi_91_20 gk_9 (by decide) (by omega) rfl ?_
                      refine z_vret gi_91_21 gr_91 ?_
                      show zW _ _ _ _ _ _ _ _ _ _
                      refine z_iload4 gi_92_64 ?_
                      refine z_iret gi_92_66 gr_92 ?_
                      show zW _ _ _ _ _ _ _ _ _ _
                      refine z_iret gi_101_48 gr_101 ?_
                      refine ⟨_, rfl, ?_⟩
                      show zW _ _ _ _ [some (.ref 50), some (zi p), some (zi q)] _ _ _ _ _
                      refine z_iload1 gi_153_0 ?_
                      refine z_pushJ gp_153_1 ?_
                      refine z_pushJ gp_153_2 ?_
                      refine z_cS3 gi_153_5 (Nat.le_of_ble_eq_true rfl) gc_148_III ?_
                      refine z_iload0 gi_148_0 ?_
                      refine z_iload1 gi_148_1 ?_
                      refine z_icmp_ltF gi_148_2 (by omega) zr_0 (by omega) ?_
                      refine z_iload0 gi_148_5 ?_
                      refine z_iload2 gi_148_6 ?_
                      refine z_icmp_gtF gi_148_7 (by omega) (by decide) (by omega) ?_
                      refine z_pushJ gp_148_10 ?_
                      refine z_goto gi_148_11 ?_
                      refine z_bret1 gi_148_15 gr_148 ?_
                      show zW _ _ _ _ _ _ _ _ _ _
                      refine z_if_eqF gi_153_8 zr_1 (by decide) ?_
                      refine z_iload2 gi_153_11 ?_
                      refine z_pushJ gp_153_12 ?_
                      refine z_pushJ gp_153_13 ?_
                      refine z_cS3 gi_153_15 (Nat.le_of_ble_eq_true rfl) gc_148_III ?_
                      refine z_iload0 gi_148_0 ?_
                      refine z_iload1 gi_148_1 ?_
                      refine z_icmp_ltF gi_148_2 (by omega) zr_0 (by omega) ?_
                      refine z_iload0 gi_148_5 ?_
                      refine z_iload2 gi_148_6 ?_
                      refine z_icmp_gtF gi_148_7 (by omega) zr_99 (by omega) ?_
                      refine z_pushJ gp_148_10 ?_
                      refine z_goto gi_148_11 ?_
                      refine z_bret1 gi_148_15 gr_148 ?_
                      show zW _ _ _ _ _ _ _ _ _ _
                      refine z_if_neT gi_153_18 zr_1 (by decide) ?_
                      refine z_aload0 gi_153_23 ?_
                      refine z_getI (v := J 8 2) gi_153_24 gk_50 ((zU_n (by decide)).trans ((zU_n (by decide)).trans (y2.symm))) ?_
                      refine z_pushJ gp_153_27 ?_
                      refine z_icmp_neT gi_153_29 (by omega) zr_8 (by omega) ?_
                      refine z_aload0 gi_153_37 ?_
                      refine z_iload1 gi_153_38 ?_
                      refine z_pushJ gp_153_39 ?_
                      refine z_irem (e := p % 100) gi_153_41 (by omega) (by omega) rfl ?_
                      refine z_iload1 gi_153_42 ?_
                      refine z_pushJ gp_153_43 ?_
                      refine z_idiv (e := p / 100) gi_153_45 (by omega) (by omega) rfl ?_
                      refine z_iload2 gi_153_46 ?_
                      refine z_cV3 gi_153_47 gk_50 go_152 (Nat.le_of_ble_eq_true rfl) gc_152_RIII ?_
                      refine z_aload0 gi_152_0 ?_
                      refine z_getR (r := 51) gi_152_1 gk_50 (hRr _ rm_50_2 (by decide)) ?_
                      refine z_aload0 gi_152_4 ?_
                      refine z_getI (v := J 8 2) gi_152_5 gk_50 ((zU_n (by decide)).trans ((zU_n (by decide)).trans (y2.symm))) ?_
                      refine z_iload1 gi_152_8 ?_
                      refine z_iast (e := p % 100) gi_152_9 gk_51 (by decide) (by omega) rfl ?_
                      refine z_aload0 gi_152_10 ?_
                      refine z_getR (r := 52) gi_152_11 gk_50 (hRr _ rm_50_3 (by decide)) ?_
                      refine z_aload0 gi_152_14 ?_
                      refine z_getI (v := J 8 2) gi_152_15 gk_50 ((zU_n (by decide)).trans ((zU_n (by decide)).trans ((zU_n (by decide)).trans (y2.symm)))) ?_
                      refine z_iload2 gi_152_18 ?_
                      refine z_iast (e := p / 100) gi_152_19 gk_52 (by decide) (by omega) rfl ?_
                      refine z_aload0 gi_152_20 ?_
                      refine z_getR (r := 53) gi_152_21 gk_50 (hRr _ rm_50_4 (by decide)) ?_
                      refine z_aload0 gi_152_24 ?_
                      refine z_getI (v := J 8 2) gi_152_25 gk_50 ((zU_n (by decide)).trans ((zU_n (by decide)).trans ((zU_n (by decide)).trans ((zU_n (by decide)).trans (y2.symm))))) ?_
                      refine z_iload3 gi_152_28 ?_
                      refine z_iast (e := q) gi_152_29 gk_53 (by decide) (by omega) rfl ?_
                      refine z_aload0 gi_152_30 ?_
                      refine z_getR (r := 54) gi_152_31 gk_50 (hRr _ rm_50_5 (by decide)) ?_
                      refine z_aload0 gi_152_34 ?_
                      refine z_getI (v := J 8 2) gi_152_35 gk_50 ((zU_n (by decide)).trans ((zU_n (by decide)).trans ((zU_n (by decide)).trans ((zU_n (by decide)).trans ((zU_n (by decide)).trans (y2.symm)))))) ?_
                      refine z_pushJ gp_152_38 ?_
                      refine z_iast (e := 5) gi_152_39 gk_54 (by decide) (by omega) rfl ?_
                      refine z_aload0 gi_152_40 ?_
                      refine z_getR (r := 55) gi_152_41 gk_50 (hRr _ rm_50_6 (by decide)) ?_
                      refine z_aload0 gi_152_44 ?_
                      refine z_getI (v := J 8 2) gi_152_45 gk_50 ((zU_n (by decide)).trans ((zU_n (by decide)).trans ((zU_n (by decide)).trans ((zU_n (by decide)).trans ((zU_n (by decide)).trans ((zU_n (by decide)).trans (y2.symm))))))) ?_
                      refine z_pushJ gp_152_48 ?_
                      refine z_iast (e := 0) gi_152_49 gk_55 (by decide) (by omega) rfl ?_
                      refine z_aload0 gi_152_50 ?_
                      refine z_getR (r := 75) gi_152_51 gk_50 (hRr _ rm_50_42 (by decide)) ?_
                      refine z_aload0 gi_152_54 ?_
                      refine z_getI (v := J 8 2) gi_152_55 gk_50 ((zU_n (by decide)).trans ((zU_n (by decide)).trans ((zU_n (by decide)).trans ((zU_n (by decide)).trans ((zU_n (by decide)).trans ((zU_n (by decide)).trans ((zU_n (by decide)).trans (y2.symm)))))))) ?_
                      refine z_pushJ gp_152_58 ?_
                      refine z_iast (e := 0) gi_152_59 gk_75 (by decide) (by omega) rfl ?_
                      refine z_aload0 gi_152_60 ?_
                      refine z_getR (r := 76) gi_152_61 gk_50 (hRr _ rm_50_43 (by decide)) ?_
                      refine z_aload0 gi_152_64 ?_
                      refine z_getI (v := J 8 2) gi_152_65 gk_50 ((zU_n (by decide)).trans ((zU_n (by decide)).trans ((zU_n (by decide)).trans ((zU_n (by decide)).trans ((zU_n (by decide)).trans ((zU_n (by decide)).trans ((zU_n (by decide)).trans ((zU_n (by decide)).trans (y2.symm))))))))) ?_
                      refine z_pushJ gp_152_68 ?_
                      refine z_iast (e := 0) gi_152_69 gk_76 (by decide) (by omega) rfl ?_
                      refine z_aload0 gi_152_70 ?_
                      refine z_dup gi_152_71 rfl ?_
                      refine z_getI (v := J 8 2) gi_152_72 gk_50 ((zU_n (by decide)).trans ((zU_n (by decide)).trans ((zU_n (by decide)).trans ((zU_n (by decide)).trans ((zU_n (by decide)).trans ((zU_n (by decide)).trans ((zU_n (by decide)).trans ((zU_n (by decide)).trans ((zU_n (by decide)).trans (y2.symm)))))))))) ?_
                      refine z_pushJ gp_152_75 ?_
                      refine z_iadd (e := (J 8 2) + 1) gi_152_76 rfl ?_
                      refine z_putI (y := 1) gi_152_77 rfl gk_50 ?_
                      refine z_aload0 gi_152_80 ?_
                      refine z_getI (v := (J 8 2) + 1) gi_152_81 gk_50 (zU_e) ?_
                      refine z_pushJ gp_152_84 ?_
                      refine z_isub (e := (J 8 2) + 1 - 1) gi_152_85 rfl ?_
                      refine z_iret gi_152_86 gr_152 ?_
                      show zW _ _ _ _ _ _ _ _ _ _
                      refine z_iret gi_153_50 gr_153 ?_
                      refine ⟨?_, ?_⟩
                      · exfalso
                        omega
                      · exfalso
                        omega
                  · refine z_aload0 gi_91_13 ?_
                    refine z_getR (r := 9) gi_91_14 gk_8 (hR _ rm_8_1) ?_
                    refine z_iload4 gi_91_17 ?_
                    refine z_iload3 gi_91_19 ?_
                    refine z_iast (e := 5) gi_91_20 gk_9 (by decide) (by omega) rfl ?_
                    refine z_vret gi_91_21 gr_91 ?_
                    show zW _ _ _ _ _ _ _ _ _ _
                    refine z_aload0 gi_92_52 ?_
                    refine z_iload4 gi_92_53 ?_
                    refine z_pushJ gp_92_55 ?_
                    refine z_getS gi_92_56 ?_
                    refine z_pushJ gp_92_59 ?_
                    refine z_sald (j := 0) (n := 14) (v := 0) gi_92_60 (by decide) rfl (by decide) (by decide) rfl ?_
                    refine z_callVi (As := [_, _, _]) (le := [some _, some _, some _, some _, none]) gi_92_61 rfl gk_8 (Nat.le_of_ble_eq_true rfl) (Nat.le_of_ble_eq_true rfl) rfl ?_
                    refine z_aload0 gi_91_0 ?_
                    refine z_iload1 gi_91_1 ?_
                    refine z_iload2 gi_91_2 ?_
                    refine z_cV2 gi_91_3 gk_8 go_89 (Nat.le_of_ble_eq_true rfl) gc_89_RII ?_
                    refine z_iload2 gi_89_0 ?_
                    refine z_if_ltF gi_89_1 zr_4 (by decide) ?_
                    refine z_iload2 gi_89_4 ?_
                    refine z_pushJ gp_89_5 ?_
                    refine z_icmp_ltT gi_89_7 zr_4 zr_14 (by decide) ?_
                    refine z_iload2 gi_89_12 ?_
                    refine z_pushJ gp_89_13 ?_
                    refine z_icmp_geF gi_89_14 zr_4 zr_5 (by decide) ?_
                    refine z_aload0 gi_89_17 ?_
                    refine z_iload1 gi_89_18 ?_
                    refine z_cV1 gi_89_19 gk_8 go_87 (Nat.le_of_ble_eq_true rfl) gc_87_RI ?_
                    refine z_iload1 gi_87_0 ?_
                    refine z_if_ltF gi_87_1 (by omega) (by omega) ?_
                    refine z_iload1 gi_87_4 ?_
                    refine z_aload0 gi_87_5 ?_
                    refine z_getI (v := (J 8 2) + 1) gi_87_6 gk_8 ((zU_n (by decide)).trans (zU_e)) ?_
                    refine z_icmp_geF gi_87_9 (by omega) (by omega) (by omega) ?_
                    refine z_pushJ gp_87_12 ?_
                    refine z_goto gi_87_13 ?_
                    refine z_bret1 gi_87_17 gr_87 ?_
                    show zW _ _ _ _ _ _ _ _ _ _
                    refine z_if_eqF gi_89_22 zr_1 (by decide) ?_
                    refine z_iload1 gi_89_25 ?_
                    refine z_pushJ gp_89_26 ?_
                    refine z_imul (e := (J 8 2) * 5) gi_89_27 rfl ?_
                    refine z_iload2 gi_89_28 ?_
                    refine z_iadd (e := (J 8 2) * 5 + 4) gi_89_29 rfl ?_
                    refine z_goto gi_89_30 ?_
                    refine z_iret gi_89_34 gr_89 ?_
                    show zW _ _ _ _ _ _ _ _ _ _
                    refine z_istore (ls1 := [some (.ref 8), some (zi (J 8 2)), some (zi 4), some (zi 0), some (zi ((J 8 2) * 5 + 4))]) gi_91_6 rfl ?_
                    refine z_iload4 gi_91_8 ?_
                    refine z_if_ltF gi_91_10 (by omega) (by omega) ?_
                    refine z_aload0 gi_91_13 ?_
                    refine z_getR (r := 9) gi_91_14 gk_8 (hR _ rm_8_1) ?_
                    refine z_iload4 gi_91_17 ?_
                    refine z_iload3 gi_91_19 ?_
                    refine z_iast (e := 0) gi_91_20 gk_9 (by decide) (by omega) rfl ?_
                    refine z_vret gi_91_21 gr_91 ?_
                    show zW _ _ _ _ _ _ _ _ _ _
                    refine z_iload4 gi_92_64 ?_
                    refine z_iret gi_92_66 gr_92 ?_
                    show zW _ _ _ _ _ _ _ _ _ _
                    refine z_iret gi_101_48 gr_101 ?_
                    refine ⟨_, rfl, ?_⟩
                    show zW _ _ _ _ [some (.ref 50), some (zi p), some (zi q)] _ _ _ _ _
                    refine z_iload1 gi_153_0 ?_
                    refine z_pushJ gp_153_1 ?_
                    refine z_pushJ gp_153_2 ?_
                    refine z_cS3 gi_153_5 (Nat.le_of_ble_eq_true rfl) gc_148_III ?_
                    refine z_iload0 gi_148_0 ?_
                    refine z_iload1 gi_148_1 ?_
                    refine z_icmp_ltF gi_148_2 (by omega) zr_0 (by omega) ?_
                    refine z_iload0 gi_148_5 ?_
                    refine z_iload2 gi_148_6 ?_
                    refine z_icmp_gtF gi_148_7 (by omega) (by decide) (by omega) ?_
                    refine z_pushJ gp_148_10 ?_
                    refine z_goto gi_148_11 ?_
                    refine z_bret1 gi_148_15 gr_148 ?_
                    show zW _ _ _ _ _ _ _ _ _ _
                    refine z_if_eqF gi_153_8 zr_1 (by decide) ?_
                    refine z_iload2 gi_153_11 ?_
                    refine z_pushJ gp_153_12 ?_
                    refine z_pushJ gp_153_13 ?_
                    refine z_cS3 gi_153_15 (Nat.le_of_ble_eq_true rfl) gc_148_III ?_
                    refine z_iload0 gi_148_0 ?_
                    refine z_iload1 gi_148_1 ?_
                    refine z_icmp_ltF gi_148_2 (by omega) zr_0 (by omega) ?_
                    refine z_iload0 gi_148_5 ?_
                    refine z_iload2 gi_148_6 ?_
                    refine z_icmp_gtF gi_148_7 (by omega) zr_99 (by omega) ?_
                    refine z_pushJ gp_148_10 ?_
                    refine z_goto gi_148_11 ?_
                    refine z_bret1 gi_148_15 gr_148 ?_
                    show zW _ _ _ _ _ _ _ _ _ _
                    refine z_if_neT gi_153_18 zr_1 (by decide) ?_
                    refine z_aload0 gi_153_23 ?_
                    refine z_getI (v := J 8 2) gi_153_24 gk_50 ((zU_n (by decide)).trans ((zU_n (by decide)).trans ((zU_n (by decide)).trans (y2.symm)))) ?_
                    refine z_pushJ gp_153_27 ?_
                    refine z_icmp_neT gi_153_29 (by omega) zr_8 (by omega) ?_
                    refine z_aload0 gi_153_37 ?_
                    refine z_iload1 gi_153_38 ?_
                    refine z_pushJ gp_153_39 ?_
                    refine z_irem (e := p % 100) gi_153_41 (by omega) (by omega) rfl ?_
                    refine z_iload1 gi_153_42 ?_
                    refine z_pushJ gp_153_43 ?_
                    refine z_idiv (e := p / 100) gi_153_45 (by omega) (by omega) rfl ?_
                    refine z_iload2 gi_153_46 ?_
                    refine z_cV3 gi_153_47 gk_50 go_152 (Nat.le_of_ble_eq_true rfl) gc_152_RIII ?_
                    refine z_aload0 gi_152_0 ?_
                    refine z_getR (r := 51) gi_152_1 gk_50 (hRr _ rm_50_2 (by decide)) ?_
                    refine z_aload0 gi_152_4 ?_
                    refine z_getI (v := J 8 2) gi_152_5 gk_50 ((zU_n (by decide)).trans ((zU_n (by decide)).trans ((zU_n (by decide)).trans (y2.symm)))) ?_
                    refine z_iload1 gi_152_8 ?_
                    refine z_iast (e := p % 100) gi_152_9 gk_51 (by decide) (by omega) rfl ?_
                    refine z_aload0 gi_152_10 ?_
                    refine z_getR (r := 52) gi_152_11 gk_50 (hRr _ rm_50_3 (by decide)) ?_
                    refine z_aload0 gi_152_14 ?_
                    refine z_getI (v := J 8 2) gi_152_15 gk_50 ((zU_n (by decide)).trans ((zU_n (by decide)).trans ((zU_n (by decide)).trans ((zU_n (by decide)).trans (y2.symm))))) ?_
                    refine z_iload2 gi_152_18 ?_
                    refine z_iast (e := p / 100) gi_152_19 gk_52 (by decide) (by omega) rfl ?_
                    refine z_aload0 gi_152_20 ?_
                    refine z_getR (r := 53) gi_152_21 gk_50 (hRr _ rm_50_4 (by decide)) ?_
                    refine z_aload0 gi_152_24 ?_
                    refine z_getI (v := J 8 2) gi_152_25 gk_50 ((zU_n (by decide)).trans ((zU_n (by decide)).trans ((zU_n (by decide)).trans ((zU_n (by decide)).trans ((zU_n (by decide)).trans (y2.symm)))))) ?_
                    refine z_iload3 gi_152_28 ?_
                    refine z_iast (e := q) gi_152_29 gk_53 (by decide) (by omega) rfl ?_
                    refine z_aload0 gi_152_30 ?_
                    refine z_getR (r := 54) gi_152_31 gk_50 (hRr _ rm_50_5 (by decide)) ?_
                    refine z_aload0 gi_152_34 ?_
                    refine z_getI (v := J 8 2) gi_152_35 gk_50 ((zU_n (by decide)).trans ((zU_n (by decide)).trans ((zU_n (by decide)).trans ((zU_n (by decide)).trans ((zU_n (by decide)).trans ((zU_n (by decide)).trans (y2.symm))))))) ?_
                    refine z_pushJ gp_152_38 ?_
                    refine z_iast (e := 5) gi_152_39 gk_54 (by decide) (by omega) rfl ?_
                    refine z_aload0 gi_152_40 ?_
                    refine z_getR (r := 55) gi_152_41 gk_50 (hRr _ rm_50_6 (by decide)) ?_
                    refine z_aload0 gi_152_44 ?_
                    refine z_getI (v := J 8 2) gi_152_45 gk_50 ((zU_n (by decide)).trans ((zU_n (by decide)).trans ((zU_n (by decide)).trans ((zU_n (by decide)).trans ((zU_n (by decide)).trans ((zU_n (by decide)).trans ((zU_n (by decide)).trans (y2.symm)))))))) ?_
                    refine z_pushJ gp_152_48 ?_
                    refine z_iast (e := 0) gi_152_49 gk_55 (by decide) (by omega) rfl ?_
                    refine z_aload0 gi_152_50 ?_
                    refine z_getR (r := 75) gi_152_51 gk_50 (hRr _ rm_50_42 (by decide)) ?_
                    refine z_aload0 gi_152_54 ?_
                    refine z_getI (v := J 8 2) gi_152_55 gk_50 ((zU_n (by decide)).trans ((zU_n (by decide)).trans ((zU_n (by decide)).trans ((zU_n (by decide)).trans ((zU_n (by decide)).trans ((zU_n (by decide)).trans ((zU_n (by decide)).trans ((zU_n (by decide)).trans (y2.symm))))))))) ?_
                    refine z_pushJ gp_152_58 ?_
                    refine z_iast (e := 0) gi_152_59 gk_75 (by decide) (by omega) rfl ?_
                    refine z_aload0 gi_152_60 ?_
                    refine z_getR (r := 76) gi_152_61 gk_50 (hRr _ rm_50_43 (by decide)) ?_
                    refine z_aload0 gi_152_64 ?_
                    refine z_getI (v := J 8 2) gi_152_65 gk_50 ((zU_n (by decide)).trans ((zU_n (by decide)).trans ((zU_n (by decide)).trans ((zU_n (by decide)).trans ((zU_n (by decide)).trans ((zU_n (by decide)).trans ((zU_n (by decide)).trans ((zU_n (by decide)).trans ((zU_n (by decide)).trans (y2.symm)))))))))) ?_
                    refine z_pushJ gp_152_68 ?_
                    refine z_iast (e := 0) gi_152_69 gk_76 (by decide) (by omega) rfl ?_
                    refine z_aload0 gi_152_70 ?_
                    refine z_dup gi_152_71 rfl ?_
                    refine z_getI (v := J 8 2) gi_152_72 gk_50 ((zU_n (by decide)).trans ((zU_n (by decide)).trans ((zU_n (by decide)).trans ((zU_n (by decide)).trans ((zU_n (by decide)).trans ((zU_n (by decide)).trans ((zU_n (by decide)).trans ((zU_n (by decide)).trans ((zU_n (by decide)).trans ((zU_n (by decide)).trans (y2.symm))))))))))) ?_
                    refine z_pushJ gp_152_75 ?_
                    refine z_iadd (e := (J 8 2) + 1) gi_152_76 rfl ?_
                    refine z_putI (y := 1) gi_152_77 rfl gk_50 ?_
                    refine z_aload0 gi_152_80 ?_
                    refine z_getI (v := (J 8 2) + 1) gi_152_81 gk_50 (zU_e) ?_
                    refine z_pushJ gp_152_84 ?_
                    refine z_isub (e := (J 8 2) + 1 - 1) gi_152_85 rfl ?_
                    refine z_iret gi_152_86 gr_152 ?_
                    show zW _ _ _ _ _ _ _ _ _ _
                    refine z_iret gi_153_50 gr_153 ?_
                    refine ⟨?_, ?_⟩
                    · exfalso
                      omega
                    · exfalso
                      omega
                · refine z_aload0 gi_91_13 ?_
                  refine z_getR (r := 9) gi_91_14 gk_8 (hR _ rm_8_1) ?_
                  refine z_iload4 gi_91_17 ?_
                  refine z_iload3 gi_91_19 ?_
                  refine z_iast (e := q) gi_91_20 gk_9 (by decide) (by omega) rfl ?_
                  refine z_vret gi_91_21 gr_91 ?_
                  show zW _ _ _ _ _ _ _ _ _ _
                  refine z_aload0 gi_92_40 ?_
                  refine z_iload4 gi_92_41 ?_
                  refine z_pushJ gp_92_43 ?_
                  refine z_getS gi_92_44 ?_
                  refine z_pushJ gp_92_47 ?_
                  refine z_sald (j := 0) (n := 14) (v := 5) gi_92_48 (by decide) rfl (by decide) (by decide) rfl ?_
                  refine z_callVi (As := [_, _, _]) (le := [some _, some _, some _, some _, none]) gi_92_49 rfl gk_8 (Nat.le_of_ble_eq_true rfl) (Nat.le_of_ble_eq_true rfl) rfl ?_
                  refine z_aload0 gi_91_0 ?_
                  refine z_iload1 gi_91_1 ?_
                  refine z_iload2 gi_91_2 ?_
                  refine z_cV2 gi_91_3 gk_8 go_89 (Nat.le_of_ble_eq_true rfl) gc_89_RII ?_
                  refine z_iload2 gi_89_0 ?_
                  refine z_if_ltF gi_89_1 zr_3 (by decide) ?_
                  refine z_iload2 gi_89_4 ?_
                  refine z_pushJ gp_89_5 ?_
                  refine z_icmp_ltT gi_89_7 zr_3 zr_14 (by decide) ?_
                  refine z_iload2 gi_89_12 ?_
                  refine z_pushJ gp_89_13 ?_
                  refine z_icmp_geF gi_89_14 zr_3 zr_5 (by decide) ?_
                  refine z_aload0 gi_89_17 ?_
                  refine z_iload1 gi_89_18 ?_
                  refine z_cV1 gi_89_19 gk_8 go_87 (Nat.le_of_ble_eq_true rfl) gc_87_RI ?_
                  refine z_iload1 gi_87_0 ?_
                  refine z_if_ltF gi_87_1 (by omega) (by omega) ?_
                  refine z_iload1 gi_87_4 ?_
                  refine z_aload0 gi_87_5 ?_
                  refine z_getI (v := (J 8 2) + 1) gi_87_6 gk_8 ((zU_n (by decide)).trans (zU_e)) ?_
                  refine z_icmp_geF gi_87_9 (by omega) (by omega) (by omega) ?_
                  refine z_pushJ gp_87_12 ?_
                  refine z_goto gi_87_13 ?_
                  refine z_bret1 gi_87_17 gr_87 ?_
                  show zW _ _ _ _ _ _ _ _ _ _
                  refine z_if_eqF gi_89_22 zr_1 (by decide) ?_
                  refine z_iload1 gi_89_25 ?_
                  refine z_pushJ gp_89_26 ?_
                  refine z_imul (e := (J 8 2) * 5) gi_89_27 rfl ?_
                  refine z_iload2 gi_89_28 ?_
                  refine z_iadd (e := (J 8 2) * 5 + 3) gi_89_29 rfl ?_
                  refine z_goto gi_89_30 ?_
                  refine z_iret gi_89_34 gr_89 ?_
                  show zW _ _ _ _ _ _ _ _ _ _
                  refine z_istore (ls1 := [some (.ref 8), some (zi (J 8 2)), some (zi 3), some (zi 5), some (zi ((J 8 2) * 5 + 3))]) gi_91_6 rfl ?_
                  refine z_iload4 gi_91_8 ?_
                  refine z_if_ltF gi_91_10 (by omega) (by omega) ?_
                  refine z_aload0 gi_91_13 ?_
                  refine z_getR (r := 9) gi_91_14 gk_8 (hR _ rm_8_1) ?_
                  refine z_iload4 gi_91_17 ?_
                  refine z_iload3 gi_91_19 ?_
                  refine z_iast (e := 5) gi_91_20 gk_9 (by decide) (by omega) rfl ?_
                  refine z_vret gi_91_21 gr_91 ?_
                  show zW _ _ _ _ _ _ _ _ _ _
                  refine z_aload0 gi_92_52 ?_
                  refine z_iload4 gi_92_53 ?_
                  refine z_pushJ gp_92_55 ?_
                  refine z_getS gi_92_56 ?_
                  refine z_pushJ gp_92_59 ?_
                  refine z_sald (j := 0) (n := 14) (v := 0) gi_92_60 (by decide) rfl (by decide) (by decide) rfl ?_
                  refine z_callVi (As := [_, _, _]) (le := [some _, some _, some _, some _, none]) gi_92_61 rfl gk_8 (Nat.le_of_ble_eq_true rfl) (Nat.le_of_ble_eq_true rfl) rfl ?_
                  refine z_aload0 gi_91_0 ?_
                  refine z_iload1 gi_91_1 ?_
                  refine z_iload2 gi_91_2 ?_
                  refine z_cV2 gi_91_3 gk_8 go_89 (Nat.le_of_ble_eq_true rfl) gc_89_RII ?_
                  refine z_iload2 gi_89_0 ?_
                  refine z_if_ltF gi_89_1 zr_4 (by decide) ?_
                  refine z_iload2 gi_89_4 ?_
                  refine z_pushJ gp_89_5 ?_
                  refine z_icmp_ltT gi_89_7 zr_4 zr_14 (by decide) ?_
                  refine z_iload2 gi_89_12 ?_
                  refine z_pushJ gp_89_13 ?_
                  refine z_icmp_geF gi_89_14 zr_4 zr_5 (by decide) ?_
                  refine z_aload0 gi_89_17 ?_
                  refine z_iload1 gi_89_18 ?_
                  refine z_cV1 gi_89_19 gk_8 go_87 (Nat.le_of_ble_eq_true rfl) gc_87_RI ?_
                  refine z_iload1 gi_87_0 ?_
                  refine z_if_ltF gi_87_1 (by omega) (by omega) ?_
                  refine z_iload1 gi_87_4 ?_
                  refine z_aload0 gi_87_5 ?_
                  refine z_getI (v := (J 8 2) + 1) gi_87_6 gk_8 ((zU_n (by decide)).trans ((zU_n (by decide)).trans (zU_e))) ?_
                  refine z_icmp_geF gi_87_9 (by omega) (by omega) (by omega) ?_
                  refine z_pushJ gp_87_12 ?_
                  refine z_goto gi_87_13 ?_
                  refine z_bret1 gi_87_17 gr_87 ?_
                  show zW _ _ _ _ _ _ _ _ _ _
                  refine z_if_eqF gi_89_22 zr_1 (by decide) ?_
                  refine z_iload1 gi_89_25 ?_
                  refine z_pushJ gp_89_26 ?_
                  refine z_imul (e := (J 8 2) * 5) gi_89_27 rfl ?_
                  refine z_iload2 gi_89_28 ?_
                  refine z_iadd (e := (J 8 2) * 5 + 4) gi_89_29 rfl ?_
                  refine z_goto gi_89_30 ?_
                  refine z_iret gi_89_34 gr_89 ?_
                  show zW _ _ _ _ _ _ _ _ _ _
                  refine z_istore (ls1 := [some (.ref 8), some (zi (J 8 2)), some (zi 4), some (zi 0), some (zi ((J 8 2) * 5 + 4))]) gi_91_6 rfl ?_
                  refine z_iload4 gi_91_8 ?_
                  refine z_if_ltF gi_91_10 (by omega) (by omega) ?_
                  refine z_aload0 gi_91_13 ?_
                  refine z_getR (r := 9) gi_91_14 gk_8 (hR _ rm_8_1) ?_
                  refine z_iload4 gi_91_17 ?_
                  refine z_iload3 gi_91_19 ?_
                  refine z_iast (e := 0) gi_91_20 gk_9 (by decide) (by omega) rfl ?_
                  refine z_vret gi_91_21 gr_91 ?_
                  show zW _ _ _ _ _ _ _ _ _ _
                  refine z_iload4 gi_92_64 ?_
                  refine z_iret gi_92_66 gr_92 ?_
                  show zW _ _ _ _ _ _ _ _ _ _
                  refine z_iret gi_101_48 gr_101 ?_
                  refine ⟨_, rfl, ?_⟩
                  show zW _ _ _ _ [some (.ref 50), some (zi p), some (zi q)] _ _ _ _ _
                  refine z_iload1 gi_153_0 ?_
                  refine z_pushJ gp_153_1 ?_
                  refine z_pushJ gp_153_2 ?_
                  refine z_cS3 gi_153_5 (Nat.le_of_ble_eq_true rfl) gc_148_III ?_
                  refine z_iload0 gi_148_0 ?_
                  refine z_iload1 gi_148_1 ?_
                  refine z_icmp_ltF gi_148_2 (by omega) zr_0 (by omega) ?_
                  refine z_iload0 gi_148_5 ?_
                  refine z_iload2 gi_148_6 ?_
                  refine z_icmp_gtF gi_148_7 (by omega) (by decide) (by omega) ?_
                  refine z_pushJ gp_148_10 ?_
                  refine z_goto gi_148_11 ?_
                  refine z_bret1 gi_148_15 gr_148 ?_
                  show zW _ _ _ _ _ _ _ _ _ _
                  refine z_if_eqF gi_153_8 zr_1 (by decide) ?_
                  refine z_iload2 gi_153_11 ?_
                  refine z_pushJ gp_153_12 ?_
                  refine z_pushJ gp_153_13 ?_
                  refine z_cS3 gi_153_15 (Nat.le_of_ble_eq_true rfl) gc_148_III ?_
                  refine z_iload0 gi_148_0 ?_
                  refine z_iload1 gi_148_1 ?_
                  refine z_icmp_ltF gi_148_2 (by omega) zr_0 (by omega) ?_
                  refine z_iload0 gi_148_5 ?_
                  refine z_iload2 gi_148_6 ?_
                  refine z_icmp_gtF gi_148_7 (by omega) zr_99 (by omega) ?_
                  refine z_pushJ gp_148_10 ?_
                  refine z_goto gi_148_11 ?_
                  refine z_bret1 gi_148_15 gr_148 ?_
                  show zW _ _ _ _ _ _ _ _ _ _
                  refine z_if_neT gi_153_18 zr_1 (by decide) ?_
                  refine z_aload0 gi_153_23 ?_
                  refine z_getI (v := J 8 2) gi_153_24 gk_50 ((zU_n (by decide)).trans ((zU_n (by decide)).trans ((zU_n (by decide)).trans ((zU_n (by decide)).trans (y2.symm))))) ?_
                  refine z_pushJ gp_153_27 ?_
                  refine z_icmp_neT gi_153_29 (by omega) zr_8 (by omega) ?_
                  refine z_aload0 gi_153_37 ?_
                  refine z_iload1 gi_153_38 ?_
                  refine z_pushJ gp_153_39 ?_
                  refine z_irem (e := p % 100) gi_153_41 (by omega) (by omega) rfl ?_
                  refine z_iload1 gi_153_42 ?_
                  refine z_pushJ gp_153_43 ?_
                  refine z_idiv (e := p / 100) gi_153_45 (by omega) (by omega) rfl ?_
                  refine z_iload2 gi_153_46 ?_
                  refine z_cV3 gi_153_47 gk_50 go_152 (Nat.le_of_ble_eq_true rfl) gc_152_RIII ?_
                  refine z_aload0 gi_152_0 ?_
                  refine z_getR (r := 51) gi_152_1 gk_50 (hRr _ rm_50_2 (by decide)) ?_
                  refine z_aload0 gi_152_4 ?_
                  refine z_getI (v := J 8 2) gi_152_5 gk_50 ((zU_n (by decide)).trans ((zU_n (by decide)).trans ((zU_n (by decide)).trans ((zU_n (by decide)).trans (y2.symm))))) ?_
                  refine z_iload1 gi_152_8 ?_
                  refine z_iast (e := p % 100) gi_152_9 gk_51 (by decide) (by omega) rfl ?_
                  refine z_aload0 gi_152_10 ?_
                  refine z_getR (r := 52) gi_152_11 gk_50 (hRr _ rm_50_3 (by decide)) ?_
                  refine z_aload0 gi_152_14 ?_
                  refine z_getI (v := J 8 2) gi_152_15 gk_50 ((zU_n (by decide)).trans ((zU_n (by decide)).trans ((zU_n (by decide)).trans ((zU_n (by decide)).trans ((zU_n (by decide)).trans (y2.symm)))))) ?_
                  refine z_iload2 gi_152_18 ?_
                  refine z_iast (e := p / 100) gi_152_19 gk_52 (by decide) (by omega) rfl ?_
                  refine z_aload0 gi_152_20 ?_
                  refine z_getR (r := 53) gi_152_21 gk_50 (hRr _ rm_50_4 (by decide)) ?_
                  refine z_aload0 gi_152_24 ?_
                  refine z_getI (v := J 8 2) gi_152_25 gk_50 ((zU_n (by decide)).trans ((zU_n (by decide)).trans ((zU_n (by decide)).trans ((zU_n (by decide)).trans ((zU_n (by decide)).trans ((zU_n (by decide)).trans (y2.symm))))))) ?_
                  refine z_iload3 gi_152_28 ?_
                  refine z_iast (e := q) gi_152_29 gk_53 (by decide) (by omega) rfl ?_
                  refine z_aload0 gi_152_30 ?_
                  refine z_getR (r := 54) gi_152_31 gk_50 (hRr _ rm_50_5 (by decide)) ?_
                  refine z_aload0 gi_152_34 ?_
                  refine z_getI (v := J 8 2) gi_152_35 gk_50 ((zU_n (by decide)).trans ((zU_n (by decide)).trans ((zU_n (by decide)).trans ((zU_n (by decide)).trans ((zU_n (by decide)).trans ((zU_n (by decide)).trans ((zU_n (by decide)).trans (y2.symm)))))))) ?_
                  refine z_pushJ gp_152_38 ?_
                  refine z_iast (e := 5) gi_152_39 gk_54 (by decide) (by omega) rfl ?_
                  refine z_aload0 gi_152_40 ?_
                  refine z_getR (r := 55) gi_152_41 gk_50 (hRr _ rm_50_6 (by decide)) ?_
                  refine z_aload0 gi_152_44 ?_
                  refine z_getI (v := J 8 2) gi_152_45 gk_50 ((zU_n (by decide)).trans ((zU_n (by decide)).trans ((zU_n (by decide)).trans ((zU_n (by decide)).trans ((zU_n (by decide)).trans ((zU_n (by decide)).trans ((zU_n (by decide)).trans ((zU_n (by decide)).trans (y2.symm))))))))) ?_
                  refine z_pushJ gp_152_48 ?_
                  refine z_iast (e := 0) gi_152_49 gk_55 (by decide) (by omega) rfl ?_
                  refine z_aload0 gi_152_50 ?_
                  refine z_getR (r := 75) gi_152_51 gk_50 (hRr _ rm_50_42 (by decide)) ?_
                  refine z_aload0 gi_152_54 ?_
                  refine z_getI (v := J 8 2) gi_152_55 gk_50 ((zU_n (by decide)).trans ((zU_n (by decide)).trans ((zU_n (by decide)).trans ((zU_n (by decide)).trans ((zU_n (by decide)).trans ((zU_n (by decide)).trans ((zU_n (by decide)).trans ((zU_n (by decide)).trans ((zU_n (by decide)).trans (y2.symm)))))))))) ?_
                  refine z_pushJ gp_152_58 ?_
                  refine z_iast (e := 0) gi_152_59 gk_75 (by decide) (by omega) rfl ?_
                  refine z_aload0 gi_152_60 ?_
                  refine z_getR (r := 76) gi_152_61 gk_50 (hRr _ rm_50_43 (by decide)) ?_
                  refine z_aload0 gi_152_64 ?_
                  refine z_getI (v := J 8 2) gi_152_65 gk_50 ((zU_n (by decide)).trans ((zU_n (by decide)).trans ((zU_n (by decide)).trans ((zU_n (by decide)).trans ((zU_n (by decide)).trans ((zU_n (by decide)).trans ((zU_n (by decide)).trans ((zU_n (by decide)).trans ((zU_n (by decide)).trans ((zU_n (by decide)).trans (y2.symm))))))))))) ?_
                  refine z_pushJ gp_152_68 ?_
                  refine z_iast (e := 0) gi_152_69 gk_76 (by decide) (by omega) rfl ?_
                  refine z_aload0 gi_152_70 ?_
                  refine z_dup gi_152_71 rfl ?_
                  refine z_getI (v := J 8 2) gi_152_72 gk_50 ((zU_n (by decide)).trans ((zU_n (by decide)).trans ((zU_n (by decide)).trans ((zU_n (by decide)).trans ((zU_n (by decide)).trans ((zU_n (by decide)).trans ((zU_n (by decide)).trans ((zU_n (by decide)).trans ((zU_n (by decide)).trans ((zU_n (by decide)).trans ((zU_n (by decide)).trans (y2.symm)))))))))))) ?_
                  refine z_pushJ gp_152_75 ?_
                  refine z_iadd (e := (J 8 2) + 1) gi_152_76 rfl ?_
                  refine z_putI (y := 1) gi_152_77 rfl gk_50 ?_
                  refine z_aload0 gi_152_80 ?_
                  refine z_getI (v := (J 8 2) + 1) gi_152_81 gk_50 (zU_e) ?_
                  refine z_pushJ gp_152_84 ?_
                  refine z_isub (e := (J 8 2) + 1 - 1) gi_152_85 rfl ?_
                  refine z_iret gi_152_86 gr_152 ?_
                  show zW _ _ _ _ _ _ _ _ _ _
                  refine z_iret gi_153_50 gr_153 ?_
                  refine ⟨?_, ?_⟩
                  · exfalso
                    omega
                  · exfalso
                    omega
              · refine z_aload0 gi_91_13 ?_
                refine z_getR (r := 9) gi_91_14 gk_8 (hR _ rm_8_1) ?_
                refine z_iload4 gi_91_17 ?_
                refine z_iload3 gi_91_19 ?_
                refine z_iast (e := p / 100) gi_91_20 gk_9 (by decide) (by omega) rfl ?_
                refine z_vret gi_91_21 gr_91 ?_
                show zW _ _ _ _ _ _ _ _ _ _
                refine z_aload0 gi_92_32 ?_
                refine z_iload4 gi_92_33 ?_
                refine z_pushJ gp_92_35 ?_
                refine z_iload3 gi_92_36 ?_
                refine z_callVi (As := [_, _, _]) (le := [some _, some _, some _, some _, none]) gi_92_37 rfl gk_8 (Nat.le_of_ble_eq_true rfl) (Nat.le_of_ble_eq_true rfl) rfl ?_
                refine z_aload0 gi_91_0 ?_
                refine z_iload1 gi_91_1 ?_
                refine z_iload2 gi_91_2 ?_
                refine z_cV2 gi_91_3 gk_8 go_89 (Nat.le_of_ble_eq_true rfl) gc_89_RII ?_
                refine z_iload2 gi_89_0 ?_
                refine z_if_ltF gi_89_1 zr_2 (by decide) ?_
                refine z_iload2 gi_89_4 ?_
                refine z_pushJ gp_89_5 ?_
                refine z_icmp_ltT gi_89_7 zr_2 zr_14 (by decide) ?_
                refine z_iload2 gi_89_12 ?_
                refine z_pushJ gp_89_13 ?_
                refine z_icmp_geF gi_89_14 zr_2 zr_5 (by decide) ?_
                refine z_aload0 gi_89_17 ?_
                refine z_iload1 gi_89_18 ?_
                refine z_cV1 gi_89_19 gk_8 go_87 (Nat.le_of_ble_eq_true rfl) gc_87_RI ?_
                refine z_iload1 gi_87_0 ?_
                refine z_if_ltF gi_87_1 (by omega) (by omega) ?_
                refine z_iload1 gi_87_4 ?_
                refine z_aload0 gi_87_5 ?_
                refine z_getI (v := (J 8 2) + 1) gi_87_6 gk_8 ((zU_n (by decide)).trans (zU_e)) ?_
                refine z_icmp_geF gi_87_9 (by omega) (by omega) (by omega) ?_
                refine z_pushJ gp_87_12 ?_
                refine z_goto gi_87_13 ?_
                refine z_bret1 gi_87_17 gr_87 ?_
                show zW _ _ _ _ _ _ _ _ _ _
                refine z_if_eqF gi_89_22 zr_1 (by decide) ?_
                refine z_iload1 gi_89_25 ?_
                refine z_pushJ gp_89_26 ?_
                refine z_imul (e := (J 8 2) * 5) gi_89_27 rfl ?_
                refine z_iload2 gi_89_28 ?_
                refine z_iadd (e := (J 8 2) * 5 + 2) gi_89_29 rfl ?_
                refine z_goto gi_89_30 ?_
                refine z_iret gi_89_34 gr_89 ?_
                show zW _ _ _ _ _ _ _ _ _ _
                refine z_istore (ls1 := [some (.ref 8), some (zi (J 8 2)), some (zi 2), some (zi q), some (zi ((J 8 2) * 5 + 2))]) gi_91_6 rfl ?_
                refine z_iload4 gi_91_8 ?_
                refine z_if_ltF gi_91_10 (by omega) (by omega) ?_
                refine z_aload0 gi_91_13 ?_
                refine z_getR (r := 9) gi_91_14 gk_8 (hR _ rm_8_1) ?_
                refine z_iload4 gi_91_17 ?_
                refine z_iload3 gi_91_19 ?_
                refine z_iast (e := q) gi_91_20 gk_9 (by decide) (by omega) rfl ?_
                refine z_vret gi_91_21 gr_91 ?_
                show zW _ _ _ _ _ _ _ _ _ _
                refine z_aload0 gi_92_40 ?_
                refine z_iload4 gi_92_41 ?_
                refine z_pushJ gp_92_43 ?_
                refine z_getS gi_92_44 ?_
                refine z_pushJ gp_92_47 ?_
                refine z_sald (j := 0) (n := 14) (v := 5) gi_92_48 (by decide) rfl (by decide) (by decide) rfl ?_
                refine z_callVi (As := [_, _, _]) (le := [some _, some _, some _, some _, none]) gi_92_49 rfl gk_8 (Nat.le_of_ble_eq_true rfl) (Nat.le_of_ble_eq_true rfl) rfl ?_
                refine z_aload0 gi_91_0 ?_
                refine z_iload1 gi_91_1 ?_
                refine z_iload2 gi_91_2 ?_
                refine z_cV2 gi_91_3 gk_8 go_89 (Nat.le_of_ble_eq_true rfl) gc_89_RII ?_
                refine z_iload2 gi_89_0 ?_
                refine z_if_ltF gi_89_1 zr_3 (by decide) ?_
                refine z_iload2 gi_89_4 ?_
                refine z_pushJ gp_89_5 ?_
                refine z_icmp_ltT gi_89_7 zr_3 zr_14 (by decide) ?_
                refine z_iload2 gi_89_12 ?_
                refine z_pushJ gp_89_13 ?_
                refine z_icmp_geF gi_89_14 zr_3 zr_5 (by decide) ?_
                refine z_aload0 gi_89_17 ?_
                refine z_iload1 gi_89_18 ?_
                refine z_cV1 gi_89_19 gk_8 go_87 (Nat.le_of_ble_eq_true rfl) gc_87_RI ?_
                refine z_iload1 gi_87_0 ?_
                refine z_if_ltF gi_87_1 (by omega) (by omega) ?_
                refine z_iload1 gi_87_4 ?_
                refine z_aload0 gi_87_5 ?_
                refine z_getI (v := (J 8 2) + 1) gi_87_6 gk_8 ((zU_n (by decide)).trans ((zU_n (by decide)).trans (zU_e))) ?_
                refine z_icmp_geF gi_87_9 (by omega) (by omega) (by omega) ?_
                refine z_pushJ gp_87_12 ?_
                refine z_goto gi_87_13 ?_
                refine z_bret1 gi_87_17 gr_87 ?_
                show zW _ _ _ _ _ _ _ _ _ _
                refine z_if_eqF gi_89_22 zr_1 (by decide) ?_
                refine z_iload1 gi_89_25 ?_
                refine z_pushJ gp_89_26 ?_
                refine z_imul (e := (J 8 2) * 5) gi_89_27 rfl ?_
                refine z_iload2 gi_89_28 ?_
                refine z_iadd (e := (J 8 2) * 5 + 3) gi_89_29 rfl ?_
                refine z_goto gi_89_30 ?_
                refine z_iret gi_89_34 gr_89 ?_
                show zW _ _ _ _ _ _ _ _ _ _
                refine z_istore (ls1 := [some (.ref 8), some (zi (J 8 2)), some (zi 3), some (zi 5), some (zi ((J 8 2) * 5 + 3))]) gi_91_6 rfl ?_
                refine z_iload4 gi_91_8 ?_
                refine z_if_ltF gi_91_10 (by omega) (by omega) ?_
                refine z_aload0 gi_91_13 ?_
                refine z_getR (r := 9) gi_91_14 gk_8 (hR _ rm_8_1) ?_
                refine z_iload4 gi_91_17 ?_
                refine z_iload3 gi_91_19 ?_
                refine z_iast (e := 5) gi_91_20 gk_9 (by decide) (by omega) rfl ?_
                refine z_vret gi_91_21 gr_91 ?_
                show zW _ _ _ _ _ _ _ _ _ _
                refine z_aload0 gi_92_52 ?_
                refine z_iload4 gi_92_53 ?_
                refine z_pushJ gp_92_55 ?_
                refine z_getS gi_92_56 ?_
                refine z_pushJ gp_92_59 ?_
                refine z_sald (j := 0) (n := 14) (v := 0) gi_92_60 (by decide) rfl (by decide) (by decide) rfl ?_
                refine z_callVi (As := [_, _, _]) (le := [some _, some _, some _, some _, none]) gi_92_61 rfl gk_8 (Nat.le_of_ble_eq_true rfl) (Nat.le_of_ble_eq_true rfl) rfl ?_
                refine z_aload0 gi_91_0 ?_
                refine z_iload1 gi_91_1 ?_
                refine z_iload2 gi_91_2 ?_
                refine z_cV2 gi_91_3 gk_8 go_89 (Nat.le_of_ble_eq_true rfl) gc_89_RII ?_
                refine z_iload2 gi_89_0 ?_
                refine z_if_ltF gi_89_1 zr_4 (by decide) ?_
                refine z_iload2 gi_89_4 ?_
                refine z_pushJ gp_89_5 ?_
                refine z_icmp_ltT gi_89_7 zr_4 zr_14 (by decide) ?_
                refine z_iload2 gi_89_12 ?_
                refine z_pushJ gp_89_13 ?_
                refine z_icmp_geF gi_89_14 zr_4 zr_5 (by decide) ?_
                refine z_aload0 gi_89_17 ?_
                refine z_iload1 gi_89_18 ?_
                refine z_cV1 gi_89_19 gk_8 go_87 (Nat.le_of_ble_eq_true rfl) gc_87_RI ?_
                refine z_iload1 gi_87_0 ?_
                refine z_if_ltF gi_87_1 (by omega) (by omega) ?_
                refine z_iload1 gi_87_4 ?_
                refine z_aload0 gi_87_5 ?_
                refine z_getI (v := (J 8 2) + 1) gi_87_6 gk_8 ((zU_n (by decide)).trans ((zU_n (by decide)).trans ((zU_n (by decide)).trans (zU_e)))) ?_
                refine z_icmp_geF gi_87_9 (by omega) (by omega) (by omega) ?_
                refine z_pushJ gp_87_12 ?_
                refine z_goto gi_87_13 ?_
                refine z_bret1 gi_87_17 gr_87 ?_
                show zW _ _ _ _ _ _ _ _ _ _
                refine z_if_eqF gi_89_22 zr_1 (by decide) ?_
                refine z_iload1 gi_89_25 ?_
                refine z_pushJ gp_89_26 ?_
                refine z_imul (e := (J 8 2) * 5) gi_89_27 rfl ?_
                refine z_iload2 gi_89_28 ?_
                refine z_iadd (e := (J 8 2) * 5 + 4) gi_89_29 rfl ?_
                refine z_goto gi_89_30 ?_
                refine z_iret gi_89_34 gr_89 ?_
                show zW _ _ _ _ _ _ _ _ _ _
                refine z_istore (ls1 := [some (.ref 8), some (zi (J 8 2)), some (zi 4), some (zi 0), some (zi ((J 8 2) * 5 + 4))]) gi_91_6 rfl ?_
                refine z_iload4 gi_91_8 ?_
                refine z_if_ltF gi_91_10 (by omega) (by omega) ?_
                refine z_aload0 gi_91_13 ?_
                refine z_getR (r := 9) gi_91_14 gk_8 (hR _ rm_8_1) ?_
                refine z_iload4 gi_91_17 ?_
                refine z_iload3 gi_91_19 ?_
                refine z_iast (e := 0) gi_91_20 gk_9 (by decide) (by omega) rfl ?_
                refine z_vret gi_91_21 gr_91 ?_
                show zW _ _ _ _ _ _ _ _ _ _
                refine z_iload4 gi_92_64 ?_
                refine z_iret gi_92_66 gr_92 ?_
                show zW _ _ _ _ _ _ _ _ _ _
                refine z_iret gi_101_48 gr_101 ?_
                refine ⟨_, rfl, ?_⟩
                show zW _ _ _ _ [some (.ref 50), some (zi p), some (zi q)] _ _ _ _ _
                refine z_iload1 gi_153_0 ?_
                refine z_pushJ gp_153_1 ?_
                refine z_pushJ gp_153_2 ?_
                refine z_cS3 gi_153_5 (Nat.le_of_ble_eq_true rfl) gc_148_III ?_
                refine z_iload0 gi_148_0 ?_
                refine z_iload1 gi_148_1 ?_
                refine z_icmp_ltF gi_148_2 (by omega) zr_0 (by omega) ?_
                refine z_iload0 gi_148_5 ?_
                refine z_iload2 gi_148_6 ?_
                refine z_icmp_gtF gi_148_7 (by omega) (by decide) (by omega) ?_
                refine z_pushJ gp_148_10 ?_
                refine z_goto gi_148_11 ?_
                refine z_bret1 gi_148_15 gr_148 ?_
                show zW _ _ _ _ _ _ _ _ _ _
                refine z_if_eqF gi_153_8 zr_1 (by decide) ?_
                refine z_iload2 gi_153_11 ?_
                refine z_pushJ gp_153_12 ?_
                refine z_pushJ gp_153_13 ?_
                refine z_cS3 gi_153_15 (Nat.le_of_ble_eq_true rfl) gc_148_III ?_
                refine z_iload0 gi_148_0 ?_
                refine z_iload1 gi_148_1 ?_
                refine z_icmp_ltF gi_148_2 (by omega) zr_0 (by omega) ?_
                refine z_iload0 gi_148_5 ?_
                refine z_iload2 gi_148_6 ?_
                refine z_icmp_gtF gi_148_7 (by omega) zr_99 (by omega) ?_
                refine z_pushJ gp_148_10 ?_
                refine z_goto gi_148_11 ?_
                refine z_bret1 gi_148_15 gr_148 ?_
                show zW _ _ _ _ _ _ _ _ _ _
                refine z_if_neT gi_153_18 zr_1 (by decide) ?_
                refine z_aload0 gi_153_23 ?_
                refine z_getI (v := J 8 2) gi_153_24 gk_50 ((zU_n (by decide)).trans ((zU_n (by decide)).trans ((zU_n (by decide)).trans ((zU_n (by decide)).trans ((zU_n (by decide)).trans (y2.symm)))))) ?_
                refine z_pushJ gp_153_27 ?_
                refine z_icmp_neT gi_153_29 (by omega) zr_8 (by omega) ?_
                refine z_aload0 gi_153_37 ?_
                refine z_iload1 gi_153_38 ?_
                refine z_pushJ gp_153_39 ?_
                refine z_irem (e := p % 100) gi_153_41 (by omega) (by omega) rfl ?_
                refine z_iload1 gi_153_42 ?_
                refine z_pushJ gp_153_43 ?_
                refine z_idiv (e := p / 100) gi_153_45 (by omega) (by omega) rfl ?_
                refine z_iload2 gi_153_46 ?_
                refine z_cV3 gi_153_47 gk_50 go_152 (Nat.le_of_ble_eq_true rfl) gc_152_RIII ?_
                refine z_aload0 gi_152_0 ?_
                refine z_getR (r := 51) gi_152_1 gk_50 (hRr _ rm_50_2 (by decide)) ?_
                refine z_aload0 gi_152_4 ?_
                refine z_getI (v := J 8 2) gi_152_5 gk_50 ((zU_n (by decide)).trans ((zU_n (by decide)).trans ((zU_n (by decide)).trans ((zU_n (by decide)).trans ((zU_n (by decide)).trans (y2.symm)))))) ?_
                refine z_iload1 gi_152_8 ?_
                refine z_iast (e := p % 100) gi_152_9 gk_51 (by decide) (by omega) rfl ?_
                refine z_aload0 gi_152_10 ?_
                refine z_getR (r := 52) gi_152_11 gk_50 (hRr _ rm_50_3 (by decide)) ?_
                refine z_aload0 gi_152_14 ?_
                refine z_getI (v := J 8 2) gi_152_15 gk_50 ((zU_n (by decide)).trans ((zU_n (by decide)).trans ((zU_n (by decide)).trans ((zU_n (by decide)).trans ((zU_n (by decide)).trans ((zU_n (by decide)).trans (y2.symm))))))) ?_
                refine z_iload2 gi_152_18 ?_
                refine z_iast (e := p / 100) gi_152_19 gk_52 (by decide) (by omega) rfl ?_
                refine z_aload0 gi_152_20 ?_
                refine z_getR (r := 53) gi_152_21 gk_50 (hRr _ rm_50_4 (by decide)) ?_
                refine z_aload0 gi_152_24 ?_
                refine z_getI (v := J 8 2) gi_152_25 gk_50 ((zU_n (by decide)).trans ((zU_n (by decide)).trans ((zU_n (by decide)).trans ((zU_n (by decide)).trans ((zU_n (by decide)).trans ((zU_n (by decide)).trans ((zU_n (by decide)).trans (y2.symm)))))))) ?_
                refine z_iload3 gi_152_28 ?_
                refine z_iast (e := q) gi_152_29 gk_53 (by decide) (by omega) rfl ?_
                refine z_aload0 gi_152_30 ?_
                refine z_getR (r := 54) gi_152_31 gk_50 (hRr _ rm_50_5 (by decide)) ?_
                refine z_aload0 gi_152_34 ?_
                refine z_getI (v := J 8 2) gi_152_35 gk_50 ((zU_n (by decide)).trans ((zU_n (by decide)).trans ((zU_n (by decide)).trans ((zU_n (by decide)).trans ((zU_n (by decide)).trans ((zU_n (by decide)).trans ((zU_n (by decide)).trans ((zU_n (by decide)).trans (y2.symm))))))))) ?_
                refine z_pushJ gp_152_38 ?_
                refine z_iast (e := 5) gi_152_39 gk_54 (by decide) (by omega) rfl ?_
                refine z_aload0 gi_152_40 ?_
                refine z_getR (r := 55) gi_152_41 gk_50 (hRr _ rm_50_6 (by decide)) ?_
                refine z_aload0 gi_152_44 ?_
                refine z_getI (v := J 8 2) gi_152_45 gk_50 ((zU_n (by decide)).trans ((zU_n (by decide)).trans ((zU_n (by decide)).trans ((zU_n (by decide)).trans ((zU_n (by decide)).trans ((zU_n (by decide)).trans ((zU_n (by decide)).trans ((zU_n (by decide)).trans ((zU_n (by decide)).trans (y2.symm)))))))))) ?_
                refine z_pushJ gp_152_48 ?_
                refine z_iast (e := 0) gi_152_49 gk_55 (by decide) (by omega) rfl ?_
                refine z_aload0 gi_152_50 ?_
                refine z_getR (r := 75) gi_152_51 gk_50 (hRr _ rm_50_42 (by decide)) ?_
                refine z_aload0 gi_152_54 ?_
                refine z_getI (v := J 8 2) gi_152_55 gk_50 ((zU_n (by decide)).trans ((zU_n (by decide)).trans ((zU_n (by decide)).trans ((zU_n (by decide)).trans ((zU_n (by decide)).trans ((zU_n (by decide)).trans ((zU_n (by decide)).trans ((zU_n (by decide)).trans ((zU_n (by decide)).trans ((zU_n (by decide)).trans (y2.symm))))))))))) ?_
                refine z_pushJ gp_152_58 ?_
                refine z_iast (e := 0) gi_152_59 gk_75 (by decide) (by omega) rfl ?_
                refine z_aload0 gi_152_60 ?_
                refine z_getR (r := 76) gi_152_61 gk_50 (hRr _ rm_50_43 (by decide)) ?_
                refine z_aload0 gi_152_64 ?_
                refine z_getI (v := J 8 2) gi_152_65 gk_50 ((zU_n (by decide)).trans ((zU_n (by decide)).trans ((zU_n (by decide)).trans ((zU_n (by decide)).trans ((zU_n (by decide)).trans ((zU_n (by decide)).trans ((zU_n (by decide)).trans ((zU_n (by decide)).trans ((zU_n (by decide)).trans ((zU_n (by decide)).trans ((zU_n (by decide)).trans (y2.symm)))))))))))) ?_
                refine z_pushJ gp_152_68 ?_
                refine z_iast (e := 0) gi_152_69 gk_76 (by decide) (by omega) rfl ?_
                refine z_aload0 gi_152_70 ?_
                refine z_dup gi_152_71 rfl ?_
                refine z_getI (v := J 8 2) gi_152_72 gk_50 ((zU_n (by decide)).trans ((zU_n (by decide)).trans ((zU_n (by decide)).trans ((zU_n (by decide)).trans ((zU_n (by decide)).trans ((zU_n (by decide)).trans ((zU_n (by decide)).trans ((zU_n (by decide)).trans ((zU_n (by decide)).trans ((zU_n (by decide)).trans ((zU_n (by decide)).trans ((zU_n (by decide)).trans (y2.symm))))))))))))) ?_
                refine z_pushJ gp_152_75 ?_
                refine z_iadd (e := (J 8 2) + 1) gi_152_76 rfl ?_
                refine z_putI (y := 1) gi_152_77 rfl gk_50 ?_
                refine z_aload0 gi_152_80 ?_
                refine z_getI (v := (J 8 2) + 1) gi_152_81 gk_50 (zU_e) ?_
                refine z_pushJ gp_152_84 ?_
                refine z_isub (e := (J 8 2) + 1 - 1) gi_152_85 rfl ?_
                refine z_iret gi_152_86 gr_152 ?_
                show zW _ _ _ _ _ _ _ _ _ _
                refine z_iret gi_153_50 gr_153 ?_
                refine ⟨?_, ?_⟩
                · exfalso
                  omega
                · exfalso
                  omega
            · refine z_aload0 gi_91_13 ?_
              refine z_getR (r := 9) gi_91_14 gk_8 (hR _ rm_8_1) ?_
              refine z_iload4 gi_91_17 ?_
              refine z_iload3 gi_91_19 ?_
              refine z_iast (e := p % 100) gi_91_20 gk_9 (by decide) (by omega) rfl ?_
              refine z_vret gi_91_21 gr_91 ?_
              show zW _ _ _ _ _ _ _ _ _ _
              refine z_aload0 gi_92_24 ?_
              refine z_iload4 gi_92_25 ?_
              refine z_pushJ gp_92_27 ?_
              refine z_iload2 gi_92_28 ?_
              refine z_callVi (As := [_, _, _]) (le := [some _, some _, some _, some _, none]) gi_92_29 rfl gk_8 (Nat.le_of_ble_eq_true rfl) (Nat.le_of_ble_eq_true rfl) rfl ?_
              refine z_aload0 gi_91_0 ?_
              refine z_iload1 gi_91_1 ?_
              refine z_iload2 gi_91_2 ?_
              refine z_cV2 gi_91_3 gk_8 go_89 (Nat.le_of_ble_eq_true rfl) gc_89_RII ?_
              refine z_iload2 gi_89_0 ?_
              refine z_if_ltF gi_89_1 zr_1 (by decide) ?_
              refine z_iload2 gi_89_4 ?_
              refine z_pushJ gp_89_5 ?_
              refine z_icmp_ltT gi_89_7 zr_1 zr_14 (by decide) ?_
              refine z_iload2 gi_89_12 ?_
              refine z_pushJ gp_89_13 ?_
              refine z_icmp_geF gi_89_14 zr_1 zr_5 (by decide) ?_
              refine z_aload0 gi_89_17 ?_
              refine z_iload1 gi_89_18 ?_
              refine z_cV1 gi_89_19 gk_8 go_87 (Nat.le_of_ble_eq_true rfl) gc_87_RI ?_
              refine z_iload1 gi_87_0 ?_
              refine z_if_ltF gi_87_1 (by omega) (by omega) ?_
              refine z_iload1 gi_87_4 ?_
              refine z_aload0 gi_87_5 ?_
              refine z_getI (v := (J 8 2) + 1) gi_87_6 gk_8 ((zU_n (by decide)).trans (zU_e)) ?_
              refine z_icmp_geF gi_87_9 (by omega) (by omega) (by omega) ?_
              refine z_pushJ gp_87_12 ?_
              refine z_goto gi_87_13 ?_
              refine z_bret1 gi_87_17 gr_87 ?_
              show zW _ _ _ _ _ _ _ _ _ _
              refine z_if_eqF gi_89_22 zr_1 (by decide) ?_
              refine z_iload1 gi_89_25 ?_
              refine z_pushJ gp_89_26 ?_
              refine z_imul (e := (J 8 2) * 5) gi_89_27 rfl ?_
              refine z_iload2 gi_89_28 ?_
              refine z_iadd (e := (J 8 2) * 5 + 1) gi_89_29 rfl ?_
              refine z_goto gi_89_30 ?_
              refine z_iret gi_89_34 gr_89 ?_
              show zW _ _ _ _ _ _ _ _ _ _
              refine z_istore (ls1 := [some (.ref 8), some (zi (J 8 2)), some (zi 1), some (zi (p / 100)), some (zi ((J 8 2) * 5 + 1))]) gi_91_6 rfl ?_
              refine z_iload4 gi_91_8 ?_
              refine z_if_ltF gi_91_10 (by omega) (by omega) ?_
              refine z_aload0 gi_91_13 ?_
              refine z_getR (r := 9) gi_91_14 gk_8 (hR _ rm_8_1) ?_
              refine z_iload4 gi_91_17 ?_
              refine z_iload3 gi_91_19 ?_
              refine z_iast (e := p / 100) gi_91_20 gk_9 (by decide) (by omega) rfl ?_
              refine z_vret gi_91_21 gr_91 ?_
              show zW _ _ _ _ _ _ _ _ _ _
              refine z_aload0 gi_92_32 ?_
              refine z_iload4 gi_92_33 ?_
              refine z_pushJ gp_92_35 ?_
              refine z_iload3 gi_92_36 ?_
              refine z_callVi (As := [_, _, _]) (le := [some _, some _, some _, some _, none]) gi_92_37 rfl gk_8 (Nat.le_of_ble_eq_true rfl) (Nat.le_of_ble_eq_true rfl) rfl ?_
              refine z_aload0 gi_91_0 ?_
              refine z_iload1 gi_91_1 ?_
              refine z_iload2 gi_91_2 ?_
              refine z_cV2 gi_91_3 gk_8 go_89 (Nat.le_of_ble_eq_true rfl) gc_89_RII ?_
              refine z_iload2 gi_89_0 ?_
              refine z_if_ltF gi_89_1 zr_2 (by decide) ?_
              refine z_iload2 gi_89_4 ?_
              refine z_pushJ gp_89_5 ?_
              refine z_icmp_ltT gi_89_7 zr_2 zr_14 (by decide) ?_
              refine z_iload2 gi_89_12 ?_
              refine z_pushJ gp_89_13 ?_
              refine z_icmp_geF gi_89_14 zr_2 zr_5 (by decide) ?_
              refine z_aload0 gi_89_17 ?_
              refine z_iload1 gi_89_18 ?_
              refine z_cV1 gi_89_19 gk_8 go_87 (Nat.le_of_ble_eq_true rfl) gc_87_RI ?_
              refine z_iload1 gi_87_0 ?_
              refine z_if_ltF gi_87_1 (by omega) (by omega) ?_
              refine z_iload1 gi_87_4 ?_
              refine z_aload0 gi_87_5 ?_
              refine z_getI (v := (J 8 2) + 1) gi_87_6 gk_8 ((zU_n (by decide)).trans ((zU_n (by decide)).trans (zU_e))) ?_
              refine z_icmp_geF gi_87_9 (by omega) (by omega) (by omega) ?_
              refine z_pushJ gp_87_12 ?_
              refine z_goto gi_87_13 ?_
              refine z_bret1 gi_87_17 gr_87 ?_
              show zW _ _ _ _ _ _ _ _ _ _
              refine z_if_eqF gi_89_22 zr_1 (by decide) ?_
              refine z_iload1 gi_89_25 ?_
              refine z_pushJ gp_89_26 ?_
              refine z_imul (e := (J 8 2) * 5) gi_89_27 rfl ?_
              refine z_iload2 gi_89_28 ?_
              refine z_iadd (e := (J 8 2) * 5 + 2) gi_89_29 rfl ?_
              refine z_goto gi_89_30 ?_
              refine z_iret gi_89_34 gr_89 ?_
              show zW _ _ _ _ _ _ _ _ _ _
              refine z_istore (ls1 := [some (.ref 8), some (zi (J 8 2)), some (zi 2), some (zi q), some (zi ((J 8 2) * 5 + 2))]) gi_91_6 rfl ?_
              refine z_iload4 gi_91_8 ?_
              refine z_if_ltF gi_91_10 (by omega) (by omega) ?_
              refine z_aload0 gi_91_13 ?_
              refine z_getR (r := 9) gi_91_14 gk_8 (hR _ rm_8_1) ?_
              refine z_iload4 gi_91_17 ?_
              refine z_iload3 gi_91_19 ?_
              refine z_iast (e := q) gi_91_20 gk_9 (by decide) (by omega) rfl ?_
              refine z_vret gi_91_21 gr_91 ?_
              show zW _ _ _ _ _ _ _ _ _ _
              refine z_aload0 gi_92_40 ?_
              refine z_iload4 gi_92_41 ?_
              refine z_pushJ gp_92_43 ?_
              refine z_getS gi_92_44 ?_
              refine z_pushJ gp_92_47 ?_
              refine z_sald (j := 0) (n := 14) (v := 5) gi_92_48 (by decide) rfl (by decide) (by decide) rfl ?_
              refine z_callVi (As := [_, _, _]) (le := [some _, some _, some _, some _, none]) gi_92_49 rfl gk_8 (Nat.le_of_ble_eq_true rfl) (Nat.le_of_ble_eq_true rfl) rfl ?_
              refine z_aload0 gi_91_0 ?_
              refine z_iload1 gi_91_1 ?_
              refine z_iload2 gi_91_2 ?_
              refine z_cV2 gi_91_3 gk_8 go_89 (Nat.le_of_ble_eq_true rfl) gc_89_RII ?_
              refine z_iload2 gi_89_0 ?_
              refine z_if_ltF gi_89_1 zr_3 (by decide) ?_
              refine z_iload2 gi_89_4 ?_
              refine z_pushJ gp_89_5 ?_
              refine z_icmp_ltT gi_89_7 zr_3 zr_14 (by decide) ?_
              refine z_iload2 gi_89_12 ?_
              refine z_pushJ gp_89_13 ?_
              refine z_icmp_geF gi_89_14 zr_3 zr_5 (by decide) ?_
              refine z_aload0 gi_89_17 ?_
              refine z_iload1 gi_89_18 ?_
              refine z_cV1 gi_89_19 gk_8 go_87 (Nat.le_of_ble_eq_true rfl) gc_87_RI ?_
              refine z_iload1 gi_87_0 ?_
              refine z_if_ltF gi_87_1 (by omega) (by omega) ?_
              refine z_iload1 gi_87_4 ?_
              refine z_aload0 gi_87_5 ?_
              refine z_getI (v := (J 8 2) + 1) gi_87_6 gk_8 ((zU_n (by decide)).trans ((zU_n (by decide)).trans ((zU_n (by decide)).trans (zU_e)))) ?_
              refine z_icmp_geF gi_87_9 (by omega) (by omega) (by omega) ?_
              refine z_pushJ gp_87_12 ?_
              refine z_goto gi_87_13 ?_
              refine z_bret1 gi_87_17 gr_87 ?_
              show zW _ _ _ _ _ _ _ _ _ _
              refine z_if_eqF gi_89_22 zr_1 (by decide) ?_
              refine z_iload1 gi_89_25 ?_
              refine z_pushJ gp_89_26 ?_
              refine z_imul (e := (J 8 2) * 5) gi_89_27 rfl ?_
              refine z_iload2 gi_89_28 ?_
              refine z_iadd (e := (J 8 2) * 5 + 3) gi_89_29 rfl ?_
              refine z_goto gi_89_30 ?_
              refine z_iret gi_89_34 gr_89 ?_
              show zW _ _ _ _ _ _ _ _ _ _
              refine z_istore (ls1 := [some (.ref 8), some (zi (J 8 2)), some (zi 3), some (zi 5), some (zi ((J 8 2) * 5 + 3))]) gi_91_6 rfl ?_
              refine z_iload4 gi_91_8 ?_
              refine z_if_ltF gi_91_10 (by omega) (by omega) ?_
              refine z_aload0 gi_91_13 ?_
              refine z_getR (r := 9) gi_91_14 gk_8 (hR _ rm_8_1) ?_
              refine z_iload4 gi_91_17 ?_
              refine z_iload3 gi_91_19 ?_
              refine z_iast (e := 5) gi_91_20 gk_9 (by decide) (by omega) rfl ?_
              refine z_vret gi_91_21 gr_91 ?_
              show zW _ _ _ _ _ _ _ _ _ _
              refine z_aload0 gi_92_52 ?_
              refine z_iload4 gi_92_53 ?_
              refine z_pushJ gp_92_55 ?_
              refine z_getS gi_92_56 ?_
              refine z_pushJ gp_92_59 ?_
              refine z_sald (j := 0) (n := 14) (v := 0) gi_92_60 (by decide) rfl (by decide) (by decide) rfl ?_
              refine z_callVi (As := [_, _, _]) (le := [some _, some _, some _, some _, none]) gi_92_61 rfl gk_8 (Nat.le_of_ble_eq_true rfl) (Nat.le_of_ble_eq_true rfl) rfl ?_
              refine z_aload0 gi_91_0 ?_
              refine z_iload1 gi_91_1 ?_
              refine z_iload2 gi_91_2 ?_
              refine z_cV2 gi_91_3 gk_8 go_89 (Nat.le_of_ble_eq_true rfl) gc_89_RII ?_
              refine z_iload2 gi_89_0 ?_
              refine z_if_ltF gi_89_1 zr_4 (by decide) ?_
              refine z_iload2 gi_89_4 ?_
              refine z_pushJ gp_89_5 ?_
              refine z_icmp_ltT gi_89_7 zr_4 zr_14 (by decide) ?_
              refine z_iload2 gi_89_12 ?_
              refine z_pushJ gp_89_13 ?_
              refine z_icmp_geF gi_89_14 zr_4 zr_5 (by decide) ?_
              refine z_aload0 gi_89_17 ?_
              refine z_iload1 gi_89_18 ?_
              refine z_cV1 gi_89_19 gk_8 go_87 (Nat.le_of_ble_eq_true rfl) gc_87_RI ?_
              refine z_iload1 gi_87_0 ?_
              refine z_if_ltF gi_87_1 (by omega) (by omega) ?_
              refine z_iload1 gi_87_4 ?_
              refine z_aload0 gi_87_5 ?_
              refine z_getI (v := (J 8 2) + 1) gi_87_6 gk_8 ((zU_n (by decide)).trans ((zU_n (by decide)).trans ((zU_n (by decide)).trans ((zU_n (by decide)).trans (zU_e))))) ?_
              refine z_icmp_geF gi_87_9 (by omega) (by omega) (by omega) ?_
              refine z_pushJ gp_87_12 ?_
              refine z_goto gi_87_13 ?_
              refine z_bret1 gi_87_17 gr_87 ?_
              show zW _ _ _ _ _ _ _ _ _ _
              refine z_if_eqF gi_89_22 zr_1 (by decide) ?_
              refine z_iload1 gi_89_25 ?_
              refine z_pushJ gp_89_26 ?_
              refine z_imul (e := (J 8 2) * 5) gi_89_27 rfl ?_
              refine z_iload2 gi_89_28 ?_
              refine z_iadd (e := (J 8 2) * 5 + 4) gi_89_29 rfl ?_
              refine z_goto gi_89_30 ?_
              refine z_iret gi_89_34 gr_89 ?_
              show zW _ _ _ _ _ _ _ _ _ _
              refine z_istore (ls1 := [some (.ref 8), some (zi (J 8 2)), some (zi 4), some (zi 0), some (zi ((J 8 2) * 5 + 4))]) gi_91_6 rfl ?_
              refine z_iload4 gi_91_8 ?_
              refine z_if_ltF gi_91_10 (by omega) (by omega) ?_
              refine z_aload0 gi_91_13 ?_
              refine z_getR (r := 9) gi_91_14 gk_8 (hR _ rm_8_1) ?_
              refine z_iload4 gi_91_17 ?_
              refine z_iload3 gi_91_19 ?_
              refine z_iast (e := 0) gi_91_20 gk_9 (by decide) (by omega) rfl ?_
              refine z_vret gi_91_21 gr_91 ?_
              show zW _ _ _ _ _ _ _ _ _ _
              refine z_iload4 gi_92_64 ?_
              refine z_iret gi_92_66 gr_92 ?_
              show zW _ _ _ _ _ _ _ _ _ _
              refine z_iret gi_101_48 gr_101 ?_
              refine ⟨_, rfl, ?_⟩
              show zW _ _ _ _ [some (.ref 50), some (zi p), some (zi q)] _ _ _ _ _
              refine z_iload1 gi_153_0 ?_
              refine z_pushJ gp_153_1 ?_
              refine z_pushJ gp_153_2 ?_
              refine z_cS3 gi_153_5 (Nat.le_of_ble_eq_true rfl) gc_148_III ?_
              refine z_iload0 gi_148_0 ?_
              refine z_iload1 gi_148_1 ?_
              refine z_icmp_ltF gi_148_2 (by omega) zr_0 (by omega) ?_
              refine z_iload0 gi_148_5 ?_
              refine z_iload2 gi_148_6 ?_
              refine z_icmp_gtF gi_148_7 (by omega) (by decide) (by omega) ?_
              refine z_pushJ gp_148_10 ?_
              refine z_goto gi_148_11 ?_
              refine z_bret1 gi_148_15 gr_148 ?_
              show zW _ _ _ _ _ _ _ _ _ _
              refine z_if_eqF gi_153_8 zr_1 (by decide) ?_
              refine z_iload2 gi_153_11 ?_
              refine z_pushJ gp_153_12 ?_
              refine z_pushJ gp_153_13 ?_
              refine z_cS3 gi_153_15 (Nat.le_of_ble_eq_true rfl) gc_148_III ?_
              refine z_iload0 gi_148_0 ?_
              refine z_iload1 gi_148_1 ?_
              refine z_icmp_ltF gi_148_2 (by omega) zr_0 (by omega) ?_
              refine z_iload0 gi_148_5 ?_
              refine z_iload2 gi_148_6 ?_
              refine z_icmp_gtF gi_148_7 (by omega) zr_99 (by omega) ?_
              refine z_pushJ gp_148_10 ?_
              refine z_goto gi_148_11 ?_
              refine z_bret1 gi_148_15 gr_148 ?_
              show zW _ _ _ _ _ _ _ _ _ _
              refine z_if_neT gi_153_18 zr_1 (by decide) ?_
              refine z_aload0 gi_153_23 ?_
              refine z_getI (v := J 8 2) gi_153_24 gk_50 ((zU_n (by decide)).trans ((zU_n (by decide)).trans ((zU_n (by decide)).trans ((zU_n (by decide)).trans ((zU_n (by decide)).trans ((zU_n (by decide)).trans (y2.symm))))))) ?_
              refine z_pushJ gp_153_27 ?_
              refine z_icmp_neT gi_153_29 (by omega) zr_8 (by omega) ?_
              refine z_aload0 gi_153_37 ?_
              refine z_iload1 gi_153_38 ?_
              refine z_pushJ gp_153_39 ?_
              refine z_irem (e := p % 100) gi_153_41 (by omega) (by omega) rfl ?_
              refine z_iload1 gi_153_42 ?_
              refine z_pushJ gp_153_43 ?_
              refine z_idiv (e := p / 100) gi_153_45 (by omega) (by omega) rfl ?_
              refine z_iload2 gi_153_46 ?_
              refine z_cV3 gi_153_47 gk_50 go_152 (Nat.le_of_ble_eq_true rfl) gc_152_RIII ?_
              refine z_aload0 gi_152_0 ?_
              refine z_getR (r := 51) gi_152_1 gk_50 (hRr _ rm_50_2 (by decide)) ?_
              refine z_aload0 gi_152_4 ?_
              refine z_getI (v := J 8 2) gi_152_5 gk_50 ((zU_n (by decide)).trans ((zU_n (by decide)).trans ((zU_n (by decide)).trans ((zU_n (by decide)).trans ((zU_n (by decide)).trans ((zU_n (by decide)).trans (y2.symm))))))) ?_
              refine z_iload1 gi_152_8 ?_
              refine z_iast (e := p % 100) gi_152_9 gk_51 (by decide) (by omega) rfl ?_
              refine z_aload0 gi_152_10 ?_
              refine z_getR (r := 52) gi_152_11 gk_50 (hRr _ rm_50_3 (by decide)) ?_
              refine z_aload0 gi_152_14 ?_
              refine z_getI (v := J 8 2) gi_152_15 gk_50 ((zU_n (by decide)).trans ((zU_n (by decide)).trans ((zU_n (by decide)).trans ((zU_n (by decide)).trans ((zU_n (by decide)).trans ((zU_n (by decide)).trans ((zU_n (by decide)).trans (y2.symm)))))))) ?_
              refine z_iload2 gi_152_18 ?_
              refine z_iast (e := p / 100) gi_152_19 gk_52 (by decide) (by omega) rfl ?_
              refine z_aload0 gi_152_20 ?_
              refine z_getR (r := 53) gi_152_21 gk_50 (hRr _ rm_50_4 (by decide)) ?_
              refine z_aload0 gi_152_24 ?_
              refine z_getI (v := J 8 2) gi_152_25 gk_50 ((zU_n (by decide)).trans ((zU_n (by decide)).trans ((zU_n (by decide)).trans ((zU_n (by decide)).trans ((zU_n (by decide)).trans ((zU_n (by decide)).trans ((zU_n (by decide)).trans ((zU_n (by decide)).trans (y2.symm))))))))) ?_
              refine z_iload3 gi_152_28 ?_
              refine z_iast (e := q) gi_152_29 gk_53 (by decide) (by omega) rfl ?_
              refine z_aload0 gi_152_30 ?_
              refine z_getR (r := 54) gi_152_31 gk_50 (hRr _ rm_50_5 (by decide)) ?_
              refine z_aload0 gi_152_34 ?_
              refine z_getI (v := J 8 2) gi_152_35 gk_50 ((zU_n (by decide)).trans ((zU_n (by decide)).trans ((zU_n (by decide)).trans ((zU_n (by decide)).trans ((zU_n (by decide)).trans ((zU_n (by decide)).trans ((zU_n (by decide)).trans ((zU_n (by decide)).trans ((zU_n (by decide)).trans (y2.symm)))))))))) ?_
              refine z_pushJ gp_152_38 ?_
              refine z_iast (e := 5) gi_152_39 gk_54 (by decide) (by omega) rfl ?_
              refine z_aload0 gi_152_40 ?_
              refine z_getR (r := 55) gi_152_41 gk_50 (hRr _ rm_50_6 (by decide)) ?_
              refine z_aload0 gi_152_44 ?_
              refine z_getI (v := J 8 2) gi_152_45 gk_50 ((zU_n (by decide)).trans ((zU_n (by decide)).trans ((zU_n (by decide)).trans ((zU_n (by decide)).trans ((zU_n (by decide)).trans ((zU_n (by decide)).trans ((zU_n (by decide)).trans ((zU_n (by decide)).trans ((zU_n (by decide)).trans ((zU_n (by decide)).trans (y2.symm))))))))))) ?_
              refine z_pushJ gp_152_48 ?_
              refine z_iast (e := 0) gi_152_49 gk_55 (by decide) (by omega) rfl ?_
              refine z_aload0 gi_152_50 ?_
              refine z_getR (r := 75) gi_152_51 gk_50 (hRr _ rm_50_42 (by decide)) ?_
              refine z_aload0 gi_152_54 ?_
              refine z_getI (v := J 8 2) gi_152_55 gk_50 ((zU_n (by decide)).trans ((zU_n (by decide)).trans ((zU_n (by decide)).trans ((zU_n (by decide)).trans ((zU_n (by decide)).trans ((zU_n (by decide)).trans ((zU_n (by decide)).trans ((zU_n (by decide)).trans ((zU_n (by decide)).trans ((zU_n (by decide)).trans ((zU_n (by decide)).trans (y2.symm)))))))))))) ?_
              refine z_pushJ gp_152_58 ?_
              refine z_iast (e := 0) gi_152_59 gk_75 (by decide) (by omega) rfl ?_
              refine z_aload0 gi_152_60 ?_
              refine z_getR (r := 76) gi_152_61 gk_50 (hRr _ rm_50_43 (by decide)) ?_
              refine z_aload0 gi_152_64 ?_
              refine z_getI (v := J 8 2) gi_152_65 gk_50 ((zU_n (by decide)).trans ((zU_n (by decide)).trans ((zU_n (by decide)).trans ((zU_n (by decide)).trans ((zU_n (by decide)).trans ((zU_n (by decide)).trans ((zU_n (by decide)).trans ((zU_n (by decide)).trans ((zU_n (by decide)).trans ((zU_n (by decide)).trans ((zU_n (by decide)).trans ((zU_n (by decide)).trans (y2.symm))))))))))))) ?_
              refine z_pushJ gp_152_68 ?_
              refine z_iast (e := 0) gi_152_69 gk_76 (by decide) (by omega) rfl ?_
              refine z_aload0 gi_152_70 ?_
              refine z_dup gi_152_71 rfl ?_
              refine z_getI (v := J 8 2) gi_152_72 gk_50 ((zU_n (by decide)).trans ((zU_n (by decide)).trans ((zU_n (by decide)).trans ((zU_n (by decide)).trans ((zU_n (by decide)).trans ((zU_n (by decide)).trans ((zU_n (by decide)).trans ((zU_n (by decide)).trans ((zU_n (by decide)).trans ((zU_n (by decide)).trans ((zU_n (by decide)).trans ((zU_n (by decide)).trans ((zU_n (by decide)).trans (y2.symm)))))))))))))) ?_
              refine z_pushJ gp_152_75 ?_
              refine z_iadd (e := (J 8 2) + 1) gi_152_76 rfl ?_
              refine z_putI (y := 1) gi_152_77 rfl gk_50 ?_
              refine z_aload0 gi_152_80 ?_
              refine z_getI (v := (J 8 2) + 1) gi_152_81 gk_50 (zU_e) ?_
              refine z_pushJ gp_152_84 ?_
              refine z_isub (e := (J 8 2) + 1 - 1) gi_152_85 rfl ?_
              refine z_iret gi_152_86 gr_152 ?_
              show zW _ _ _ _ _ _ _ _ _ _
              refine z_iret gi_153_50 gr_153 ?_
              refine ⟨?_, ?_⟩
              · first | rfl | exact congrArg (fun v => some (zi v)) (by omega) | (exfalso; omega)
              · have hk := (zK_x (a := 50) (x := 1) (v := (J 8 2) + 1) (zK_x (a := 76) (x := J 8 2) (v := 0) (zK_x (a := 75) (x := J 8 2) (v := 0) (zK_x (a := 55) (x := J 8 2) (v := 0) (zK_x (a := 54) (x := J 8 2) (v := 5) (zK_x (a := 53) (x := J 8 2) (v := q) (zK_x (a := 52) (x := J 8 2) (v := p / 100) (zK_x (a := 51) (x := J 8 2) (v := p % 100) (zK_x (a := 9) (x := (J 8 2) * 5 + 4) (v := 0) (zK_x (a := 9) (x := (J 8 2) * 5 + 3) (v := 5) (zK_x (a := 9) (x := (J 8 2) * 5 + 2) (v := q) (zK_x (a := 9) (x := (J 8 2) * 5 + 1) (v := p / 100) (zK_x (a := 9) (x := (J 8 2) * 5 + 0) (v := p % 100) (zK_x (a := 8) (x := 2) (v := (J 8 2) + 1) (zK_r (k := (kL [9, 51, 52, 53, 54, 55, 75, 76] [(8, 2), (50, 1)])) (A := J)) rfl) rfl) rfl) rfl) rfl) rfl) rfl) rfl) rfl) rfl) rfl) rfl) rfl) rfl)
                exact ⟨hR, hG, RelY_add hY (by omega) (by omega) (by omega) (by omega), RelD_add hD (by omega), RelP_add hP, RelC_add hC, RelA_k hk (by repeat' constructor) (fun p => by repeat' constructor) hAc, RelS_k hk (zK_r (k := kM)) (fun x j a b => ⟨kL_38 (by decide) (by decide) x j a b, kM_38 x j a b⟩) (fun p => ⟨rfl, rfl, rfl⟩) rfl hS, RelT_k hk (by repeat' constructor) (fun p => by repeat' constructor) hTp, RelX_k hk (by repeat' constructor) (fun p => by repeat' constructor) hX, RelW_k hk ⟨rfl, rfl⟩ trivial hW⟩
          · refine z_pushJ gp_101_29 ?_
            refine z_iret rfl gr_101 ?_
            refine ⟨_, rfl, ?_⟩
            show zW _ _ _ _ [some (.ref 50), some (zi p), some (zi q)] _ _ _ _ _
            refine z_iload1 gi_153_0 ?_
            refine z_pushJ gp_153_1 ?_
            refine z_pushJ gp_153_2 ?_
            refine z_cS3 gi_153_5 (Nat.le_of_ble_eq_true rfl) gc_148_III ?_
            refine z_iload0 gi_148_0 ?_
            refine z_iload1 gi_148_1 ?_
            refine z_icmp_ltF gi_148_2 (by omega) zr_0 (by omega) ?_
            refine z_iload0 gi_148_5 ?_
            refine z_iload2 gi_148_6 ?_
            refine z_icmp_gtF gi_148_7 (by omega) (by decide) (by omega) ?_
            refine z_pushJ gp_148_10 ?_
            refine z_goto gi_148_11 ?_
            refine z_bret1 gi_148_15 gr_148 ?_
            show zW _ _ _ _ _ _ _ _ _ _
            refine z_if_eqF gi_153_8 zr_1 (by decide) ?_
            refine z_iload2 gi_153_11 ?_
            refine z_pushJ gp_153_12 ?_
            refine z_pushJ gp_153_13 ?_
            refine z_cS3 gi_153_15 (Nat.le_of_ble_eq_true rfl) gc_148_III ?_
            refine z_iload0 gi_148_0 ?_
            refine z_iload1 gi_148_1 ?_
            refine z_icmp_ltF gi_148_2 (by omega) zr_0 (by omega) ?_
            refine z_iload0 gi_148_5 ?_
            refine z_iload2 gi_148_6 ?_
            refine z_icmp_gtF gi_148_7 (by omega) zr_99 (by omega) ?_
            refine z_pushJ gp_148_10 ?_
            refine z_goto gi_148_11 ?_
            refine z_bret1 gi_148_15 gr_148 ?_
            show zW _ _ _ _ _ _ _ _ _ _
            refine z_if_neT gi_153_18 zr_1 (by decide) ?_
            refine z_aload0 gi_153_23 ?_
            refine z_getI (v := J 8 2) gi_153_24 gk_50 (y2.symm) ?_
            refine z_pushJ gp_153_27 ?_
            refine z_icmp_neF gi_153_29 (by omega) zr_8 (by omega) ?_
            refine z_pushJ gp_153_32 ?_
            refine z_goto rfl ?_
            refine z_iret gi_153_50 gr_153 ?_
            refine ⟨?_, ?_⟩
            · first | rfl | exact congrArg (fun v => some (zi v)) (by omega) | (exfalso; omega)
            · exact hr
