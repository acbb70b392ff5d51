def gN (N : Int → Int → Int) (x y : Int) : Nat → Int × Int
  | 0 => (-2, 0)
  | k + 1 => if (gN N x y k).1 < 0 ∨ sYards N x y k < (gN N x y k).2 then ((k : Int), sYards N x y k) else gN N x y k
theorem gN_1 {N : Int → Int → Int} {x y : Int} {k : Nat} (h : (gN N x y k).1 < 0 ∨ sYards N x y k < (gN N x y k).2) : gN N x y (k + 1) = ((k : Int), sYards N x y k) := by
  show (if _ then _ else _) = _
  rw [if_pos h]
theorem gN_0 {N : Int → Int → Int} {x y : Int} {k : Nat} (h : ¬ ((gN N x y k).1 < 0 ∨ sYards N x y k < (gN N x y k).2)) : gN N x y (k + 1) = gN N x y k := by
  show (if _ then _ else _) = _
  rw [if_neg h]
theorem gN_r {N : Int → Int → Int} {x y : Int} : ∀ k : Nat, (k = 0 ∧ gN N x y k = (-2, 0)) ∨ (0 < k ∧ 0 ≤ (gN N x y k).1 ∧ (gN N x y k).1 < k ∧ (gN N x y k).2 = sYards N x y (gN N x y k).1) := by
  intro k
  induction k with
  | zero => exact Or.inl ⟨rfl, rfl⟩
  | succ k ih =>
    refine Or.inr ⟨by omega, ?_⟩
    by_cases h : (gN N x y k).1 < 0 ∨ sYards N x y k < (gN N x y k).2
    · rw [gN_1 h]
      exact ⟨by show 0 ≤ (k : Int); omega, by show (k : Int) < _; omega, rfl⟩
    · rw [gN_0 h]
      rcases ih with ⟨e, q⟩ | ⟨a, b, c, d⟩
      · rw [q] at h
        exact absurd (Or.inl (by show (-2 : Int) < 0; decide)) h
      · exact ⟨b, by omega, d⟩
theorem grassC_z {X : Nat × (Nat → Int32)} {d : Nat} {J M : zA} {R : zR} {P : zP} {N : Int → Int → Int} {n : Int} (hR : zRok R) (hA : cN J = N) (hz : J 8 2 = n) (hN : zNr n N) {q w : Int} (hq : 0 ≤ q ∧ q < 10000) : ∀ (j k : Nat) (e6 : Option Value), (k : Int) + j = n → (∀ e6 : Option Value, zW X (d + 6) 122 80 [some (.ref 0), some (zi q), some (zi w), some (zi (gN N (q % 100) (q / 100) n.toNat).1), some (zi (gN N (q % 100) (q / 100) n.toNat).2), some (zi n), e6] [] J M R P) → zW X (d + 6) 122 25 [some (.ref 0), some (zi q), some (zi w), some (zi ((gN N (q % 100) (q / 100) k).1)), some (zi ((gN N (q % 100) (q / 100) k).2)), some (zi (k : Int)), e6] [] J M R P := by
  intro j
  induction j with
  | zero =>
    intro k e6 hk K
    have qn := zNn hN
    refine z_iload rfl rfl ?_
    refine z_aload rfl rfl ?_
    refine z_getR (r := 8) rfl rfl (hR _ rm_0_1) ?_
    refine z_getI (v := n) rfl rfl (hz) ?_
    refine z_icmp_geT rfl (by omega) (by omega) (by omega) ?_
    obtain rfl : n = (k : Int) := by omega
    exact K e6
  | succ j ih =>
    intro k e6 hk K
    have qn := zNn hN
    have gk := @gN_r N (q % 100) (q / 100) k
    have gb : (-2 ≤ (gN N (q % 100) (q / 100) k).1 ∧ (gN N (q % 100) (q / 100) k).1 ≤ 8) ∧ (0 ≤ (gN N (q % 100) (q / 100) k).2 ∧ (gN N (q % 100) (q / 100) k).2 ≤ 198) := by
      rcases gk with ⟨e, r⟩ | ⟨a, b, c, e⟩
      · rw [r]; exact ⟨⟨by decide, by decide⟩, by decide, by decide⟩
      · rw [e]
        have := sYards_r hN (x := q % 100) (y := q / 100) (p := (gN N (q % 100) (q / 100) k).1) (by omega) (by omega)
        omega
    refine z_iload rfl rfl ?_
    refine z_aload rfl rfl ?_
    refine z_getR (r := 8) rfl rfl (hR _ rm_0_1) ?_
    refine z_getI (v := n) rfl rfl (hz) ?_
    refine z_icmp_geF rfl (by omega) (by omega) (by omega) ?_
    refine z_aload rfl rfl ?_
    refine z_getR (r := 8) rfl rfl (hR _ rm_0_1) ?_
    refine z_iload rfl rfl ?_
    refine z_pushI (z := 100) rfl rfl ?_
    refine z_irem (e := q % 100) rfl (by omega) (by omega) rfl ?_
    refine z_iload rfl rfl ?_
    refine z_pushI (z := 100) rfl rfl ?_
    refine z_idiv (e := q / 100) rfl (by omega) (by omega) rfl ?_
    refine z_iload rfl rfl ?_
    refine z_callVP (As := [_, _, _]) (v := sYards N (q % 100) (q / 100) (k : Int)) rfl rfl rfl (Nat.le_of_ble_eq_true rfl) (Nat.le_of_ble_eq_true rfl) (yardsFrom_k hR zK_r hA hz hN (by omega) (by omega) (by omega)) ?_
    have qy := sYards_r hN (x := q % 100) (y := q / 100) (p := (k : Int)) (by omega) (by omega)
    refine z_istore rfl rfl ?_
    refine z_iload rfl rfl ?_
    refine z_if_lt rfl (by omega) (fun h1 => ?_) (fun h1 => ?_)
    · refine z_iload rfl rfl ?_
      refine z_istore rfl rfl ?_
      refine z_iload rfl rfl ?_
      refine z_istore rfl rfl ?_
      refine z_iinc (c := 1) (e := (k : Int) + 1) rfl rfl rfl rfl rfl ?_
      refine z_goto rfl ?_
      show zW _ _ _ _ [some (.ref 0), some (zi q), some (zi w), some (zi (k : Int)), some (zi (sYards N (q % 100) (q / 100) (k : Int))), some (zi ((k : Int) + 1)), some (zi (sYards N (q % 100) (q / 100) (k : Int)))] [] _ _ _ _
      have hg := ih (k + 1) (some (zi (sYards N (q % 100) (q / 100) k))) (by omega) K
      rw [gN_1 (k := k) (by omega)] at hg
      exact hg
    · refine z_iload rfl rfl ?_
      refine z_iload rfl rfl ?_
      refine z_icmp_ge rfl (by omega) (by omega) (fun h2 => ?_) (fun h2 => ?_)
      · refine z_iinc (c := 1) (e := (k : Int) + 1) rfl rfl rfl rfl rfl ?_
        refine z_goto rfl ?_
        show zW _ _ _ _ [some (.ref 0), some (zi q), some (zi w), some (zi ((gN N (q % 100) (q / 100) k).1)), some (zi ((gN N (q % 100) (q / 100) k).2)), some (zi ((k : Int) + 1)), some (zi (sYards N (q % 100) (q / 100) (k : Int)))] [] _ _ _ _
        have hg := ih (k + 1) (some (zi (sYards N (q % 100) (q / 100) k))) (by omega) K
        rw [gN_0 (k := k) (by omega)] at hg
        exact hg
      · refine z_iload rfl rfl ?_
        refine z_istore rfl rfl ?_
        refine z_iload rfl rfl ?_
        refine z_istore rfl rfl ?_
        refine z_iinc (c := 1) (e := (k : Int) + 1) rfl rfl rfl rfl rfl ?_
        refine z_goto rfl ?_
        show zW _ _ _ _ [some (.ref 0), some (zi q), some (zi w), some (zi (k : Int)), some (zi (sYards N (q % 100) (q / 100) (k : Int))), some (zi ((k : Int) + 1)), some (zi (sYards N (q % 100) (q / 100) (k : Int)))] [] _ _ _ _
        have hg := ih (k + 1) (some (zi (sYards N (q % 100) (q / 100) k))) (by omega) K
        rw [gN_1 (k := k) (by omega)] at hg
        exact hg
theorem grassR_z {X : Nat × (Nat → Int32)} {d : Nat} {J M : zA} {R : zR} {P : zP} {N : Int → Int → Int} {n : Int} (hR : zRoR R) (hA : rN J = N) (hz : J 50 1 = n) (hN : zNr n N) {q w : Int} (hq : 0 ≤ q ∧ q < 10000) : ∀ (j k : Nat), (k : Int) + j = n → 0 < k → zW X (d + 6) 218 71 [some (.ref 50), some (zi q), some (zi w), some (zi (gN N (q % 100) (q / 100) n.toNat).1), some (zi n)] [] J M R P → zW X (d + 6) 218 37 [some (.ref 50), some (zi q), some (zi w), some (zi ((gN N (q % 100) (q / 100) k).1)), some (zi (k : Int))] [] J M R P := by
  intro j
  induction j with
  | zero =>
    intro k hk k0 K
    have qn := zNn hN
    refine z_iload rfl rfl ?_
    refine z_aload rfl rfl ?_
    refine z_getI (v := n) rfl rfl (hz) ?_
    refine z_icmp_geT rfl (by omega) (by omega) (by omega) ?_
    obtain rfl : n = (k : Int) := by omega
    exact K
  | succ j ih =>
    intro k hk k0 K
    have qn := zNn hN
    have gk : 0 ≤ (gN N (q % 100) (q / 100) k).1 ∧ (gN N (q % 100) (q / 100) k).1 < k ∧ (gN N (q % 100) (q / 100) k).2 = sYards N (q % 100) (q / 100) (gN N (q % 100) (q / 100) k).1 := by
      rcases @gN_r N (q % 100) (q / 100) k with ⟨e, r⟩ | ⟨a, b, c, e⟩
      · omega
      · exact ⟨b, c, e⟩
    refine z_iload rfl rfl ?_
    refine z_aload rfl rfl ?_
    refine z_getI (v := n) rfl rfl (hz) ?_
    refine z_icmp_geF rfl (by omega) (by omega) (by omega) ?_
    refine z_aload rfl rfl ?_
    refine z_iload rfl rfl ?_
    refine z_iload rfl rfl ?_
    refine z_callVP (As := [_, _]) (v := sYards N (q % 100) (q / 100) (k : Int)) rfl rfl rfl (Nat.le_of_ble_eq_true rfl) (Nat.le_of_ble_eq_true rfl) (apartFrom_k hR hA hz hN (by omega) (by omega)) ?_
    have q1 := sYards_r hN (x := q % 100) (y := q / 100) (p := (k : Int)) (by omega) (by omega)
    refine z_aload rfl rfl ?_
    refine z_iload rfl rfl ?_
    refine z_iload rfl rfl ?_
    refine z_callVP (As := [_, _]) (v := sYards N (q % 100) (q / 100) ((gN N (q % 100) (q / 100) k).1)) rfl rfl rfl (Nat.le_of_ble_eq_true rfl) (Nat.le_of_ble_eq_true rfl) (apartFrom_k hR hA hz hN (by omega) (by omega)) ?_
    have q2 := sYards_r hN (x := q % 100) (y := q / 100) (p := (gN N (q % 100) (q / 100) k).1) (by omega) (by omega)
    refine z_icmp_ge rfl (by omega) (by omega) (fun h3 => ?_) (fun h3 => ?_)
    · refine z_iinc (c := 1) (e := (k : Int) + 1) rfl rfl rfl rfl rfl ?_
      refine z_goto rfl ?_
      show zW _ _ _ _ [some (.ref 50), some (zi q), some (zi w), some (zi ((gN N (q % 100) (q / 100) k).1)), some (zi ((k : Int) + 1))] [] _ _ _ _
      have hg := ih (k + 1) (by omega) (by omega) K
      rw [gN_0 (k := k) (by omega)] at hg
      exact hg
    · refine z_iload rfl rfl ?_
      refine z_istore rfl rfl ?_
      refine z_iinc (c := 1) (e := (k : Int) + 1) rfl rfl rfl rfl rfl ?_
      refine z_goto rfl ?_
      show zW _ _ _ _ [some (.ref 50), some (zi q), some (zi w), some (zi (k : Int)), some (zi ((k : Int) + 1))] [] _ _ _ _
      have hg := ih (k + 1) (by omega) (by omega) K
      rw [gN_1 (k := k) (by omega)] at hg
      exact hg
theorem grassR_1 {X : Nat × (Nat → Int32)} {d : Nat} {J M : zA} {R : zR} {P : zP} {N : Int → Int → Int} {n : Int} (hR : zRoR R) (hA : rN J = N) (hz : J 50 1 = n) (hN : zNr n N) {q w : Int} (hq : 0 ≤ q ∧ q < 10000) (h0 : 0 < n) (K : zW X (d + 6) 218 71 [some (.ref 50), some (zi q), some (zi w), some (zi (gN N (q % 100) (q / 100) n.toNat).1), some (zi n)] [] J M R P) : zW X (d + 6) 218 37 [some (.ref 50), some (zi q), some (zi w), some (zi 0), some (zi 1)] [] J M R P := by
  have h := grassR_z hR hA hz hN (w := w) hq (n.toNat - 1) 1 (by omega) (by decide) K
  rw [gN_1 (Or.inl (by show (-2 : Int) < 0; decide))] at h
  exact h
theorem st_grass {X : Nat × (Nat → Int32)} {d : Nat} {J M : zA} {R : zR} {q w : Int} (hr : Rel X J M R) (hq : -2147483648 ≤ q ∧ q < 2147483648) (hw : -2147483648 ≤ w ∧ w < 2147483648)  : zW X (d + 20) 122 0 (gEn 122 [(.ref 0), (zi q), (zi w)]) [] J M R (stP X (d + 20) 218 [(zi q), (zi w)]) := by
  have hr0 := hr
  obtain ⟨hR, hG, hY, hD, hP, hC, hAc, hS, hTp, hX, hW⟩ := hr0
  have hRr : zRoR R := zRoR_of hR
  have hY0 := hY
  obtain ⟨y1, y2, y3⟩ := hY0
  have yn := zNn y3
  have gk : (J 8 2 = 0 ∧ (gN (cN J) (q % 100) (q / 100) (J 8 2).toNat).1 = -2) ∨ (0 < J 8 2 ∧ 0 ≤ (gN (cN J) (q % 100) (q / 100) (J 8 2).toNat).1 ∧ (gN (cN J) (q % 100) (q / 100) (J 8 2).toNat).1 < J 8 2) := by
    rcases @gN_r (cN J) (q % 100) (q / 100) (J 8 2).toNat with ⟨e, r⟩ | ⟨a, b, c, e⟩
    · rw [r]; exact Or.inl ⟨by omega, rfl⟩
    · exact Or.inr ⟨by omega, b, by omega⟩
  show zW _ _ _ _ [some (.ref 0), some (zi q), some (zi w), none, none, none, none] _ _ _ _ _
  refine z_iload rfl rfl ?_
  refine z_callSi (As := [_]) (le := [some _]) rfl rfl (Nat.le_of_ble_eq_true rfl) (Nat.le_of_ble_eq_true rfl) rfl ?_
  refine z_iload rfl rfl ?_
  refine z_if_lt rfl (by omega) (fun h1 => ?_) (fun h1 => ?_)
  · refine z_pushI (z := 0) rfl rfl ?_
    refine z_bret rfl rfl (by decide) ?_
    show zW _ _ _ _ _ _ _ _ _ _
    refine z_if_eqT rfl (by decide) (by decide) ?_
    refine z_pushI (z := (-1)) rfl rfl ?_
    refine z_iret rfl rfl ?_
    refine ⟨_, rfl, ?_⟩
    show zW _ _ _ _ [some (.ref 50), some (zi q), some (zi w), none, none] _ _ _ _ _
    refine z_iload rfl rfl ?_
    refine z_pushI (z := 0) rfl rfl ?_
    refine z_pushI (z := 9999) rfl rfl ?_
    refine z_callSi (As := [_, _, _]) (le := [some _, some _, some _]) rfl rfl (Nat.le_of_ble_eq_true rfl) (Nat.le_of_ble_eq_true rfl) rfl ?_
    refine z_iload rfl rfl ?_
    refine z_iload rfl rfl ?_
    refine z_icmp_ltT rfl (by omega) (by decide) (by omega) ?_
    refine z_pushI (z := 0) rfl rfl ?_
    refine z_bret rfl rfl (by decide) ?_
    show zW _ _ _ _ _ _ _ _ _ _
    refine z_if_eqT rfl (by decide) (by decide) ?_
    refine z_pushI (z := (-1)) rfl rfl ?_
    refine z_iret rfl rfl ?_
    refine ⟨?_, ?_⟩
    · first | rfl | exact congrArg (fun v => some (zi v)) (by omega) | (exfalso; omega)
    · exact hr
  · refine z_iload rfl rfl ?_
    refine z_pushI (z := 10000) rfl rfl ?_
    refine z_icmp_ge rfl (by omega) (by decide) (fun h2 => ?_) (fun h2 => ?_)
    · refine z_pushI (z := 0) rfl rfl ?_
      refine z_bret rfl rfl (by decide) ?_
      show zW _ _ _ _ _ _ _ _ _ _
      refine z_if_eqT rfl (by decide) (by decide) ?_
      refine z_pushI (z := (-1)) rfl rfl ?_
      refine z_iret rfl rfl ?_
      refine ⟨_, rfl, ?_⟩
      show zW _ _ _ _ [some (.ref 50), some (zi q), some (zi w), none, none] _ _ _ _ _
      refine z_iload rfl rfl ?_
      refine z_pushI (z := 0) rfl rfl ?_
      refine z_pushI (z := 9999) rfl rfl ?_
      refine z_callSi (As := [_, _, _]) (le := [some _, some _, some _]) rfl rfl (Nat.le_of_ble_eq_true rfl) (Nat.le_of_ble_eq_true rfl) rfl ?_
      refine z_iload rfl rfl ?_
      refine z_iload rfl rfl ?_
      refine z_icmp_ltF rfl (by omega) (by decide) (by omega) ?_
      refine z_iload rfl rfl ?_
      refine z_iload rfl rfl ?_
      refine z_icmp_gtT rfl (by omega) (by decide) (by omega) ?_
      refine z_pushI (z := 0) rfl rfl ?_
      refine z_bret rfl rfl (by decide) ?_
      show zW _ _ _ _ _ _ _ _ _ _
      refine z_if_eqT rfl (by decide) (by decide) ?_
      refine z_pushI (z := (-1)) rfl rfl ?_
      refine z_iret rfl rfl ?_
      refine ⟨?_, ?_⟩
      · first | rfl | exact congrArg (fun v => some (zi v)) (by omega) | (exfalso; omega)
      · exact hr
    · refine z_pushI (z := 1) rfl rfl ?_
      refine z_goto rfl ?_
      refine z_bret rfl rfl (by decide) ?_
      show zW _ _ _ _ _ _ _ _ _ _
      refine z_if_eqF rfl (by decide) (by decide) ?_
      refine z_iload rfl rfl ?_
      refine z_callSi (As := [_]) (le := [some _]) rfl rfl (Nat.le_of_ble_eq_true rfl) (Nat.le_of_ble_eq_true rfl) rfl ?_
      refine z_iload rfl rfl ?_
      refine z_if_eq rfl (by omega) (fun h3 => ?_) (fun h3 => ?_)
      · refine z_pushI (z := 1) rfl rfl ?_
        refine z_goto rfl ?_
        refine z_bret rfl rfl (by decide) ?_
        show zW _ _ _ _ _ _ _ _ _ _
        refine z_if_neT rfl (by decide) (by decide) ?_
        refine z_pushI (z := (-2)) rfl rfl ?_
        refine z_istore rfl rfl ?_
        refine z_pushI (z := 0) rfl rfl ?_
        refine z_istore rfl rfl ?_
        refine z_pushI (z := 0) rfl rfl ?_
        refine z_istore rfl rfl ?_
        show zW _ _ _ _ [some (.ref 0), some (zi q), some (zi w), some (zi (-2)), some (zi 0), some (zi 0), none] [] _ _ _ _
        refine grassC_z (d := d + 14) hR rfl rfl y3 (by omega) (J 8 2).toNat 0 none (by omega) (fun e6 => ?_)
        refine z_iload rfl rfl ?_
        refine z_if_eqT rfl (by omega) (by omega) ?_
        refine z_iload rfl rfl ?_
        refine z_goto rfl ?_
        refine z_iret rfl rfl ?_
        refine ⟨_, rfl, ?_⟩
        show zW _ _ _ _ [some (.ref 50), some (zi q), some (zi w), none, none] _ _ _ _ _
        refine z_iload rfl rfl ?_
        refine z_pushI (z := 0) rfl rfl ?_
        refine z_pushI (z := 9999) rfl rfl ?_
        refine z_callSi (As := [_, _, _]) (le := [some _, some _, some _]) rfl rfl (Nat.le_of_ble_eq_true rfl) (Nat.le_of_ble_eq_true rfl) rfl ?_
        refine z_iload rfl rfl ?_
        refine z_iload rfl rfl ?_
        refine z_icmp_ltF rfl (by omega) (by decide) (by omega) ?_
        refine z_iload rfl rfl ?_
        refine z_iload rfl rfl ?_
        refine z_icmp_gtF rfl (by omega) (by decide) (by omega) ?_
        refine z_pushI (z := 1) rfl rfl ?_
        refine z_goto rfl ?_
        refine z_bret rfl rfl (by decide) ?_
        show zW _ _ _ _ _ _ _ _ _ _
        refine z_if_eqF rfl (by decide) (by decide) ?_
        refine z_iload rfl rfl ?_
        refine z_pushI (z := 0) rfl rfl ?_
        refine z_pushI (z := 1) rfl rfl ?_
        refine z_callSi (As := [_, _, _]) (le := [some _, some _, some _]) rfl rfl (Nat.le_of_ble_eq_true rfl) (Nat.le_of_ble_eq_true rfl) rfl ?_
        refine z_iload rfl rfl ?_
        refine z_iload rfl rfl ?_
        refine z_icmp_ltF rfl (by omega) (by decide) (by omega) ?_
        refine z_iload rfl rfl ?_
        refine z_iload rfl rfl ?_
        refine z_icmp_gtF rfl (by omega) (by decide) (by omega) ?_
        refine z_pushI (z := 1) rfl rfl ?_
        refine z_goto rfl ?_
        refine z_bret rfl rfl (by decide) ?_
        show zW _ _ _ _ _ _ _ _ _ _
        refine z_if_neT rfl (by decide) (by decide) ?_
        refine z_aload rfl rfl ?_
        refine z_getI (v := J 8 2) rfl rfl (y2.symm) ?_
        refine z_if_ne rfl (by omega) (fun h4 => ?_) (fun h4 => ?_)
        · refine z_pushI (z := 0) rfl rfl ?_
          refine z_istore rfl rfl ?_
          refine z_pushI (z := 1) rfl rfl ?_
          refine z_istore rfl rfl ?_
          show zW _ _ _ _ [some (.ref 50), some (zi q), some (zi w), some (zi 0), some (zi 1)] [] _ _ _ _
          have g1 : (gN (cN J) (q % 100) (q / 100) 1).1 = 0 := by rw [gN_1 (Or.inl (by show (-2 : Int) < 0; decide))]; rfl
          refine grassR_1 hRr y1.symm y2.symm y3 (by omega) (by omega) ?_
          refine z_iload rfl rfl ?_
          refine z_if_neF rfl (by omega) (by omega) ?_
          refine z_iload rfl rfl ?_
          refine z_goto rfl ?_
          refine z_iret rfl rfl ?_
          refine ⟨?_, ?_⟩
          · first | rfl | exact congrArg (fun v => some (zi v)) (by omega) | (exfalso; omega)
          · exact hr
        · refine z_pushI (z := (-2)) rfl rfl ?_
          refine z_iret rfl rfl ?_
          refine ⟨?_, ?_⟩
          · first | rfl | exact congrArg (fun v => some (zi v)) (by omega) | (exfalso; omega)
          · exact hr
      · refine z_iload rfl rfl ?_
        refine z_pushI (z := 1) rfl rfl ?_
        refine z_icmp_ne rfl (by omega) (by decide) (fun h4 => ?_) (fun h4 => ?_)
        · refine z_pushI (z := 0) rfl rfl ?_
          refine z_bret rfl rfl (by decide) ?_
          show zW _ _ _ _ _ _ _ _ _ _
          refine z_if_neF rfl (by decide) (by decide) ?_
          refine z_pushI (z := (-1)) rfl rfl ?_
          refine z_iret rfl rfl ?_
          refine ⟨_, rfl, ?_⟩
          show zW _ _ _ _ [some (.ref 50), some (zi q), some (zi w), none, none] _ _ _ _ _
          refine z_iload rfl rfl ?_
          refine z_pushI (z := 0) rfl rfl ?_
          refine z_pushI (z := 9999) rfl rfl ?_
          refine z_callSi (As := [_, _, _]) (le := [some _, some _, some _]) rfl rfl (Nat.le_of_ble_eq_true rfl) (Nat.le_of_ble_eq_true rfl) rfl ?_
          refine z_iload rfl rfl ?_
          refine z_iload rfl rfl ?_
          refine z_icmp_ltF rfl (by omega) (by decide) (by omega) ?_
          refine z_iload rfl rfl ?_
          refine z_iload rfl rfl ?_
          refine z_icmp_gtF rfl (by omega) (by decide) (by omega) ?_
          refine z_pushI (z := 1) rfl rfl ?_
          refine z_goto rfl ?_
          refine z_bret rfl rfl (by decide) ?_
          show zW _ _ _ _ _ _ _ _ _ _
          refine z_if_eqF rfl (by decide) (by decide) ?_
          refine z_iload rfl rfl ?_
          refine z_pushI (z := 0) rfl rfl ?_
          refine z_pushI (z := 1) rfl rfl ?_
          refine z_callSi (As := [_, _, _]) (le := [some _, some _, some _]) rfl rfl (Nat.le_of_ble_eq_true rfl) (Nat.le_of_ble_eq_true rfl) rfl ?_
          refine z_iload rfl rfl ?_
          refine z_iload rfl rfl ?_
          refine z_icmp_lt rfl (by omega) (by decide) (fun h5 => ?_) (fun h5 => ?_)
          · refine z_pushI (z := 0) rfl rfl ?_
            refine z_bret rfl rfl (by decide) ?_
            show zW _ _ _ _ _ _ _ _ _ _
            refine z_if_neF rfl (by decide) (by decide) ?_
            refine z_pushI (z := (-1)) rfl rfl ?_
            refine z_iret rfl rfl ?_
            refine ⟨?_, ?_⟩
            · first | rfl | exact congrArg (fun v => some (zi v)) (by omega) | (exfalso; omega)
            · exact hr
          · refine z_iload rfl rfl ?_
            refine z_iload rfl rfl ?_
            refine z_icmp_gt rfl (by omega) (by decide) (fun h6 => ?_) (fun h6 => ?_)
            · refine z_pushI (z := 0) rfl rfl ?_
              refine z_bret rfl rfl (by decide) ?_
              show zW _ _ _ _ _ _ _ _ _ _
              refine z_if_neF rfl (by decide) (by decide) ?_
              refine z_pushI (z := (-1)) rfl rfl ?_
              refine z_iret rfl rfl ?_
              refine ⟨?_, ?_⟩
              · first | rfl | exact congrArg (fun v => some (zi v)) (by omega) | (exfalso; omega)
              · exact hr
            · refine z_pushI (z := 1) rfl rfl ?_
              refine z_goto rfl ?_
              refine z_bret rfl rfl (by decide) ?_
              show zW _ _ _ _ _ _ _ _ _ _
              refine z_if_neT rfl (by decide) (by decide) ?_
              refine z_aload rfl rfl ?_
              refine z_getI (v := J 8 2) rfl rfl (y2.symm) ?_
              refine z_if_ne rfl (by omega) (fun h7 => ?_) (fun h7 => ?_)
              · refine z_pushI (z := 0) rfl rfl ?_
                refine z_istore rfl rfl ?_
                refine z_pushI (z := 1) rfl rfl ?_
                refine z_istore rfl rfl ?_
                show zW _ _ _ _ [some (.ref 50), some (zi q), some (zi w), some (zi 0), some (zi 1)] [] _ _ _ _
                have g1 : (gN (cN J) (q % 100) (q / 100) 1).1 = 0 := by rw [gN_1 (Or.inl (by show (-2 : Int) < 0; decide))]; rfl
                refine grassR_1 hRr y1.symm y2.symm y3 (by omega) (by omega) ?_
                refine z_iload rfl rfl ?_
                refine z_if_ne rfl (by omega) (fun h8 => ?_) (fun h8 => ?_)
                · refine z_aload rfl rfl ?_
                  refine z_getR (r := 53) rfl rfl (hRr _ rm_50_4 (by decide)) ?_
                  refine z_iload rfl rfl ?_
                  have q9 := zN2 y3 ((gN (cN J) (q % 100) (q / 100) (J 8 2).toNat).1)
                  refine z_iald (v := (cN J) ((gN (cN J) (q % 100) (q / 100) (J 8 2).toNat).1) 2) rfl rfl (by decide) (by omega) (rd_2 (A := J) zK_r y1.symm y2.symm (by omega)) ?_
                  refine z_aload rfl rfl ?_
                  refine z_callVP (As := []) (v := sAll (cN J) (J 8 2).toNat) rfl rfl rfl (Nat.le_of_ble_eq_true rfl) (Nat.le_of_ble_eq_true rfl) (rallOdds_k (A := J) hRr zK_r y1.symm y2.symm y3) ?_
                  have qa := sAll_r y3 (J 8 2).toNat
                  refine z_callSP (As := [_, _]) (v := sShare (cN J) (J 8 2) (gN (cN J) (q % 100) (q / 100) (J 8 2).toNat).1) rfl rfl (Nat.le_of_ble_eq_true rfl) (Nat.le_of_ble_eq_true rfl) (part_v (by omega) (by omega) (sPart_s y3)) ?_
                  refine z_iret rfl rfl ?_
                  refine ⟨?_, ?_⟩
                  · first | rfl | exact congrArg (fun v => some (zi v)) (by omega) | (exfalso; omega)
                  · exact hr
                · refine z_iload rfl rfl ?_
                  refine z_goto rfl ?_
                  refine z_iret rfl rfl ?_
                  refine ⟨?_, ?_⟩
                  · first | rfl | exact congrArg (fun v => some (zi v)) (by omega) | (exfalso; omega)
                  · exact hr
              · refine z_pushI (z := (-2)) rfl rfl ?_
                refine z_iret rfl rfl ?_
                refine ⟨?_, ?_⟩
                · first | rfl | exact congrArg (fun v => some (zi v)) (by omega) | (exfalso; omega)
                · exact hr
        · refine z_pushI (z := 1) rfl rfl ?_
          refine z_goto rfl ?_
          refine z_bret rfl rfl (by decide) ?_
          show zW _ _ _ _ _ _ _ _ _ _
          refine z_if_neT rfl (by decide) (by decide) ?_
          refine z_pushI (z := (-2)) rfl rfl ?_
          refine z_istore rfl rfl ?_
          refine z_pushI (z := 0) rfl rfl ?_
          refine z_istore rfl rfl ?_
          refine z_pushI (z := 0) rfl rfl ?_
          refine z_istore rfl rfl ?_
          show zW _ _ _ _ [some (.ref 0), some (zi q), some (zi w), some (zi (-2)), some (zi 0), some (zi 0), none] [] _ _ _ _
          refine grassC_z (d := d + 14) hR rfl rfl y3 (by omega) (J 8 2).toNat 0 none (by omega) (fun e6 => ?_)
          refine z_iload rfl rfl ?_
          refine z_if_eqF rfl (by omega) (by omega) ?_
          refine z_iload rfl rfl ?_
          refine z_if_ge rfl (by omega) (fun h5 => ?_) (fun h5 => ?_)
          · refine z_aload rfl rfl ?_
            refine z_getR (r := 8) rfl rfl (hR _ rm_0_1) ?_
            refine z_iload rfl rfl ?_
            refine z_callVP (As := [_]) (v := sShare (cN J) (J 8 2) ((gN (cN J) (q % 100) (q / 100) (J 8 2).toNat).1)) rfl rfl rfl (Nat.le_of_ble_eq_true rfl) (Nat.le_of_ble_eq_true rfl) (shareBy_k hR zK_r rfl rfl y3 (by omega)) ?_
            refine z_iret rfl rfl ?_
            refine ⟨_, rfl, ?_⟩
            show zW _ _ _ _ [some (.ref 50), some (zi q), some (zi w), none, none] _ _ _ _ _
            refine z_iload rfl rfl ?_
            refine z_pushI (z := 0) rfl rfl ?_
            refine z_pushI (z := 9999) rfl rfl ?_
            refine z_callSi (As := [_, _, _]) (le := [some _, some _, some _]) rfl rfl (Nat.le_of_ble_eq_true rfl) (Nat.le_of_ble_eq_true rfl) rfl ?_
            refine z_iload rfl rfl ?_
            refine z_iload rfl rfl ?_
            refine z_icmp_ltF rfl (by omega) (by decide) (by omega) ?_
            refine z_iload rfl rfl ?_
            refine z_iload rfl rfl ?_
            refine z_icmp_gtF rfl (by omega) (by decide) (by omega) ?_
            refine z_pushI (z := 1) rfl rfl ?_
            refine z_goto rfl ?_
            refine z_bret rfl rfl (by decide) ?_
            show zW _ _ _ _ _ _ _ _ _ _
            refine z_if_eqF rfl (by decide) (by decide) ?_
            refine z_iload rfl rfl ?_
            refine z_pushI (z := 0) rfl rfl ?_
            refine z_pushI (z := 1) rfl rfl ?_
            refine z_callSi (As := [_, _, _]) (le := [some _, some _, some _]) rfl rfl (Nat.le_of_ble_eq_true rfl) (Nat.le_of_ble_eq_true rfl) rfl ?_
            refine z_iload rfl rfl ?_
            refine z_iload rfl rfl ?_
            refine z_icmp_ltF rfl (by omega) (by decide) (by omega) ?_
            refine z_iload rfl rfl ?_
            refine z_iload rfl rfl ?_
            refine z_icmp_gtF rfl (by omega) (by decide) (by omega) ?_
            refine z_pushI (z := 1) rfl rfl ?_
            refine z_goto rfl ?_
            refine z_bret rfl rfl (by decide) ?_
            show zW _ _ _ _ _ _ _ _ _ _
            refine z_if_neT rfl (by decide) (by decide) ?_
            refine z_aload rfl rfl ?_
            refine z_getI (v := J 8 2) rfl rfl (y2.symm) ?_
            refine z_if_ne rfl (by omega) (fun h6 => ?_) (fun h6 => ?_)
            · refine z_pushI (z := 0) rfl rfl ?_
              refine z_istore rfl rfl ?_
              refine z_pushI (z := 1) rfl rfl ?_
              refine z_istore rfl rfl ?_
              show zW _ _ _ _ [some (.ref 50), some (zi q), some (zi w), some (zi 0), some (zi 1)] [] _ _ _ _
              have g1 : (gN (cN J) (q % 100) (q / 100) 1).1 = 0 := by rw [gN_1 (Or.inl (by show (-2 : Int) < 0; decide))]; rfl
              refine grassR_1 hRr y1.symm y2.symm y3 (by omega) (by omega) ?_
              refine z_iload rfl rfl ?_
              refine z_if_neT rfl (by omega) (by omega) ?_
              refine z_aload rfl rfl ?_
              refine z_getR (r := 53) rfl rfl (hRr _ rm_50_4 (by decide)) ?_
              refine z_iload rfl rfl ?_
              have q7 := zN2 y3 ((gN (cN J) (q % 100) (q / 100) (J 8 2).toNat).1)
              refine z_iald (v := (cN J) ((gN (cN J) (q % 100) (q / 100) (J 8 2).toNat).1) 2) rfl rfl (by decide) (by omega) (rd_2 (A := J) zK_r y1.symm y2.symm (by omega)) ?_
              refine z_aload rfl rfl ?_
              refine z_callVP (As := []) (v := sAll (cN J) (J 8 2).toNat) rfl rfl rfl (Nat.le_of_ble_eq_true rfl) (Nat.le_of_ble_eq_true rfl) (rallOdds_k (A := J) hRr zK_r y1.symm y2.symm y3) ?_
              have qa := sAll_r y3 (J 8 2).toNat
              refine z_callSP (As := [_, _]) (v := sShare (cN J) (J 8 2) (gN (cN J) (q % 100) (q / 100) (J 8 2).toNat).1) rfl rfl (Nat.le_of_ble_eq_true rfl) (Nat.le_of_ble_eq_true rfl) (part_v (by omega) (by omega) (sPart_s y3)) ?_
              refine z_iret rfl rfl ?_
              refine ⟨?_, ?_⟩
              · first | rfl | exact congrArg (fun v => some (zi v)) (by omega) | (exfalso; omega)
              · exact hr
            · refine z_pushI (z := (-2)) rfl rfl ?_
              refine z_iret rfl rfl ?_
              refine ⟨?_, ?_⟩
              · first | rfl | exact congrArg (fun v => some (zi v)) (by omega) | (exfalso; omega)
              · exact hr
          · refine z_iload rfl rfl ?_
            refine z_goto rfl ?_
            refine z_iret rfl rfl ?_
            refine ⟨_, rfl, ?_⟩
            show zW _ _ _ _ [some (.ref 50), some (zi q), some (zi w), none, none] _ _ _ _ _
            refine z_iload rfl rfl ?_
            refine z_pushI (z := 0) rfl rfl ?_
            refine z_pushI (z := 9999) rfl rfl ?_
            refine z_callSi (As := [_, _, _]) (le := [some _, some _, some _]) rfl rfl (Nat.le_of_ble_eq_true rfl) (Nat.le_of_ble_eq_true rfl) rfl ?_
            refine z_iload rfl rfl ?_
            refine z_iload rfl rfl ?_
            refine z_icmp_ltF rfl (by omega) (by decide) (by omega) ?_
            refine z_iload rfl rfl ?_
            refine z_iload rfl rfl ?_
            refine z_icmp_gtF rfl (by omega) (by decide) (by omega) ?_
            refine z_pushI (z := 1) rfl rfl ?_
            refine z_goto rfl ?_
            refine z_bret rfl rfl (by decide) ?_
            show zW _ _ _ _ _ _ _ _ _ _
            refine z_if_eqF rfl (by decide) (by decide) ?_
            refine z_iload rfl rfl ?_
            refine z_pushI (z := 0) rfl rfl ?_
            refine z_pushI (z := 1) rfl rfl ?_
            refine z_callSi (As := [_, _, _]) (le := [some _, some _, some _]) rfl rfl (Nat.le_of_ble_eq_true rfl) (Nat.le_of_ble_eq_true rfl) rfl ?_
            refine z_iload rfl rfl ?_
            refine z_iload rfl rfl ?_
            refine z_icmp_ltF rfl (by omega) (by decide) (by omega) ?_
            refine z_iload rfl rfl ?_
            refine z_iload rfl rfl ?_
            refine z_icmp_gtF rfl (by omega) (by decide) (by omega) ?_
            refine z_pushI (z := 1) rfl rfl ?_
            refine z_goto rfl ?_
            refine z_bret rfl rfl (by decide) ?_
            show zW _ _ _ _ _ _ _ _ _ _
            refine z_if_neT rfl (by decide) (by decide) ?_
            refine z_aload rfl rfl ?_
            refine z_getI (v := J 8 2) rfl rfl (y2.symm) ?_
            refine z_if_ne rfl (by omega) (fun h6 => ?_) (fun h6 => ?_)
            · refine z_pushI (z := 0) rfl rfl ?_
              refine z_istore rfl rfl ?_
              refine z_pushI (z := 1) rfl rfl ?_
              refine z_istore rfl rfl ?_
              show zW _ _ _ _ [some (.ref 50), some (zi q), some (zi w), some (zi 0), some (zi 1)] [] _ _ _ _
              have g1 : (gN (cN J) (q % 100) (q / 100) 1).1 = 0 := by rw [gN_1 (Or.inl (by show (-2 : Int) < 0; decide))]; rfl
              refine grassR_1 hRr y1.symm y2.symm y3 (by omega) (by omega) ?_
              refine z_iload rfl rfl ?_
              refine z_if_neT rfl (by omega) (by omega) ?_
              refine z_aload rfl rfl ?_
              refine z_getR (r := 53) rfl rfl (hRr _ rm_50_4 (by decide)) ?_
              refine z_iload rfl rfl ?_
              have q7 := zN2 y3 ((gN (cN J) (q % 100) (q / 100) (J 8 2).toNat).1)
              refine z_iald (v := (cN J) ((gN (cN J) (q % 100) (q / 100) (J 8 2).toNat).1) 2) rfl rfl (by decide) (by omega) (rd_2 (A := J) zK_r y1.symm y2.symm (by omega)) ?_
              refine z_aload rfl rfl ?_
              refine z_callVP (As := []) (v := sAll (cN J) (J 8 2).toNat) rfl rfl rfl (Nat.le_of_ble_eq_true rfl) (Nat.le_of_ble_eq_true rfl) (rallOdds_k (A := J) hRr zK_r y1.symm y2.symm y3) ?_
              have qa := sAll_r y3 (J 8 2).toNat
              refine z_callSP (As := [_, _]) (v := sShare (cN J) (J 8 2) (gN (cN J) (q % 100) (q / 100) (J 8 2).toNat).1) rfl rfl (Nat.le_of_ble_eq_true rfl) (Nat.le_of_ble_eq_true rfl) (part_v (by omega) (by omega) (sPart_s y3)) ?_
              refine z_iret rfl rfl ?_
              refine ⟨?_, ?_⟩
              · first | rfl | exact congrArg (fun v => some (zi v)) (by omega) | (exfalso; omega)
              · exact hr
            · refine z_pushI (z := (-2)) rfl rfl ?_
              refine z_iret rfl rfl ?_
              refine ⟨?_, ?_⟩
              · first | rfl | exact congrArg (fun v => some (zi v)) (by omega) | (exfalso; omega)
              · exact hr
