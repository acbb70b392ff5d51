noncomputable def gN (N : Int → Int → Int) (x y : Int) : Nat → Int × Int
  | 0 => (-2, 0)
  | k + 1 => if (gN N x y k).1 < 0 ∨ sYards N x y k < (gN N x y k).2 then ((k : Int), sYards N x y k) else gN N x y k
theorem gN_1 {N : Int → Int → Int} {x y : Int} {k : Nat} (h : (gN N x y k).1 < 0 ∨ sYards N x y k < (gN N x y k).2) : gN N x y (k + 1) = ((k : Int), sYards N x y k) := by
  show (if _ then _ else _) = _
  rw [if_pos h]
theorem gN_0 {N : Int → Int → Int} {x y : Int} {k : Nat} (h : ¬ ((gN N x y k).1 < 0 ∨ sYards N x y k < (gN N x y k).2)) : gN N x y (k + 1) = gN N x y k := by
  show (if _ then _ else _) = _
  rw [if_neg h]
theorem gN_r {N : Int → Int → Int} {x y : Int} : ∀ k : Nat, (k = 0 ∧ gN N x y k = (-2, 0)) ∨ (0 < k ∧ 0 ≤ (gN N x y k).1 ∧ (gN N x y k).1 < k ∧ (gN N x y k).2 = sYards N x y (gN N x y k).1) := by
  intro k
  induction k with
  | zero => exact Or.inl ⟨rfl, rfl⟩
  | succ k ih =>
    refine Or.inr ⟨by omega, ?_⟩
    by_cases h : (gN N x y k).1 < 0 ∨ sYards N x y k < (gN N x y k).2
    · rw [gN_1 h]
      exact ⟨by show 0 ≤ (k : Int); omega, by show (k : Int) < _; omega, rfl⟩
    · rw [gN_0 h]
      rcases ih with ⟨e, q⟩ | ⟨a, b, c, d⟩
      · rw [q] at h
        exact absurd (Or.inl (by show (-2 : Int) < 0; decide)) h
      · exact ⟨b, by omega, d⟩
theorem grassC_z {X : Nat × (Nat → Int32)} {d : Nat} {J M : zA} {R : zR} {P : zP} {N : Int → Int → Int} {n : Int} (hR : zRok R) (hA : cN J = N) (hz : J 8 2 = n) (hN : zNr n N) {q w : Int} (hq : 0 ≤ q ∧ q < 10000) : ∀ (j k : Nat) (e6 : Option Value), (k : Int) + j = n → (∀ e6 : Option Value, zW X (d + 6) 122 80 [some (.ref 0), some (zi q), some (zi w), some (zi (gN N (q % 100) (q / 100) n.toNat).1), some (zi (gN N (q % 100) (q / 100) n.toNat).2), some (zi n), e6] [] J M R P) → zW X (d + 6) 122 25 [some (.ref 0), some (zi q), some (zi w), some (zi ((gN N (q % 100) (q / 100) k).1)), some (zi ((gN N (q % 100) (q / 100) k).2)), some (zi (k : Int)), e6] [] J M R P := by
  intro j
  induction j with
  | zero =>
    intro k e6 hk K
    have qn := zNn hN
    refine z_iload rfl rfl ?_
    refine z_aload rfl rfl ?_
    refine z_getR (r := 8) rfl rfl (hR _ rm_0_1) ?_
    refine z_getI (v := n) rfl rfl (hz) ?_
    refine z_icmp_geT rfl (by omega) (by omega) (by omega) ?_
    obtain rfl : n = (k : Int) := by omega
    exact K e6
  | succ j ih =>
    intro k e6 hk K
    have qn := zNn hN
    have gk := @gN_r N (q % 100) (q / 100) k
    have gb : (-2 ≤ (gN N (q % 100) (q / 100) k).1 ∧ (gN N (q % 100) (q / 100) k).1 ≤ 8) ∧ (0 ≤ (gN N (q % 100) (q / 100) k).2 ∧ (gN N (q % 100) (q / 100) k).2 ≤ 198) := by
      rcases gk with ⟨e, r⟩ | ⟨a, b, c, e⟩
      · rw [r]; exact ⟨⟨by decide, by decide⟩, by decide, by decide⟩
      · rw [e]
        have := sYards_r hN (x := q % 100) (y := q / 100) (p := (gN N (q % 100) (q / 100) k).1) (by omega) (by omega)
        omega
    refine z_iload5 rfl ?_
    refine z_aload0 rfl ?_
    refine z_getR (r := 8) rfl gk_0 (hR _ rm_0_1) ?_
    refine z_getI (v := n) rfl gk_8 (hz) ?_
    refine z_icmp_geF rfl (by omega) (by omega) (by omega) ?_
    refine z_aload0 rfl ?_
    refine z_getR (r := 8) rfl gk_0 (hR _ rm_0_1) ?_
    refine z_iload1 rfl ?_
    refine z_pushJ gp_122_42 ?_
    refine z_irem (e := q % 100) rfl (by omega) (by omega) rfl ?_
    refine z_iload1 rfl ?_
    refine z_pushJ gp_122_46 ?_
    refine z_idiv (e := q / 100) rfl (by omega) (by omega) rfl ?_
    refine z_iload5 rfl ?_
    refine z_callVP (As := [_, _, _]) (v := sYards N (q % 100) (q / 100) (k : Int)) rfl rfl gk_8 (Nat.le_of_ble_eq_true rfl) (Nat.le_of_ble_eq_true rfl) (yardsFrom_k hR zK_r hA hz hN (by omega) (by omega) (by omega)) ?_
    have qy := sYards_r hN (x := q % 100) (y := q / 100) (p := (k : Int)) (by omega) (by omega)
    refine z_istore (ls1 := [some (.ref 0), some (zi q), some (zi w), some (zi ((gN N (q % 100) (q / 100) k).1)), some (zi ((gN N (q % 100) (q / 100) k).2)), some (zi (k : Int)), some (zi (sYards N (q % 100) (q / 100) (k : Int)))]) rfl rfl ?_
    refine z_iload3 rfl ?_
    refine z_if_lt rfl (by omega) (fun h1 => ?_) (fun h1 => ?_)
    · refine z_iload5 gi_122_67 ?_
      refine z_istore (ls1 := [some (.ref 0), some (zi q), some (zi w), some (zi (k : Int)), some (zi ((gN N (q % 100) (q / 100) k).2)), some (zi (k : Int)), some (zi (sYards N (q % 100) (q / 100) (k : Int)))]) gi_122_69 rfl ?_
      refine z_iload6 gi_122_70 ?_
      refine z_istore (ls1 := [some (.ref 0), some (zi q), some (zi w), some (zi (k : Int)), some (zi (sYards N (q % 100) (q / 100) (k : Int))), some (zi (k : Int)), some (zi (sYards N (q % 100) (q / 100) (k : Int)))]) gi_122_72 rfl ?_
      refine z_iinc (c := 1) (e := (k : Int) + 1) (ls1 := [some (.ref 0), some (zi q), some (zi w), some (zi (k : Int)), some (zi (sYards N (q % 100) (q / 100) (k : Int))), some (zi ((k : Int) + 1)), some (zi (sYards N (q % 100) (q / 100) (k : Int)))]) gi_122_74 rfl rfl rfl rfl ?_
      refine z_goto gi_122_77 ?_
      show zW _ _ _ _ [some (.ref 0), some (zi q), some (zi w), some (zi (k : Int)), some (zi (sYards N (q % 100) (q / 100) (k : Int))), some (zi ((k : Int) + 1)), some (zi (sYards N (q % 100) (q / 100) (k : Int)))] [] _ _ _ _
      have hg := ih (k + 1) (some (zi (sYards N (q % 100) (q / 100) k))) (by omega) K
      rw [gN_1 (k := k) (by omega)] at hg
      exact hg
    · refine z_iload6 rfl ?_
      refine z_iload4 rfl ?_
      refine z_icmp_ge rfl (by omega) (by omega) (fun h2 => ?_) (fun h2 => ?_)
      · refine z_iinc (c := 1) (e := (k : Int) + 1) (ls1 := [some (.ref 0), some (zi q), some (zi w), some (zi ((gN N (q % 100) (q / 100) k).1)), some (zi ((gN N (q % 100) (q / 100) k).2)), some (zi ((k : Int) + 1)), some (zi (sYards N (q % 100) (q / 100) (k : Int)))]) gi_122_74 rfl rfl rfl rfl ?_
        refine z_goto gi_122_77 ?_
        show zW _ _ _ _ [some (.ref 0), some (zi q), some (zi w), some (zi ((gN N (q % 100) (q / 100) k).1)), some (zi ((gN N (q % 100) (q / 100) k).2)), some (zi ((k : Int) + 1)), some (zi (sYards N (q % 100) (q / 100) (k : Int)))] [] _ _ _ _
        have hg := ih (k + 1) (some (zi (sYards N (q % 100) (q / 100) k))) (by omega) K
        rw [gN_0 (k := k) (by omega)] at hg
        exact hg
      · refine z_iload5 gi_122_67 ?_
        refine z_istore (ls1 := [some (.ref 0), some (zi q), some (zi w), some (zi (k : Int)), some (zi ((gN N (q % 100) (q / 100) k).2)), some (zi (k : Int)), some (zi (sYards N (q % 100) (q / 100) (k : Int)))]) gi_122_69 rfl ?_
        refine z_iload6 gi_122_70 ?_
        refine z_istore (ls1 := [some (.ref 0), some (zi q), some (zi w), some (zi (k : Int)), some (zi (sYards N (q % 100) (q / 100) (k : Int))), some (zi (k : Int)), some (zi (sYards N (q % 100) (q / 100) (k : Int)))]) gi_122_72 rfl ?_
        refine z_iinc (c := 1) (e := (k : Int) + 1) (ls1 := [some (.ref 0), some (zi q), some (zi w), some (zi (k : Int)), some (zi (sYards N (q % 100) (q / 100) (k : Int))), some (zi ((k : Int) + 1)), some (zi (sYards N (q % 100) (q / 100) (k : Int)))]) gi_122_74 rfl rfl rfl rfl ?_
        refine z_goto gi_122_77 ?_
        show zW _ _ _ _ [some (.ref 0), some (zi q), some (zi w), some (zi (k : Int)), some (zi (sYards N (q % 100) (q / 100) (k : Int))), some (zi ((k : Int) + 1)), some (zi (sYards N (q % 100) (q / 100) (k : Int)))] [] _ _ _ _
        have hg := ih (k + 1) (some (zi (sYards N (q % 100) (q / 100) k))) (by omega) K
        rw [gN_1 (k := k) (by omega)] at hg
        exact hg
theorem grassR_z {X : Nat × (Nat → Int32)} {d : Nat} {J M : zA} {R : zR} {P : zP} {N : Int → Int → Int} {n : Int} (hR : zRoR R) (hA : rN J = N) (hz : J 50 1 = n) (hN : zNr n N) {q w : Int} (hq : 0 ≤ q ∧ q < 10000) : ∀ (j k : Nat), (k : Int) + j = n → 0 < k → zW X (d + 6) 218 71 [some (.ref 50), some (zi q), some (zi w), some (zi (gN N (q % 100) (q / 100) n.toNat).1), some (zi n)] [] J M R P → zW X (d + 6) 218 37 [some (.ref 50), some (zi q), some (zi w), some (zi ((gN N (q % 100) (q / 100) k).1)), some (zi (k : Int))] [] J M R P := by
  intro j
  induction j with
  | zero =>
    intro k hk k0 K
    have qn := zNn hN
    refine z_iload rfl rfl ?_
    refine z_aload rfl rfl ?_
    refine z_getI (v := n) rfl rfl (hz) ?_
    refine z_icmp_geT rfl (by omega) (by omega) (by omega) ?_
    obtain rfl : n = (k : Int) := by omega
    exact K
  | succ j ih =>
    intro k hk k0 K
    have qn := zNn hN
    have gk : 0 ≤ (gN N (q % 100) (q / 100) k).1 ∧ (gN N (q % 100) (q / 100) k).1 < k ∧ (gN N (q % 100) (q / 100) k).2 = sYards N (q % 100) (q / 100) (gN N (q % 100) (q / 100) k).1 := by
      rcases @gN_r N (q % 100) (q / 100) k with ⟨e, r⟩ | ⟨a, b, c, e⟩
      · omega
      · exact ⟨b, c, e⟩
    refine z_iload4 rfl ?_
    refine z_aload0 rfl ?_
    refine z_getI (v := n) rfl gk_50 (hz) ?_
    refine z_icmp_geF rfl (by omega) (by omega) (by omega) ?_
    refine z_aload0 rfl ?_
    refine z_iload4 rfl ?_
    refine z_iload1 rfl ?_
    refine z_callVP (As := [_, _]) (v := sYards N (q % 100) (q / 100) (k : Int)) rfl rfl gk_50 (Nat.le_of_ble_eq_true rfl) (Nat.le_of_ble_eq_true rfl) (apartFrom_k hR hA hz hN (by omega) (by omega)) ?_
    have q1 := sYards_r hN (x := q % 100) (y := q / 100) (p := (k : Int)) (by omega) (by omega)
    refine z_aload0 rfl ?_
    refine z_iload3 rfl ?_
    refine z_iload1 rfl ?_
    refine z_callVP (As := [_, _]) (v := sYards N (q % 100) (q / 100) ((gN N (q % 100) (q / 100) k).1)) rfl rfl gk_50 (Nat.le_of_ble_eq_true rfl) (Nat.le_of_ble_eq_true rfl) (apartFrom_k hR hA hz hN (by omega) (by omega)) ?_
    have q2 := sYards_r hN (x := q % 100) (y := q / 100) (p := (gN N (q % 100) (q / 100) k).1) (by omega) (by omega)
    refine z_icmp_ge rfl (by omega) (by omega) (fun h3 => ?_) (fun h3 => ?_)
    · refine z_iinc (c := 1) (e := (k : Int) + 1) (ls1 := [some (.ref 50), some (zi q), some (zi w), some (zi ((gN N (q % 100) (q / 100) k).1)), some (zi ((k : Int) + 1))]) gi_218_65 rfl rfl rfl rfl ?_
      refine z_goto gi_218_68 ?_
      show zW _ _ _ _ [some (.ref 50), some (zi q), some (zi w), some (zi ((gN N (q % 100) (q / 100) k).1)), some (zi ((k : Int) + 1))] [] _ _ _ _
      have hg := ih (k + 1) (by omega) (by omega) K
      rw [gN_0 (k := k) (by omega)] at hg
      exact hg
    · refine z_iload4 rfl ?_
      refine z_istore (ls1 := [some (.ref 50), some (zi q), some (zi w), some (zi (k : Int)), some (zi (k : Int))]) rfl rfl ?_
      refine z_iinc (c := 1) (e := (k : Int) + 1) (ls1 := [some (.ref 50), some (zi q), some (zi w), some (zi (k : Int)), some (zi ((k : Int) + 1))]) gi_218_65 rfl rfl rfl rfl ?_
      refine z_goto gi_218_68 ?_
      show zW _ _ _ _ [some (.ref 50), some (zi q), some (zi w), some (zi (k : Int)), some (zi ((k : Int) + 1))] [] _ _ _ _
      have hg := ih (k + 1) (by omega) (by omega) K
      rw [gN_1 (k := k) (by omega)] at hg
      exact hg
theorem grassR_1 {X : Nat × (Nat → Int32)} {d : Nat} {J M : zA} {R : zR} {P : zP} {N : Int → Int → Int} {n : Int} (hR : zRoR R) (hA : rN J = N) (hz : J 50 1 = n) (hN : zNr n N) {q w : Int} (hq : 0 ≤ q ∧ q < 10000) (h0 : 0 < n) (K : zW X (d + 6) 218 71 [some (.ref 50), some (zi q), some (zi w), some (zi (gN N (q % 100) (q / 100) n.toNat).1), some (zi n)] [] J M R P) : zW X (d + 6) 218 37 [some (.ref 50), some (zi q), some (zi w), some (zi 0), some (zi 1)] [] J M R P := by
  have h := grassR_z hR hA hz hN (w := w) hq (n.toNat - 1) 1 (by omega) (by decide) K
  rw [gN_1 (Or.inl (by show (-2 : Int) < 0; decide))] at h
  exact h
theorem st_grass {X : Nat × (Nat → Int32)} {d : Nat} {J M : zA} {R : zR} {q w : Int} (hr : Rel X J M R) (hq : -2147483648 ≤ q ∧ q < 2147483648) (hw : -2147483648 ≤ w ∧ w < 2147483648)  : zW X (d + 20) 122 0 (gEn 122 [(.ref 0), (zi q), (zi w)]) [] J M R (stP X (d + 20) 218 [(zi q), (zi w)]) := by
  have hr0 := hr
  obtain ⟨hR, hG, hY, hD, hP, hC, hAc, hS, hTp, hX, hW⟩ := hr0
  have hRr : zRoR R := zRoR_of hR
  have hY0 := hY
  obtain ⟨y1, y2, y3⟩ := hY0
  have yn := zNn y3
  have gk : (J 8 2 = 0 ∧ (gN (cN J) (q % 100) (q / 100) (J 8 2).toNat).1 = -2) ∨ (0 < J 8 2 ∧ 0 ≤ (gN (cN J) (q % 100) (q / 100) (J 8 2).toNat).1 ∧ (gN (cN J) (q % 100) (q / 100) (J 8 2).toNat).1 < J 8 2) := by
    rcases @gN_r (cN J) (q % 100) (q / 100) (J 8 2).toNat with ⟨e, r⟩ | ⟨a, b, c, e⟩
    · rw [r]; exact Or.inl ⟨by omega, rfl⟩
    · exact Or.inr ⟨by omega, b, by omega⟩
  show zW _ _ _ _ [some (.ref 0), some (zi q), some (zi w), none, none, none, none] _ _ _ _ _
  refine z_iload1 rfl ?_
  refine z_cS1 rfl (Nat.le_of_ble_eq_true rfl) gc_144_I ?_
  refine z_iload0 gi_144_0 ?_
  refine z_if_lt gi_144_1 (by omega) (fun h1 => ?_) (fun h1 => ?_)
  · refine z_pushJ gp_144_15 ?_
    refine z_bret0 gi_144_16 gr_144 ?_
    show zW _ _ _ _ _ _ _ _ _ _
    refine z_if_eqT gi_122_4 zr_0 (by decide) ?_
    refine z_pushJ gp_122_14 ?_
    refine z_iret gi_122_15 gr_122 ?_
    refine ⟨_, rfl, ?_⟩
    show zW _ _ _ _ [some (.ref 50), some (zi q), some (zi w), none, none] _ _ _ _ _
    refine z_iload1 gi_218_0 ?_
    refine z_pushJ gp_218_1 ?_
    refine z_pushJ gp_218_2 ?_
    refine z_cS3 gi_218_5 (Nat.le_of_ble_eq_true rfl) gc_148_III ?_
    refine z_iload0 gi_148_0 ?_
    refine z_iload1 gi_148_1 ?_
    refine z_icmp_ltT gi_148_2 (by omega) zr_0 (by omega) ?_
    refine z_pushJ gp_148_14 ?_
    refine z_bret0 gi_148_15 gr_148 ?_
    show zW _ _ _ _ _ _ _ _ _ _
    refine z_if_eqT gi_218_8 zr_0 (by decide) ?_
    refine z_pushJ gp_218_20 ?_
    refine z_iret gi_218_21 gr_218 ?_
    refine ⟨?_, ?_⟩
    · first | rfl | exact congrArg (fun v => some (zi v)) (by omega) | (exfalso; omega)
    · exact hr
  · refine z_iload0 gi_144_4 ?_
    refine z_pushJ gp_144_5 ?_
    refine z_icmp_ge gi_144_8 (by omega) (by decide) (fun h2 => ?_) (fun h2 => ?_)
    · refine z_pushJ gp_144_15 ?_
      refine z_bret0 gi_144_16 gr_144 ?_
      show zW _ _ _ _ _ _ _ _ _ _
      refine z_if_eqT gi_122_4 zr_0 (by decide) ?_
      refine z_pushJ gp_122_14 ?_
      refine z_iret gi_122_15 gr_122 ?_
      refine ⟨_, rfl, ?_⟩
      show zW _ _ _ _ [some (.ref 50), some (zi q), some (zi w), none, none] _ _ _ _ _
      refine z_iload1 gi_218_0 ?_
      refine z_pushJ gp_218_1 ?_
      refine z_pushJ gp_218_2 ?_
      refine z_cS3 gi_218_5 (Nat.le_of_ble_eq_true rfl) gc_148_III ?_
      refine z_iload0 gi_148_0 ?_
      refine z_iload1 gi_148_1 ?_
      refine z_icmp_ltF gi_148_2 (by omega) zr_0 (by omega) ?_
      refine z_iload0 gi_148_5 ?_
      refine z_iload2 gi_148_6 ?_
      refine z_icmp_gtT gi_148_7 (by omega) (by decide) (by omega) ?_
      refine z_pushJ gp_148_14 ?_
      refine z_bret0 gi_148_15 gr_148 ?_
      show zW _ _ _ _ _ _ _ _ _ _
      refine z_if_eqT gi_218_8 zr_0 (by decide) ?_
      refine z_pushJ gp_218_20 ?_
      refine z_iret gi_218_21 gr_218 ?_
      refine ⟨?_, ?_⟩
      · first | rfl | exact congrArg (fun v => some (zi v)) (by omega) | (exfalso; omega)
      · exact hr
    · refine z_pushJ gp_144_11 ?_
      refine z_goto gi_144_12 ?_
      refine z_bret1 gi_144_16 gr_144 ?_
      show zW _ _ _ _ _ _ _ _ _ _
      refine z_if_eqF gi_122_4 zr_1 (by decide) ?_
      refine z_iload2 rfl ?_
      refine z_cS1 rfl (Nat.le_of_ble_eq_true rfl) gc_146_I ?_
      refine z_iload0 gi_146_0 ?_
      refine z_if_eq gi_146_1 (by omega) (fun h3 => ?_) (fun h3 => ?_)
      · refine z_pushJ gp_146_9 ?_
        refine z_goto gi_146_10 ?_
        refine z_bret1 gi_146_14 gr_146 ?_
        show zW _ _ _ _ _ _ _ _ _ _
        refine z_if_neT gi_122_11 zr_1 (by decide) ?_
        refine z_pushJ gp_122_16 ?_
        refine z_istore (ls1 := [some (.ref 0), some (zi q), some (zi w), some (zi (-2)), none, none, none]) gi_122_18 rfl ?_
        refine z_pushJ gp_122_19 ?_
        refine z_istore (ls1 := [some (.ref 0), some (zi q), some (zi w), some (zi (-2)), some (zi 0), none, none]) gi_122_20 rfl ?_
        refine z_pushJ gp_122_22 ?_
        refine z_istore (ls1 := [some (.ref 0), some (zi q), some (zi w), some (zi (-2)), some (zi 0), some (zi 0), none]) gi_122_23 rfl ?_
        show zW _ _ _ _ [some (.ref 0), some (zi q), some (zi w), some (zi (-2)), some (zi 0), some (zi 0), none] [] _ _ _ _
        refine grassC_z (d := d + 14) hR rfl rfl y3 (by omega) (J 8 2).toNat 0 none (by omega) (fun e6 => ?_)
        refine z_iload2 gi_122_80 ?_
        refine z_if_eqT gi_122_81 (by omega) (by omega) ?_
        refine z_iload3 gi_122_88 ?_
        refine z_goto gi_122_89 ?_
        refine z_iret gi_122_100 gr_122 ?_
        refine ⟨_, rfl, ?_⟩
        show zW _ _ _ _ [some (.ref 50), some (zi q), some (zi w), none, none] _ _ _ _ _
        refine z_iload1 gi_218_0 ?_
        refine z_pushJ gp_218_1 ?_
        refine z_pushJ gp_218_2 ?_
        refine z_cS3 gi_218_5 (Nat.le_of_ble_eq_true rfl) gc_148_III ?_
        refine z_iload0 gi_148_0 ?_
        refine z_iload1 gi_148_1 ?_
        refine z_icmp_ltF gi_148_2 (by omega) zr_0 (by omega) ?_
        refine z_iload0 gi_148_5 ?_
        refine z_iload2 gi_148_6 ?_
        refine z_icmp_gtF gi_148_7 (by omega) (by decide) (by omega) ?_
        refine z_pushJ gp_148_10 ?_
        refine z_goto gi_148_11 ?_
        refine z_bret1 gi_148_15 gr_148 ?_
        show zW _ _ _ _ _ _ _ _ _ _
        refine z_if_eqF gi_218_8 zr_1 (by decide) ?_
        refine z_iload2 gi_218_11 ?_
        refine z_pushJ gp_218_12 ?_
        refine z_pushJ gp_218_13 ?_
        refine z_cS3 gi_218_14 (Nat.le_of_ble_eq_true rfl) gc_148_III ?_
        refine z_iload0 gi_148_0 ?_
        refine z_iload1 gi_148_1 ?_
        refine z_icmp_ltF gi_148_2 (by omega) zr_0 (by omega) ?_
        refine z_iload0 gi_148_5 ?_
        refine z_iload2 gi_148_6 ?_
        refine z_icmp_gtF gi_148_7 (by omega) zr_1 (by omega) ?_
        refine z_pushJ gp_148_10 ?_
        refine z_goto gi_148_11 ?_
        refine z_bret1 gi_148_15 gr_148 ?_
        show zW _ _ _ _ _ _ _ _ _ _
        refine z_if_neT gi_218_17 zr_1 (by decide) ?_
        refine z_aload0 gi_218_22 ?_
        refine z_getI (v := J 8 2) gi_218_23 gk_50 (y2.symm) ?_
        refine z_if_ne gi_218_26 (by omega) (fun h4 => ?_) (fun h4 => ?_)
        · refine z_pushJ gp_218_32 ?_
          refine z_istore (ls1 := [some (.ref 50), some (zi q), some (zi w), some (zi 0), none]) gi_218_33 rfl ?_
          refine z_pushJ gp_218_34 ?_
          refine z_istore (ls1 := [some (.ref 50), some (zi q), some (zi w), some (zi 0), some (zi 1)]) gi_218_35 rfl ?_
          show zW _ _ _ _ [some (.ref 50), some (zi q), some (zi w), some (zi 0), some (zi 1)] [] _ _ _ _
          have g1 : (gN (cN J) (q % 100) (q / 100) 1).1 = 0 := by rw [gN_1 (Or.inl (by show (-2 : Int) < 0; decide))]; rfl
          refine grassR_1 hRr y1.symm y2.symm y3 (by omega) (by omega) ?_
          refine z_iload2 gi_218_71 ?_
          refine z_if_neF gi_218_72 (by omega) (by omega) ?_
          refine z_iload3 gi_218_75 ?_
          refine z_goto gi_218_76 ?_
          refine z_iret gi_218_92 gr_218 ?_
          refine ⟨?_, ?_⟩
          · first | rfl | exact congrArg (fun v => some (zi v)) (by omega) | (exfalso; omega)
          · exact hr
        · refine z_pushJ gp_218_29 ?_
          refine z_iret gi_218_31 gr_218 ?_
          refine ⟨?_, ?_⟩
          · first | rfl | exact congrArg (fun v => some (zi v)) (by omega) | (exfalso; omega)
          · exact hr
      · refine z_iload0 gi_146_4 ?_
        refine z_pushJ gp_146_5 ?_
        refine z_icmp_ne gi_146_6 (by omega) zr_1 (fun h4 => ?_) (fun h4 => ?_)
        · refine z_pushJ gp_146_13 ?_
          refine z_bret0 gi_146_14 gr_146 ?_
          show zW _ _ _ _ _ _ _ _ _ _
          refine z_if_neF gi_122_11 zr_0 (by decide) ?_
          refine z_pushJ gp_122_14 ?_
          refine z_iret gi_122_15 gr_122 ?_
          refine ⟨_, rfl, ?_⟩
          show zW _ _ _ _ [some (.ref 50), some (zi q), some (zi w), none, none] _ _ _ _ _
          refine z_iload1 gi_218_0 ?_
          refine z_pushJ gp_218_1 ?_
          refine z_pushJ gp_218_2 ?_
          refine z_cS3 gi_218_5 (Nat.le_of_ble_eq_true rfl) gc_148_III ?_
          refine z_iload0 gi_148_0 ?_
          refine z_iload1 gi_148_1 ?_
          refine z_icmp_ltF gi_148_2 (by omega) zr_0 (by omega) ?_
          refine z_iload0 gi_148_5 ?_
          refine z_iload2 gi_148_6 ?_
          refine z_icmp_gtF gi_148_7 (by omega) (by decide) (by omega) ?_
          refine z_pushJ gp_148_10 ?_
          refine z_goto gi_148_11 ?_
          refine z_bret1 gi_148_15 gr_148 ?_
          show zW _ _ _ _ _ _ _ _ _ _
          refine z_if_eqF gi_218_8 zr_1 (by decide) ?_
          refine z_iload2 gi_218_11 ?_
          refine z_pushJ gp_218_12 ?_
          refine z_pushJ gp_218_13 ?_
          refine z_cS3 gi_218_14 (Nat.le_of_ble_eq_true rfl) gc_148_III ?_
          refine z_iload0 gi_148_0 ?_
          refine z_iload1 gi_148_1 ?_
          refine z_icmp_lt gi_148_2 (by omega) zr_0 (fun h5 => ?_) (fun h5 => ?_)
          · refine z_pushJ gp_148_14 ?_
            refine z_bret0 gi_148_15 gr_148 ?_
            show zW _ _ _ _ _ _ _ _ _ _
            refine z_if_neF gi_218_17 zr_0 (by decide) ?_
            refine z_pushJ gp_218_20 ?_
            refine z_iret gi_218_21 gr_218 ?_
            refine ⟨?_, ?_⟩
            · first | rfl | exact congrArg (fun v => some (zi v)) (by omega) | (exfalso; omega)
            · exact hr
          · refine z_iload0 gi_148_5 ?_
            refine z_iload2 gi_148_6 ?_
            refine z_icmp_gt gi_148_7 (by omega) zr_1 (fun h6 => ?_) (fun h6 => ?_)
            · refine z_pushJ gp_148_14 ?_
              refine z_bret0 gi_148_15 gr_148 ?_
              show zW _ _ _ _ _ _ _ _ _ _
              refine z_if_neF gi_218_17 zr_0 (by decide) ?_
              refine z_pushJ gp_218_20 ?_
              refine z_iret gi_218_21 gr_218 ?_
              refine ⟨?_, ?_⟩
              · first | rfl | exact congrArg (fun v => some (zi v)) (by omega) | (exfalso; omega)
              · exact hr
            · refine z_pushJ gp_148_10 ?_
              refine z_goto gi_148_11 ?_
              refine z_bret1 gi_148_15 gr_148 ?_
              show zW _ _ _ _ _ _ _ _ _ _
              refine z_if_neT gi_218_17 zr_1 (by decide) ?_
              refine z_aload0 gi_218_22 ?_
              refine z_getI (v := J 8 2) gi_218_23 gk_50 (y2.symm) ?_
              refine z_if_ne gi_218_26 (by omega) (fun h7 => ?_) (fun h7 => ?_)
              · refine z_pushJ gp_218_32 ?_
                refine z_istore (ls1 := [some (.ref 50), some (zi q), some (zi w), some (zi 0), none]) gi_218_33 rfl ?_
                refine z_pushJ gp_218_34 ?_
                refine z_istore (ls1 := [some (.ref 50), some (zi q), some (zi w), some (zi 0), some (zi 1)]) gi_218_35 rfl ?_
                show zW _ _ _ _ [some (.ref 50), some (zi q), some (zi w), some (zi 0), some (zi 1)] [] _ _ _ _
                have g1 : (gN (cN J) (q % 100) (q / 100) 1).1 = 0 := by rw [gN_1 (Or.inl (by show (-2 : Int) < 0; decide))]; rfl
                refine grassR_1 hRr y1.symm y2.symm y3 (by omega) (by omega) ?_
                refine z_iload2 gi_218_71 ?_
                refine z_if_ne gi_218_72 (by omega) (fun h8 => ?_) (fun h8 => ?_)
                · refine z_aload0 gi_218_79 ?_
                  refine z_getR (r := 53) gi_218_80 gk_50 (hRr _ rm_50_4 (by decide)) ?_
                  refine z_iload3 gi_218_83 ?_
                  have q9 := zN2 y3 ((gN (cN J) (q % 100) (q / 100) (J 8 2).toNat).1)
                  refine z_iald (v := (cN J) ((gN (cN J) (q % 100) (q / 100) (J 8 2).toNat).1) 2) gi_218_84 gk_53 (by decide) (by omega) (rd_2 (A := J) zK_r y1.symm y2.symm (by omega)) ?_
                  refine z_aload0 gi_218_85 ?_
                  refine z_callVP (As := []) (v := sAll (cN J) (J 8 2).toNat) gi_218_86 rfl gk_50 (Nat.le_of_ble_eq_true rfl) (Nat.le_of_ble_eq_true rfl) (rallOdds_k (A := J) hRr zK_r y1.symm y2.symm y3) ?_
                  have qa := sAll_r y3 (J 8 2).toNat
                  refine z_callSP (As := [_, _]) (v := sShare (cN J) (J 8 2) (gN (cN J) (q % 100) (q / 100) (J 8 2).toNat).1) gi_218_89 rfl (Nat.le_of_ble_eq_true rfl) (Nat.le_of_ble_eq_true rfl) (part_v (by omega) (by omega) (sPart_s y3)) ?_
                  refine z_iret gi_218_92 gr_218 ?_
                  refine ⟨?_, ?_⟩
                  · first | rfl | exact congrArg (fun v => some (zi v)) (by omega) | (exfalso; omega)
                  · exact hr
                · refine z_iload3 gi_218_75 ?_
                  refine z_goto gi_218_76 ?_
                  refine z_iret gi_218_92 gr_218 ?_
                  refine ⟨?_, ?_⟩
                  · first | rfl | exact congrArg (fun v => some (zi v)) (by omega) | (exfalso; omega)
                  · exact hr
              · refine z_pushJ gp_218_29 ?_
                refine z_iret gi_218_31 gr_218 ?_
                refine ⟨?_, ?_⟩
                · first | rfl | exact congrArg (fun v => some (zi v)) (by omega) | (exfalso; omega)
                · exact hr
        · refine z_pushJ gp_146_9 ?_
          refine z_goto gi_146_10 ?_
          refine z_bret1 gi_146_14 gr_146 ?_
          show zW _ _ _ _ _ _ _ _ _ _
          refine z_if_neT gi_122_11 zr_1 (by decide) ?_
          refine z_pushJ gp_122_16 ?_
          refine z_istore (ls1 := [some (.ref 0), some (zi q), some (zi w), some (zi (-2)), none, none, none]) gi_122_18 rfl ?_
          refine z_pushJ gp_122_19 ?_
          refine z_istore (ls1 := [some (.ref 0), some (zi q), some (zi w), some (zi (-2)), some (zi 0), none, none]) gi_122_20 rfl ?_
          refine z_pushJ gp_122_22 ?_
          refine z_istore (ls1 := [some (.ref 0), some (zi q), some (zi w), some (zi (-2)), some (zi 0), some (zi 0), none]) gi_122_23 rfl ?_
          show zW _ _ _ _ [some (.ref 0), some (zi q), some (zi w), some (zi (-2)), some (zi 0), some (zi 0), none] [] _ _ _ _
          refine grassC_z (d := d + 14) hR rfl rfl y3 (by omega) (J 8 2).toNat 0 none (by omega) (fun e6 => ?_)
          refine z_iload2 gi_122_80 ?_
          refine z_if_eqF gi_122_81 (by omega) (by omega) ?_
          refine z_iload3 rfl ?_
          refine z_if_ge rfl (by omega) (fun h5 => ?_) (fun h5 => ?_)
          · refine z_aload0 rfl ?_
            refine z_getR (r := 8) rfl gk_0 (hR _ rm_0_1) ?_
            refine z_iload3 rfl ?_
            refine z_callVP (As := [_]) (v := sShare (cN J) (J 8 2) ((gN (cN J) (q % 100) (q / 100) (J 8 2).toNat).1)) rfl rfl gk_8 (Nat.le_of_ble_eq_true rfl) (Nat.le_of_ble_eq_true rfl) (shareBy_k hR zK_r rfl rfl y3 (by omega)) ?_
            refine z_iret gi_122_100 gr_122 ?_
            refine ⟨_, rfl, ?_⟩
            show zW _ _ _ _ [some (.ref 50), some (zi q), some (zi w), none, none] _ _ _ _ _
            refine z_iload1 gi_218_0 ?_
            refine z_pushJ gp_218_1 ?_
            refine z_pushJ gp_218_2 ?_
            refine z_cS3 gi_218_5 (Nat.le_of_ble_eq_true rfl) gc_148_III ?_
            refine z_iload0 gi_148_0 ?_
            refine z_iload1 gi_148_1 ?_
            refine z_icmp_ltF gi_148_2 (by omega) zr_0 (by omega) ?_
            refine z_iload0 gi_148_5 ?_
            refine z_iload2 gi_148_6 ?_
            refine z_icmp_gtF gi_148_7 (by omega) (by decide) (by omega) ?_
            refine z_pushJ gp_148_10 ?_
            refine z_goto gi_148_11 ?_
            refine z_bret1 gi_148_15 gr_148 ?_
            show zW _ _ _ _ _ _ _ _ _ _
            refine z_if_eqF gi_218_8 zr_1 (by decide) ?_
            refine z_iload2 gi_218_11 ?_
            refine z_pushJ gp_218_12 ?_
            refine z_pushJ gp_218_13 ?_
            refine z_cS3 gi_218_14 (Nat.le_of_ble_eq_true rfl) gc_148_III ?_
            refine z_iload0 gi_148_0 ?_
            refine z_iload1 gi_148_1 ?_
            refine z_icmp_ltF gi_148_2 (by omega) zr_0 (by omega) ?_
            refine z_iload0 gi_148_5 ?_
            refine z_iload2 gi_148_6 ?_
            refine z_icmp_gtF gi_148_7 (by omega) zr_1 (by omega) ?_
            refine z_pushJ gp_148_10 ?_
            refine z_goto gi_148_11 ?_
            refine z_bret1 gi_148_15 gr_148 ?_
            show zW _ _ _ _ _ _ _ _ _ _
            refine z_if_neT gi_218_17 zr_1 (by decide) ?_
            refine z_aload0 gi_218_22 ?_
            refine z_getI (v := J 8 2) gi_218_23 gk_50 (y2.symm) ?_
            refine z_if_ne gi_218_26 (by omega) (fun h6 => ?_) (fun h6 => ?_)
            · refine z_pushJ gp_218_32 ?_
              refine z_istore (ls1 := [some (.ref 50), some (zi q), some (zi w), some (zi 0), none]) gi_218_33 rfl ?_
              refine z_pushJ gp_218_34 ?_
              refine z_istore (ls1 := [some (.ref 50), some (zi q), some (zi w), some (zi 0), some (zi 1)]) gi_218_35 rfl ?_
              show zW _ _ _ _ [some (.ref 50), some (zi q), some (zi w), some (zi 0), some (zi 1)] [] _ _ _ _
              have g1 : (gN (cN J) (q % 100) (q / 100) 1).1 = 0 := by rw [gN_1 (Or.inl (by show (-2 : Int) < 0; decide))]; rfl
              refine grassR_1 hRr y1.symm y2.symm y3 (by omega) (by omega) ?_
              refine z_iload2 gi_218_71 ?_
              refine z_if_neT gi_218_72 (by omega) (by omega) ?_
              refine z_aload0 gi_218_79 ?_
              refine z_getR (r := 53) gi_218_80 gk_50 (hRr _ rm_50_4 (by decide)) ?_
              refine z_iload3 gi_218_83 ?_
              have q7 := zN2 y3 ((gN (cN J) (q % 100) (q / 100) (J 8 2).toNat).1)
              refine z_iald (v := (cN J) ((gN (cN J) (q % 100) (q / 100) (J 8 2).toNat).1) 2) gi_218_84 gk_53 (by decide) (by omega) (rd_2 (A := J) zK_r y1.symm y2.symm (by omega)) ?_
              refine z_aload0 gi_218_85 ?_
              refine z_callVP (As := []) (v := sAll (cN J) (J 8 2).toNat) gi_218_86 rfl gk_50 (Nat.le_of_ble_eq_true rfl) (Nat.le_of_ble_eq_true rfl) (rallOdds_k (A := J) hRr zK_r y1.symm y2.symm y3) ?_
              have qa := sAll_r y3 (J 8 2).toNat
              refine z_callSP (As := [_, _]) (v := sShare (cN J) (J 8 2) (gN (cN J) (q % 100) (q / 100) (J 8 2).toNat).1) gi_218_89 rfl (Nat.le_of_ble_eq_true rfl) (Nat.le_of_ble_eq_true rfl) (part_v (by omega) (by omega) (sPart_s y3)) ?_
              refine z_iret gi_218_92 gr_218 ?_
              refine ⟨?_, ?_⟩
              · first | rfl | exact congrArg (fun v => some (zi v)) (by omega) | (exfalso; omega)
              · exact hr
            · refine z_pushJ gp_218_29 ?_
              refine z_iret gi_218_31 gr_218 ?_
              refine ⟨?_, ?_⟩
              · first | rfl | exact congrArg (fun v => some (zi v)) (by omega) | (exfalso; omega)
              · exact hr
          · refine z_iload3 gi_122_88 ?_
            refine z_goto gi_122_89 ?_
            refine z_iret gi_122_100 gr_122 ?_
            refine ⟨_, rfl, ?_⟩
            show zW _ _ _ _ [some (.ref 50), some (zi q), some (zi w), none, none] _ _ _ _ _
            refine z_iload1 gi_218_0 ?_
            refine z_pushJ gp_218_1 ?_
            refine z_pushJ gp_218_2 ?_
            refine z_cS3 gi_218_5 (Nat.le_of_ble_eq_true rfl) gc_148_III ?_
            refine z_iload0 gi_148_0 ?_
            refine z_iload1 gi_148_1 ?_
            refine z_icmp_ltF gi_148_2 (by omega) zr_0 (by omega) ?_
            refine z_iload0 gi_148_5 ?_
            refine z_iload2 gi_148_6 ?_
            refine z_icmp_gtF gi_148_7 (by omega) (by decide) (by omega) ?_
            refine z_pushJ gp_148_10 ?_
            refine z_goto gi_148_11 ?_
            refine z_bret1 gi_148_15 gr_148 ?_
            show zW _ _ _ _ _ _ _ _ _ _
            refine z_if_eqF gi_218_8 zr_1 (by decide) ?_
            refine z_iload2 gi_218_11 ?_
            refine z_pushJ gp_218_12 ?_
            refine z_pushJ gp_218_13 ?_
            refine z_cS3 gi_218_14 (Nat.le_of_ble_eq_true rfl) gc_148_III ?_
            refine z_iload0 gi_148_0 ?_
            refine z_iload1 gi_148_1 ?_
            refine z_icmp_ltF gi_148_2 (by omega) zr_0 (by omega) ?_
            refine z_iload0 gi_148_5 ?_
            refine z_iload2 gi_148_6 ?_
            refine z_icmp_gtF gi_148_7 (by omega) zr_1 (by omega) ?_
            refine z_pushJ gp_148_10 ?_
            refine z_goto gi_148_11 ?_
            refine z_bret1 gi_148_15 gr_148 ?_
            show zW _ _ _ _ _ _ _ _ _ _
            refine z_if_neT gi_218_17 zr_1 (by decide) ?_
            refine z_aload0 gi_218_22 ?_
            refine z_getI (v := J 8 2) gi_218_23 gk_50 (y2.symm) ?_
            refine z_if_ne gi_218_26 (by omega) (fun h6 => ?_) (fun h6 => ?_)
            · refine z_pushJ gp_218_32 ?_
              refine z_istore (ls1 := [some (.ref 50), some (zi q), some (zi w), some (zi 0), none]) gi_218_33 rfl ?_
              refine z_pushJ gp_218_34 ?_
              refine z_istore (ls1 := [some (.ref 50), some (zi q), some (zi w), some (zi 0), some (zi 1)]) gi_218_35 rfl ?_
              show zW _ _ _ _ [some (.ref 50), some (zi q), some (zi w), some (zi 0), some (zi 1)] [] _ _ _ _
              have g1 : (gN (cN J) (q % 100) (q / 100) 1).1 = 0 := by rw [gN_1 (Or.inl (by show (-2 : Int) < 0; decide))]; rfl
              refine grassR_1 hRr y1.symm y2.symm y3 (by omega) (by omega) ?_
              refine z_iload2 gi_218_71 ?_
              refine z_if_neT gi_218_72 (by omega) (by omega) ?_
              refine z_aload0 gi_218_79 ?_
              refine z_getR (r := 53) gi_218_80 gk_50 (hRr _ rm_50_4 (by decide)) ?_
              refine z_iload3 gi_218_83 ?_
              have q7 := zN2 y3 ((gN (cN J) (q % 100) (q / 100) (J 8 2).toNat).1)
              refine z_iald (v := (cN J) ((gN (cN J) (q % 100) (q / 100) (J 8 2).toNat).1) 2) gi_218_84 gk_53 (by decide) (by omega) (rd_2 (A := J) zK_r y1.symm y2.symm (by omega)) ?_
              refine z_aload0 gi_218_85 ?_
              refine z_callVP (As := []) (v := sAll (cN J) (J 8 2).toNat) gi_218_86 rfl gk_50 (Nat.le_of_ble_eq_true rfl) (Nat.le_of_ble_eq_true rfl) (rallOdds_k (A := J) hRr zK_r y1.symm y2.symm y3) ?_
              have qa := sAll_r y3 (J 8 2).toNat
              refine z_callSP (As := [_, _]) (v := sShare (cN J) (J 8 2) (gN (cN J) (q % 100) (q / 100) (J 8 2).toNat).1) gi_218_89 rfl (Nat.le_of_ble_eq_true rfl) (Nat.le_of_ble_eq_true rfl) (part_v (by omega) (by omega) (sPart_s y3)) ?_
              refine z_iret gi_218_92 gr_218 ?_
              refine ⟨?_, ?_⟩
              · first | rfl | exact congrArg (fun v => some (zi v)) (by omega) | (exfalso; omega)
              · exact hr
            · refine z_pushJ gp_218_29 ?_
              refine z_iret gi_218_31 gr_218 ?_
              refine ⟨?_, ?_⟩
              · first | rfl | exact congrArg (fun v => some (zi v)) (by omega) | (exfalso; omega)
              · exact hr
