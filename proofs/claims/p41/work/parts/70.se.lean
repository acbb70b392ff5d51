theorem ab_s {a b : Int} : ab (a - b) = ab (b - a) := by unfold ab; split <;> split <;> omega
noncomputable def sSeen (N : Int → Int → Int) (x y r : Int) : Nat → Int
  | 0 => 0
  | k + 1 => if sYards N x y k ≤ r then zor (sSeen N x y r k) (zshl 1 k) else sSeen N x y r k
theorem sSeen_1 {N : Int → Int → Int} {x y r : Int} {k : Nat} (h : sYards N x y k ≤ r) : zor (sSeen N x y r k) (zshl 1 k) = sSeen N x y r (k + 1) := by
  show _ = if sYards N x y k ≤ r then _ else _
  rw [if_pos h]
theorem sSeen_0 {N : Int → Int → Int} {x y r : Int} {k : Nat} (h : ¬ sYards N x y k ≤ r) : sSeen N x y r k = sSeen N x y r (k + 1) := by
  show _ = if sYards N x y k ≤ r then _ else _
  rw [if_neg h]
theorem seenC_z {X : Nat × (Nat → Int32)} {d : Nat} {J M : zA} {R : zR} {P : zP} {N : Int → Int → Int} {n : Int} (hR : zRok R) (hA : cN J = N) (hz : J 8 2 = n) (hN : zNr n N) {q r : Int} (hq : 0 ≤ q ∧ q < 10000) (hr : 0 ≤ r ∧ r ≤ 99) : ∀ (j k : Nat), (k : Int) + j = n → zW X (d + 6) 116 70 [some (.ref 0), some (zi q), some (zi r), some (zi (sSeen N (q % 100) (q / 100) r n.toNat)), some (zi n)] [] J M R P → zW X (d + 6) 116 24 [some (.ref 0), some (zi q), some (zi r), some (zi (sSeen N (q % 100) (q / 100) r k)), some (zi (k : Int))] [] J M R P := by
  intro j
  induction j with
  | zero =>
    intro k hk K
    have qn := zNn hN
    refine z_iload rfl rfl ?_
    refine z_aload rfl rfl ?_
    refine z_getR (r := 8) rfl rfl (hR _ rm_0_1) ?_
    refine z_getI (v := n) rfl rfl (hz) ?_
    refine z_icmp_geT rfl (by omega) (by omega) (by omega) ?_
    obtain rfl : n = (k : Int) := by omega
    exact K
  | succ j ih =>
    intro k hk K
    have qn := zNn hN
    refine z_iload4 rfl ?_
    refine z_aload0 rfl ?_
    refine z_getR (r := 8) rfl gk_0 (hR _ rm_0_1) ?_
    refine z_getI (v := n) rfl gk_8 (hz) ?_
    refine z_icmp_geF rfl (by omega) (by omega) (by omega) ?_
    refine z_aload0 rfl ?_
    refine z_getR (r := 8) rfl gk_0 (hR _ rm_0_1) ?_
    refine z_iload1 rfl ?_
    refine z_pushJ gp_116_41 ?_
    refine z_irem (e := q % 100) rfl (by omega) (by omega) rfl ?_
    refine z_iload1 rfl ?_
    refine z_pushJ gp_116_45 ?_
    refine z_idiv (e := q / 100) rfl (by omega) (by omega) rfl ?_
    refine z_iload4 rfl ?_
    refine z_callVP (As := [_, _, _]) (v := sYards N (q % 100) (q / 100) (k : Int)) rfl rfl gk_8 (Nat.le_of_ble_eq_true rfl) (Nat.le_of_ble_eq_true rfl) (yardsFrom_k hR zK_r hA hz hN (by omega) (by omega) (by omega)) ?_
    have qy := sYards_r hN (x := q % 100) (y := q / 100) (p := (k : Int)) (by omega) (by omega)
    refine z_iload2 rfl ?_
    refine z_icmp_gt rfl (by omega) (by omega) (fun h1 => ?_) (fun h1 => ?_)
    · refine z_iinc (c := 1) (e := (k : Int) + 1) (ls1 := [some (.ref 0), some (zi q), some (zi r), some (zi (sSeen N (q % 100) (q / 100) r k)), some (zi ((k : Int) + 1))]) gi_116_64 rfl rfl rfl rfl ?_
      refine z_goto gi_116_67 ?_
      show zW _ _ _ _ [some (.ref 0), some (zi q), some (zi r), some (zi (sSeen N (q % 100) (q / 100) r k)), some (zi ((k : Int) + 1))] [] _ _ _ _
      rw [sSeen_0 (k := k) (by omega)]
      exact ih (k + 1) (by omega) K
    · refine z_iload3 rfl ?_
      refine z_pushJ gp_116_58 ?_
      refine z_iload4 rfl ?_
      refine z_ishl (e := zshl 1 (k : Int)) rfl rfl ?_
      refine z_ior (e := zor (sSeen N (q % 100) (q / 100) r k) (zshl 1 (k : Int))) rfl rfl ?_
      refine z_istore (ls1 := [some (.ref 0), some (zi q), some (zi r), some (zi (zor (sSeen N (q % 100) (q / 100) r k) (zshl 1 (k : Int)))), some (zi (k : Int))]) rfl rfl ?_
      refine z_iinc (c := 1) (e := (k : Int) + 1) (ls1 := [some (.ref 0), some (zi q), some (zi r), some (zi (zor (sSeen N (q % 100) (q / 100) r k) (zshl 1 (k : Int)))), some (zi ((k : Int) + 1))]) gi_116_64 rfl rfl rfl rfl ?_
      refine z_goto gi_116_67 ?_
      show zW _ _ _ _ [some (.ref 0), some (zi q), some (zi r), some (zi (zor (sSeen N (q % 100) (q / 100) r k) (zshl 1 (k : Int)))), some (zi ((k : Int) + 1))] [] _ _ _ _
      rw [sSeen_1 (k := k) (by omega)]
      exact ih (k + 1) (by omega) K
theorem apartFrom_k {X : Nat × (Nat → Int32)} {d : Nat} {J M : zA} {R : zR} {N : Int → Int → Int} {n : Int} (hR : zRoR R) (hA : rN J = N) (hz : J 50 1 = n) (hN : zNr n N) {p q : Int} (hp : 0 ≤ p ∧ p < n) (hq : 0 ≤ q ∧ q < 10000) : zW X (d + 2) 208 0 (gEn 208 [(.ref 50), (zi p), (zi q)]) [] J M R (zPu (sYards N (q % 100) (q / 100) p) J M R) := by
  have hJ : zK kT J J := zK_r
  have qn := zNn hN
  show zW _ _ _ _ [some (.ref 50), some (zi p), some (zi q)] _ _ _ _ _
  refine z_aload0 rfl ?_
  refine z_getR (r := 51) rfl gk_50 (hR _ rm_50_2 (by decide)) ?_
  refine z_iload1 rfl ?_
  have q1 := zN0 hN p
  refine z_iald (v := N p 0) rfl gk_51 (by decide) (by omega) (rd_0 hJ hA hz (by omega)) ?_
  refine z_iload2 rfl ?_
  refine z_pushJ gp_208_7 ?_
  refine z_irem (e := q % 100) rfl (by omega) (by omega) rfl ?_
  refine z_callSP (As := [_, _]) (v := ab ((N p 0) - q % 100)) rfl rfl (Nat.le_of_ble_eq_true rfl) (Nat.le_of_ble_eq_true rfl) (apart_k (by omega) (by omega)) ?_
  have q2 := @ab_r ((N p 0) - q % 100)
  refine z_aload0 rfl ?_
  refine z_getR (r := 52) rfl gk_50 (hR _ rm_50_3 (by decide)) ?_
  refine z_iload1 rfl ?_
  have q3 := zN1 hN p
  refine z_iald (v := N p 1) rfl gk_52 (by decide) (by omega) (rd_1 hJ hA hz (by omega)) ?_
  refine z_iload2 rfl ?_
  refine z_pushJ gp_208_20 ?_
  refine z_idiv (e := q / 100) rfl (by omega) (by omega) rfl ?_
  refine z_callSP (As := [_, _]) (v := ab ((N p 1) - q / 100)) rfl rfl (Nat.le_of_ble_eq_true rfl) (Nat.le_of_ble_eq_true rfl) (apart_k (by omega) (by omega)) ?_
  have q4 := @ab_r ((N p 1) - q / 100)
  refine z_iadd (e := (ab ((N p 0) - q % 100)) + (ab ((N p 1) - q / 100))) rfl rfl ?_
  refine z_iret rfl gr_208 ?_
  refine ⟨congrArg (fun v => some (zi v)) ?_, rfl, rfl, rfl⟩
  unfold sYards
  rw [ab_s, @ab_s (N p 1)]
theorem seenR_z {X : Nat × (Nat → Int32)} {d : Nat} {J M : zA} {R : zR} {P : zP} {N : Int → Int → Int} {n : Int} (hR : zRoR R) (hA : rN J = N) (hz : J 50 1 = n) (hN : zNr n N) {q r : Int} (hq : 0 ≤ q ∧ q < 10000) (hr : 0 ≤ r ∧ r ≤ 99) : ∀ (j k : Nat), (k : Int) + j = n → zW X (d + 6) 209 61 [some (.ref 50), some (zi q), some (zi r), some (zi (sSeen N (q % 100) (q / 100) r n.toNat)), some (zi n)] [] J M R P → zW X (d + 6) 209 28 [some (.ref 50), some (zi q), some (zi r), some (zi (sSeen N (q % 100) (q / 100) r k)), some (zi (k : Int))] [] J M R P := by
  intro j
  induction j with
  | zero =>
    intro k hk K
    have qn := zNn hN
    refine z_iload rfl rfl ?_
    refine z_aload rfl rfl ?_
    refine z_getI (v := n) rfl rfl (hz) ?_
    refine z_icmp_geT rfl (by omega) (by omega) (by omega) ?_
    obtain rfl : n = (k : Int) := by omega
    exact K
  | succ j ih =>
    intro k hk K
    have qn := zNn hN
    refine z_iload4 rfl ?_
    refine z_aload0 rfl ?_
    refine z_getI (v := n) rfl gk_50 (hz) ?_
    refine z_icmp_geF rfl (by omega) (by omega) (by omega) ?_
    refine z_aload0 rfl ?_
    refine z_iload4 rfl ?_
    refine z_iload1 rfl ?_
    refine z_callVP (As := [_, _]) (v := sYards N (q % 100) (q / 100) (k : Int)) rfl rfl gk_50 (Nat.le_of_ble_eq_true rfl) (Nat.le_of_ble_eq_true rfl) (apartFrom_k hR hA hz hN (by omega) (by omega)) ?_
    have qy := sYards_r hN (x := q % 100) (y := q / 100) (p := (k : Int)) (by omega) (by omega)
    refine z_iload2 rfl ?_
    refine z_icmp_gt rfl (by omega) (by omega) (fun h1 => ?_) (fun h1 => ?_)
    · refine z_iinc (c := 1) (e := (k : Int) + 1) (ls1 := [some (.ref 50), some (zi q), some (zi r), some (zi (sSeen N (q % 100) (q / 100) r k)), some (zi ((k : Int) + 1))]) gi_209_55 rfl rfl rfl rfl ?_
      refine z_goto gi_209_58 ?_
      show zW _ _ _ _ [some (.ref 50), some (zi q), some (zi r), some (zi (sSeen N (q % 100) (q / 100) r k)), some (zi ((k : Int) + 1))] [] _ _ _ _
      rw [sSeen_0 (k := k) (by omega)]
      exact ih (k + 1) (by omega) K
    · refine z_iload3 rfl ?_
      refine z_pushJ gp_209_49 ?_
      refine z_iload4 rfl ?_
      refine z_ishl (e := zshl 1 (k : Int)) rfl rfl ?_
      refine z_ior (e := zor (sSeen N (q % 100) (q / 100) r k) (zshl 1 (k : Int))) rfl rfl ?_
      refine z_istore (ls1 := [some (.ref 50), some (zi q), some (zi r), some (zi (zor (sSeen N (q % 100) (q / 100) r k) (zshl 1 (k : Int)))), some (zi (k : Int))]) rfl rfl ?_
      refine z_iinc (c := 1) (e := (k : Int) + 1) (ls1 := [some (.ref 50), some (zi q), some (zi r), some (zi (zor (sSeen N (q % 100) (q / 100) r k) (zshl 1 (k : Int)))), some (zi ((k : Int) + 1))]) gi_209_55 rfl rfl rfl rfl ?_
      refine z_goto gi_209_58 ?_
      show zW _ _ _ _ [some (.ref 50), some (zi q), some (zi r), some (zi (zor (sSeen N (q % 100) (q / 100) r k) (zshl 1 (k : Int)))), some (zi ((k : Int) + 1))] [] _ _ _ _
      rw [sSeen_1 (k := k) (by omega)]
      exact ih (k + 1) (by omega) K
theorem st_seen {X : Nat × (Nat → Int32)} {d : Nat} {J M : zA} {R : zR} {q u : Int} (hr : Rel X J M R) (hq : -2147483648 ≤ q ∧ q < 2147483648) (hu : -2147483648 ≤ u ∧ u < 2147483648)  : zW X (d + 20) 116 0 (gEn 116 [(.ref 0), (zi q), (zi u)]) [] J M R (stP X (d + 20) 209 [(zi q), (zi u)]) := by
  have hr0 := hr
  obtain ⟨hR, hG, hY, hD, hP, hC, hAc, hS, hTp, hX, hW⟩ := hr0
  have hRr : zRoR R := zRoR_of hR
  have hY0 := hY
  obtain ⟨y1, y2, y3⟩ := hY0
  have yn := zNn y3
  show zW _ _ _ _ [some (.ref 0), some (zi q), some (zi u), none, none] _ _ _ _ _
  refine z_iload1 rfl ?_
  refine z_cS1 rfl (Nat.le_of_ble_eq_true rfl) gc_144_I ?_
  refine z_iload0 gi_144_0 ?_
  refine z_if_lt gi_144_1 (by omega) (fun h1 => ?_) (fun h1 => ?_)
  · refine z_pushJ gp_144_15 ?_
    refine z_bret0 gi_144_16 gr_144 ?_
    show zW _ _ _ _ _ _ _ _ _ _
    refine z_if_eqT gi_116_4 zr_0 (by decide) ?_
    refine z_pushJ gp_116_17 ?_
    refine z_iret gi_116_18 gr_116 ?_
    refine ⟨_, rfl, ?_⟩
    show zW _ _ _ _ [some (.ref 50), some (zi q), some (zi u), none, none] _ _ _ _ _
    refine z_iload1 gi_209_0 ?_
    refine z_pushJ gp_209_1 ?_
    refine z_pushJ gp_209_2 ?_
    refine z_cS3 gi_209_5 (Nat.le_of_ble_eq_true rfl) gc_148_III ?_
    refine z_iload0 gi_148_0 ?_
    refine z_iload1 gi_148_1 ?_
    refine z_icmp_ltT gi_148_2 (by omega) zr_0 (by omega) ?_
    refine z_pushJ gp_148_14 ?_
    refine z_bret0 gi_148_15 gr_148 ?_
    show zW _ _ _ _ _ _ _ _ _ _
    refine z_if_eqT gi_209_8 zr_0 (by decide) ?_
    refine z_pushJ gp_209_21 ?_
    refine z_iret gi_209_22 gr_209 ?_
    refine ⟨?_, ?_⟩
    · first | rfl | exact congrArg (fun v => some (zi v)) (by omega) | (exfalso; omega)
    · exact hr
  · refine z_iload0 gi_144_4 ?_
    refine z_pushJ gp_144_5 ?_
    refine z_icmp_ge gi_144_8 (by omega) (by decide) (fun h2 => ?_) (fun h2 => ?_)
    · refine z_pushJ gp_144_15 ?_
      refine z_bret0 gi_144_16 gr_144 ?_
      show zW _ _ _ _ _ _ _ _ _ _
      refine z_if_eqT gi_116_4 zr_0 (by decide) ?_
      refine z_pushJ gp_116_17 ?_
      refine z_iret gi_116_18 gr_116 ?_
      refine ⟨_, rfl, ?_⟩
      show zW _ _ _ _ [some (.ref 50), some (zi q), some (zi u), none, none] _ _ _ _ _
      refine z_iload1 gi_209_0 ?_
      refine z_pushJ gp_209_1 ?_
      refine z_pushJ gp_209_2 ?_
      refine z_cS3 gi_209_5 (Nat.le_of_ble_eq_true rfl) gc_148_III ?_
      refine z_iload0 gi_148_0 ?_
      refine z_iload1 gi_148_1 ?_
      refine z_icmp_ltF gi_148_2 (by omega) zr_0 (by omega) ?_
      refine z_iload0 gi_148_5 ?_
      refine z_iload2 gi_148_6 ?_
      refine z_icmp_gtT gi_148_7 (by omega) (by decide) (by omega) ?_
      refine z_pushJ gp_148_14 ?_
      refine z_bret0 gi_148_15 gr_148 ?_
      show zW _ _ _ _ _ _ _ _ _ _
      refine z_if_eqT gi_209_8 zr_0 (by decide) ?_
      refine z_pushJ gp_209_21 ?_
      refine z_iret gi_209_22 gr_209 ?_
      refine ⟨?_, ?_⟩
      · first | rfl | exact congrArg (fun v => some (zi v)) (by omega) | (exfalso; omega)
      · exact hr
    · refine z_pushJ gp_144_11 ?_
      refine z_goto gi_144_12 ?_
      refine z_bret1 gi_144_16 gr_144 ?_
      show zW _ _ _ _ _ _ _ _ _ _
      refine z_if_eqF gi_116_4 zr_1 (by decide) ?_
      refine z_iload2 rfl ?_
      refine z_if_lt rfl (by omega) (fun h3 => ?_) (fun h3 => ?_)
      · refine z_pushJ gp_116_17 ?_
        refine z_iret gi_116_18 gr_116 ?_
        refine ⟨_, rfl, ?_⟩
        show zW _ _ _ _ [some (.ref 50), some (zi q), some (zi u), none, none] _ _ _ _ _
        refine z_iload1 gi_209_0 ?_
        refine z_pushJ gp_209_1 ?_
        refine z_pushJ gp_209_2 ?_
        refine z_cS3 gi_209_5 (Nat.le_of_ble_eq_true rfl) gc_148_III ?_
        refine z_iload0 gi_148_0 ?_
        refine z_iload1 gi_148_1 ?_
        refine z_icmp_ltF gi_148_2 (by omega) zr_0 (by omega) ?_
        refine z_iload0 gi_148_5 ?_
        refine z_iload2 gi_148_6 ?_
        refine z_icmp_gtF gi_148_7 (by omega) (by decide) (by omega) ?_
        refine z_pushJ gp_148_10 ?_
        refine z_goto gi_148_11 ?_
        refine z_bret1 gi_148_15 gr_148 ?_
        show zW _ _ _ _ _ _ _ _ _ _
        refine z_if_eqF gi_209_8 zr_1 (by decide) ?_
        refine z_iload2 gi_209_11 ?_
        refine z_pushJ gp_209_12 ?_
        refine z_pushJ gp_209_13 ?_
        refine z_cS3 gi_209_15 (Nat.le_of_ble_eq_true rfl) gc_148_III ?_
        refine z_iload0 gi_148_0 ?_
        refine z_iload1 gi_148_1 ?_
        refine z_icmp_ltT gi_148_2 (by omega) zr_0 (by omega) ?_
        refine z_pushJ gp_148_14 ?_
        refine z_bret0 gi_148_15 gr_148 ?_
        show zW _ _ _ _ _ _ _ _ _ _
        refine z_if_neF gi_209_18 zr_0 (by decide) ?_
        refine z_pushJ gp_209_21 ?_
        refine z_iret gi_209_22 gr_209 ?_
        refine ⟨?_, ?_⟩
        · first | rfl | exact congrArg (fun v => some (zi v)) (by omega) | (exfalso; omega)
        · exact hr
      · refine z_iload2 rfl ?_
        refine z_pushJ gp_116_12 ?_
        refine z_icmp_le rfl (by omega) zr_99 (fun h4 => ?_) (fun h4 => ?_)
        · refine z_pushJ gp_116_19 ?_
          refine z_istore (ls1 := [some (.ref 0), some (zi q), some (zi u), some (zi 0), none]) rfl rfl ?_
          refine z_pushJ gp_116_21 ?_
          refine z_istore (ls1 := [some (.ref 0), some (zi q), some (zi u), some (zi 0), some (zi 0)]) rfl rfl ?_
          show zW _ _ _ _ [some (.ref 0), some (zi q), some (zi u), some (zi 0), some (zi 0)] [] _ _ _ _
          refine seenC_z (d := d + 14) hR rfl rfl y3 (by omega) (by omega) (J 8 2).toNat 0 (by omega) ?_
          refine z_iload3 rfl ?_
          refine z_iret rfl gr_116 ?_
          refine ⟨_, rfl, ?_⟩
          show zW _ _ _ _ [some (.ref 50), some (zi q), some (zi u), none, none] _ _ _ _ _
          refine z_iload1 gi_209_0 ?_
          refine z_pushJ gp_209_1 ?_
          refine z_pushJ gp_209_2 ?_
          refine z_cS3 gi_209_5 (Nat.le_of_ble_eq_true rfl) gc_148_III ?_
          refine z_iload0 gi_148_0 ?_
          refine z_iload1 gi_148_1 ?_
          refine z_icmp_ltF gi_148_2 (by omega) zr_0 (by omega) ?_
          refine z_iload0 gi_148_5 ?_
          refine z_iload2 gi_148_6 ?_
          refine z_icmp_gtF gi_148_7 (by omega) (by decide) (by omega) ?_
          refine z_pushJ gp_148_10 ?_
          refine z_goto gi_148_11 ?_
          refine z_bret1 gi_148_15 gr_148 ?_
          show zW _ _ _ _ _ _ _ _ _ _
          refine z_if_eqF gi_209_8 zr_1 (by decide) ?_
          refine z_iload2 gi_209_11 ?_
          refine z_pushJ gp_209_12 ?_
          refine z_pushJ gp_209_13 ?_
          refine z_cS3 gi_209_15 (Nat.le_of_ble_eq_true rfl) gc_148_III ?_
          refine z_iload0 gi_148_0 ?_
          refine z_iload1 gi_148_1 ?_
          refine z_icmp_ltF gi_148_2 (by omega) zr_0 (by omega) ?_
          refine z_iload0 gi_148_5 ?_
          refine z_iload2 gi_148_6 ?_
          refine z_icmp_gtF gi_148_7 (by omega) zr_99 (by omega) ?_
          refine z_pushJ gp_148_10 ?_
          refine z_goto gi_148_11 ?_
          refine z_bret1 gi_148_15 gr_148 ?_
          show zW _ _ _ _ _ _ _ _ _ _
          refine z_if_neT gi_209_18 zr_1 (by decide) ?_
          refine z_pushJ gp_209_23 ?_
          refine z_istore (ls1 := [some (.ref 50), some (zi q), some (zi u), some (zi 0), none]) rfl rfl ?_
          refine z_pushJ gp_209_25 ?_
          refine z_istore (ls1 := [some (.ref 50), some (zi q), some (zi u), some (zi 0), some (zi 0)]) rfl rfl ?_
          show zW _ _ _ _ [some (.ref 50), some (zi q), some (zi u), some (zi 0), some (zi 0)] [] _ _ _ _
          refine seenR_z (d := d + 14) hRr y1.symm y2.symm y3 (by omega) (by omega) (J 8 2).toNat 0 (by omega) ?_
          refine z_iload3 rfl ?_
          refine z_iret rfl gr_209 ?_
          refine ⟨?_, ?_⟩
          · first | rfl | exact congrArg (fun v => some (zi v)) (by omega) | (exfalso; omega)
          · exact hr
        · refine z_pushJ gp_116_17 ?_
          refine z_iret gi_116_18 gr_116 ?_
          refine ⟨_, rfl, ?_⟩
          show zW _ _ _ _ [some (.ref 50), some (zi q), some (zi u), none, none] _ _ _ _ _
          refine z_iload1 gi_209_0 ?_
          refine z_pushJ gp_209_1 ?_
          refine z_pushJ gp_209_2 ?_
          refine z_cS3 gi_209_5 (Nat.le_of_ble_eq_true rfl) gc_148_III ?_
          refine z_iload0 gi_148_0 ?_
          refine z_iload1 gi_148_1 ?_
          refine z_icmp_ltF gi_148_2 (by omega) zr_0 (by omega) ?_
          refine z_iload0 gi_148_5 ?_
          refine z_iload2 gi_148_6 ?_
          refine z_icmp_gtF gi_148_7 (by omega) (by decide) (by omega) ?_
          refine z_pushJ gp_148_10 ?_
          refine z_goto gi_148_11 ?_
          refine z_bret1 gi_148_15 gr_148 ?_
          show zW _ _ _ _ _ _ _ _ _ _
          refine z_if_eqF gi_209_8 zr_1 (by decide) ?_
          refine z_iload2 gi_209_11 ?_
          refine z_pushJ gp_209_12 ?_
          refine z_pushJ gp_209_13 ?_
          refine z_cS3 gi_209_15 (Nat.le_of_ble_eq_true rfl) gc_148_III ?_
          refine z_iload0 gi_148_0 ?_
          refine z_iload1 gi_148_1 ?_
          refine z_icmp_ltF gi_148_2 (by omega) zr_0 (by omega) ?_
          refine z_iload0 gi_148_5 ?_
          refine z_iload2 gi_148_6 ?_
          refine z_icmp_gtT gi_148_7 (by omega) zr_99 (by omega) ?_
          refine z_pushJ gp_148_14 ?_
          refine z_bret0 gi_148_15 gr_148 ?_
          show zW _ _ _ _ _ _ _ _ _ _
          refine z_if_neF gi_209_18 zr_0 (by decide) ?_
          refine z_pushJ gp_209_21 ?_
          refine z_iret gi_209_22 gr_209 ?_
          refine ⟨?_, ?_⟩
          · first | rfl | exact congrArg (fun v => some (zi v)) (by omega) | (exfalso; omega)
          · exact hr
