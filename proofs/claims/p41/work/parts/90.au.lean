theorem nextR_z {X : Nat × (Nat → Int32)} {d : Nat} {M : zA} {R : zR} {P : zP} (hR : zRoR R) {A : zA} {N : Int → Int → Int} {n : Int} (hA : rN A = N) (hz : A 50 1 = n) (hN : zNr n N) {T : zX} (hT : LawR X A T) (hTr : Tok T) {S : tR} {g : Int} (hc : rTg A n S g) (hi : tI n S 30) {s q v : Int} (hq : 1 ≤ q ∧ q ≤ 99) (K2 : (∀ (e7 : Option Value) (J2 : zA), zK kT A J2 → zW X (d + 8) 202 137 [some (.ref 50), some (zi s), some (zi q), some (zi v), some (zi ((nx (fun p => gro T N S p q) n.toNat).1)), some (zi ((nx (fun p => gro T N S p q) n.toNat).2)), some (zi n), e7] [] J2 M R P)) : ∀ (j k : Nat) (e7 : Option Value) (J : zA), zK kT A J → (k : Int) + j = n → zW X (d + 8) 202 61 [some (.ref 50), some (zi s), some (zi q), some (zi v), some (zi ((nx (fun p => gro T N S p q) k).1)), some (zi ((nx (fun p => gro T N S p q) k).2)), some (zi (k : Int)), e7] [] J M R P := by
  have qn := zNn hN
  have qi := hi.2.2
  have hgr : ∀ p, (gro T N S p q = -2 ∨ 0 ≤ gro T N S p q) ∧ gro T N S p q ≤ 1000000000 := fun p => gro_r hN hi hq
  intro j
  induction j with
  | zero =>
    intro k e7 J hJ hk
    refine z_iload rfl rfl ?_
    refine z_aload rfl rfl ?_
    refine z_getI (v := n) rfl rfl ((hJ 50 1 rfl).trans hz) ?_
    refine z_icmp_geT rfl (by omega) (by omega) (by omega) ?_
    obtain rfl : n = (k : Int) := by omega
    exact K2 e7 J hJ
  | succ j ih =>
    intro k e7 J hJ hk
    have gk := @nx_r (fun p => gro T N S p q) hgr k
    have gp := hgr (k : Int)
    have ts : tst N S (k : Int) = tmi S + sWay N (tat S) (k : Int) := rfl
    refine z_iload6 rfl ?_
    refine z_aload0 rfl ?_
    refine z_getI (v := n) rfl gk_50 ((hJ 50 1 rfl).trans hz) ?_
    refine z_icmp_geF rfl (by omega) (by omega) (by omega) ?_
    refine z_aload0 rfl ?_
    refine z_iload6 rfl ?_
    refine z_iload2 rfl ?_
    refine z_cV2 rfl gk_50 go_190 (Nat.le_of_ble_eq_true rfl) gc_190_RII ?_
    refine z_aload0 gi_190_0 ?_
    refine z_getI (v := tmi S) gi_190_1 gk_50 ((hJ 50 31 rfl).trans hc.2.2.1) ?_
    refine z_aload0 gi_190_4 ?_
    refine z_iload1 gi_190_5 ?_
    refine z_callVP (As := [_]) (v := sWay N (tat S) (k : Int)) gi_190_6 rfl gk_50 (Nat.le_of_ble_eq_true rfl) (Nat.le_of_ble_eq_true rfl) (wayTo_g hR hJ hA hz hN hc.2.1 (by omega) (by omega)) ?_
    have q1 := sWay_r hN (f := tat S) (p := (k : Int))
    refine z_iadd (e := (tmi S) + (sWay N (tat S) (k : Int))) gi_190_9 rfl ?_
    refine z_iload2 gi_190_10 ?_
    refine z_iadd (e := (tmi S) + (sWay N (tat S) (k : Int)) + q) gi_190_11 rfl ?_
    refine z_pushJ gp_190_12 ?_
    refine z_icmp_gt gi_190_15 (by omega) (by decide) (fun h2 => ?_) (fun h2 => ?_)
    · refine z_pushJ gp_190_22 ?_
      refine z_bret0 gi_190_23 gr_190 ?_
      show zW _ _ _ _ _ _ _ _ _ _
      refine z_if_neF gi_202_77 zr_0 (by decide) ?_
      refine z_goto rfl ?_
      refine z_iinc (c := 1) (e := (k : Int) + 1) (ls1 := [some (.ref 50), some (zi s), some (zi q), some (zi v), some (zi ((nx (fun p => gro T N S p q) k).1)), some (zi ((nx (fun p => gro T N S p q) k).2)), some (zi ((k : Int) + 1)), e7]) gi_202_131 rfl rfl rfl rfl ?_
      refine z_goto gi_202_134 ?_
      show zW _ _ _ _ [some (.ref 50), some (zi s), some (zi q), some (zi v), some (zi ((nx (fun p => gro T N S p q) k).1)), some (zi ((nx (fun p => gro T N S p q) k).2)), some (zi ((k : Int) + 1)), e7] [] _ _ _ _
      have e := gro_0 (T := T) (N := N) (S := S) (p := (k : Int)) (q := q) (by omega)
      have hg := ih (k + 1) e7 J hJ (by omega)
      rw [nx_0 (g := (fun p => gro T N S p q)) (k := k) (by show ¬ (nx (fun p => gro T N S p q) k).2 < gro T N S (k : Int) q; omega)] at hg
      exact hg
    · refine z_pushJ gp_190_18 ?_
      refine z_goto gi_190_19 ?_
      refine z_bret1 gi_190_23 gr_190 ?_
      show zW _ _ _ _ _ _ _ _ _ _
      refine z_if_neT gi_202_77 zr_1 (by decide) ?_
      refine z_aload0 rfl ?_
      refine z_iload6 rfl ?_
      refine z_iload2 rfl ?_
      refine z_callVk (As := [_, _]) (v := tsh S (k : Int) - lB T N (k : Int) q.toNat (tsh S (k : Int)) (tli S (k : Int)) (tst N S (k : Int))) rfl rfl gk_50 (Nat.le_of_ble_eq_true rfl) (Nat.le_of_ble_eq_true rfl) (growR_k hR hJ hA hz hN hT hTr hc hi (by omega) hq (by omega)) (fun J2 hJ2 => ?_)
      have ql := @lB_r T N (k : Int) q.toNat (tsh S (k : Int)) (tli S (k : Int)) (tst N S (k : Int)) (hi.1 (k : Int)).1
      have qs := hi.1 (k : Int)
      have ev : (tsh S (k : Int) - lB T N (k : Int) q.toNat (tsh S (k : Int)) (tli S (k : Int)) (tst N S (k : Int))) * 1000 / (sWay N (tat S) (k : Int) + q) = gro T N S (k : Int) q := by rw [gro_1 (by omega), Int.mul_comm (tsh S (k : Int) - lB T N (k : Int) q.toNat (tsh S (k : Int)) (tli S (k : Int)) (tst N S (k : Int))) 1000]
      have eg : 0 ≤ gro T N S (k : Int) q := by rw [gro_1 (by omega)]; exact Int.ediv_nonneg (by omega) (by omega)
      refine z_i2l rfl (by omega) ?_
      refine z_pushL (z := 1000) rfl rfl ?_
      refine z_lmul (e := (tsh S (k : Int) - lB T N (k : Int) q.toNat (tsh S (k : Int)) (tli S (k : Int)) (tst N S (k : Int))) * 1000) rfl rfl ?_
      refine z_aload0 rfl ?_
      refine z_iload6 rfl ?_
      refine z_callVP (As := [_]) (v := sWay N (tat S) (k : Int)) rfl rfl gk_50 (Nat.le_of_ble_eq_true rfl) (Nat.le_of_ble_eq_true rfl) (wayTo_g hR hJ2 hA hz hN hc.2.1 (by omega) (by omega)) ?_
      have q3 := sWay_r hN (f := tat S) (p := (k : Int))
      refine z_iload2 rfl ?_
      refine z_iadd (e := (sWay N (tat S) (k : Int)) + q) rfl rfl ?_
      refine z_i2l rfl (by omega) ?_
      refine z_ldiv (e := (tsh S (k : Int) - lB T N (k : Int) q.toNat (tsh S (k : Int)) (tli S (k : Int)) (tst N S (k : Int))) * 1000 / ((sWay N (tat S) (k : Int)) + q)) rfl (by omega) (by omega) rfl ?_
      refine z_l2i rfl ?_
      refine z_top (y := gro T N S (k : Int) q) (congrArg Int32.ofInt ev) ?_
      refine z_istore (ls1 := [some (.ref 50), some (zi s), some (zi q), some (zi v), some (zi ((nx (fun p => gro T N S p q) k).1)), some (zi ((nx (fun p => gro T N S p q) k).2)), some (zi (k : Int)), some (zi (gro T N S (k : Int) q))]) rfl rfl ?_
      refine z_iload4 rfl ?_
      refine z_if_lt rfl (by omega) (fun h4 => ?_) (fun h4 => ?_)
      · refine z_iload6 gi_202_123 ?_
        refine z_istore (ls1 := [some (.ref 50), some (zi s), some (zi q), some (zi v), some (zi (k : Int)), some (zi ((nx (fun p => gro T N S p q) k).2)), some (zi (k : Int)), some (zi (gro T N S (k : Int) q))]) gi_202_125 rfl ?_
        refine z_iload7 gi_202_127 ?_
        refine z_istore (ls1 := [some (.ref 50), some (zi s), some (zi q), some (zi v), some (zi (k : Int)), some (zi (gro T N S (k : Int) q)), some (zi (k : Int)), some (zi (gro T N S (k : Int) q))]) gi_202_129 rfl ?_
        refine z_iinc (c := 1) (e := (k : Int) + 1) (ls1 := [some (.ref 50), some (zi s), some (zi q), some (zi v), some (zi (k : Int)), some (zi (gro T N S (k : Int) q)), some (zi ((k : Int) + 1)), some (zi (gro T N S (k : Int) q))]) gi_202_131 rfl rfl rfl rfl ?_
        refine z_goto gi_202_134 ?_
        show zW _ _ _ _ [some (.ref 50), some (zi s), some (zi q), some (zi v), some (zi (k : Int)), some (zi (gro T N S (k : Int) q)), some (zi ((k : Int) + 1)), some (zi (gro T N S (k : Int) q))] [] _ _ _ _
        have hg := ih (k + 1) (some (zi (gro T N S (k : Int) q))) J2 hJ2 (by omega)
        rw [nx_1 (g := (fun p => gro T N S p q)) (k := k) (by show (nx (fun p => gro T N S p q) k).2 < gro T N S (k : Int) q; omega)] at hg
        exact hg
      · refine z_iload7 rfl ?_
        refine z_iload5 rfl ?_
        refine z_icmp_gt rfl (by omega) (by omega) (fun h5 => ?_) (fun h5 => ?_)
        · refine z_iload6 gi_202_123 ?_
          refine z_istore (ls1 := [some (.ref 50), some (zi s), some (zi q), some (zi v), some (zi (k : Int)), some (zi ((nx (fun p => gro T N S p q) k).2)), some (zi (k : Int)), some (zi (gro T N S (k : Int) q))]) gi_202_125 rfl ?_
          refine z_iload7 gi_202_127 ?_
          refine z_istore (ls1 := [some (.ref 50), some (zi s), some (zi q), some (zi v), some (zi (k : Int)), some (zi (gro T N S (k : Int) q)), some (zi (k : Int)), some (zi (gro T N S (k : Int) q))]) gi_202_129 rfl ?_
          refine z_iinc (c := 1) (e := (k : Int) + 1) (ls1 := [some (.ref 50), some (zi s), some (zi q), some (zi v), some (zi (k : Int)), some (zi (gro T N S (k : Int) q)), some (zi ((k : Int) + 1)), some (zi (gro T N S (k : Int) q))]) gi_202_131 rfl rfl rfl rfl ?_
          refine z_goto gi_202_134 ?_
          show zW _ _ _ _ [some (.ref 50), some (zi s), some (zi q), some (zi v), some (zi (k : Int)), some (zi (gro T N S (k : Int) q)), some (zi ((k : Int) + 1)), some (zi (gro T N S (k : Int) q))] [] _ _ _ _
          have hg := ih (k + 1) (some (zi (gro T N S (k : Int) q))) J2 hJ2 (by omega)
          rw [nx_1 (g := (fun p => gro T N S p q)) (k := k) (by show (nx (fun p => gro T N S p q) k).2 < gro T N S (k : Int) q; omega)] at hg
          exact hg
        · refine z_goto rfl ?_
          refine z_iinc (c := 1) (e := (k : Int) + 1) (ls1 := [some (.ref 50), some (zi s), some (zi q), some (zi v), some (zi ((nx (fun p => gro T N S p q) k).1)), some (zi ((nx (fun p => gro T N S p q) k).2)), some (zi ((k : Int) + 1)), some (zi (gro T N S (k : Int) q))]) gi_202_131 rfl rfl rfl rfl ?_
          refine z_goto gi_202_134 ?_
          show zW _ _ _ _ [some (.ref 50), some (zi s), some (zi q), some (zi v), some (zi ((nx (fun p => gro T N S p q) k).1)), some (zi ((nx (fun p => gro T N S p q) k).2)), some (zi ((k : Int) + 1)), some (zi (gro T N S (k : Int) q))] [] _ _ _ _
          have hg := ih (k + 1) (some (zi (gro T N S (k : Int) q))) J2 hJ2 (by omega)
          rw [nx_0 (g := (fun p => gro T N S p q)) (k := k) (by show ¬ (nx (fun p => gro T N S p q) k).2 < gro T N S (k : Int) q; omega)] at hg
          exact hg
theorem stayC_z {X : Nat × (Nat → Int32)} {d : Nat} {M : zA} {R : zR} (hR : zRok R) {A : zA} {N : Int → Int → Int} {n : Int} (hA : cN A = N) (hz : A 8 2 = n) (hN : zNr n N) {T : zX} (hT : LawC X A R T) (hTr : Tok T) {S : tR} {K w : Int} (hc : cTr A S K w) (hi : tI n S 30) {v : Int} (hv : 0 ≤ v ∧ v < 1000000) (ha : 0 ≤ tat S) : ∀ (j : Nat) (i s : Int) (e4 e5 : Option Value) (J : zA), zK kT A J → i + j = 99 → 0 ≤ i → (0 ≤ s ∧ s ≤ 1000000) → zW X (d + 7) 84 12 [some (.ref 10), some (zi v), some (zi s), some (zi i), e4, e5] [] J M R (zPk (sy T N (tat S) (tli S (tat S)) (tmi S) v j i s) A M R) := by
  have qn := zNn hN
  have qi := hi.2.2
  have qt := hi.2.1 (tat S)
  intro j
  induction j with
  | zero =>
    intro i s e4 e5 J hJ hij h0 hs
    obtain rfl : i = 99 := by omega
    refine z_iload rfl rfl ?_
    refine z_pushI (z := 99) rfl rfl ?_
    refine z_icmp_geT rfl (by decide) (by decide) (by decide) ?_
    refine z_pushI (z := 99) rfl rfl ?_
    exact z_iret rfl rfl ⟨rfl, hJ, rfl, rfl⟩
  | succ j ih =>
    intro i s e4 e5 J hJ hij h0 hs
    refine z_iload3 rfl ?_
    refine z_pushJ gp_84_13 ?_
    refine z_icmp_geF rfl (by omega) zr_99 (by omega) ?_
    refine z_aload0 rfl ?_
    refine z_getI (v := tmi S) rfl gk_10 ((hJ 10 10 rfl).trans hc.2.2.1) ?_
    refine z_iload3 rfl ?_
    refine z_iadd (e := (tmi S) + i) rfl rfl ?_
    refine z_istore (ls1 := [some (.ref 10), some (zi v), some (zi s), some (zi i), some (zi ((tmi S) + i)), e5]) rfl rfl ?_
    refine z_iload4 rfl ?_
    refine z_pushJ gp_84_28 ?_
    refine z_icmp_lt rfl (by omega) (by decide) (fun h1 => ?_) (fun h1 => ?_)
    · refine z_aload0 rfl ?_
      refine z_getR (r := 8) rfl gk_10 (hR _ rm_10_0) ?_
      refine z_pushJ gp_84_42 ?_
      refine z_iload2 rfl ?_
      refine z_aload0 rfl ?_
      refine z_getI (v := tat S) rfl gk_10 ((hJ 10 11 rfl).trans hc.2.2.2.1) ?_
      refine z_aload0 rfl ?_
      refine z_getR (r := 12) rfl gk_10 (hR _ rm_10_2) ?_
      refine z_aload0 rfl ?_
      refine z_getI (v := tat S) rfl gk_10 ((hJ 10 11 rfl).trans hc.2.2.2.1) ?_
      have q2 := hi.2.1 (tat S)
      refine z_iald (v := tli S (tat S)) rfl gk_12 (by decide) (by omega) ((hJ 12 _ rfl).trans (hc.2.2.2.2.2.2.2 _ (by omega) (by omega))) ?_
      refine z_iload3 rfl ?_
      refine z_iadd (e := (tli S (tat S)) + i) rfl rfl ?_
      refine z_iload4 rfl ?_
      refine z_callVk (As := [_, _, _, _, _]) (v := lf T N s (tat S) (tli S (tat S) + i) (tmi S + i)) rfl rfl gk_8 (Nat.le_of_ble_eq_true rfl) (Nat.le_of_ble_eq_true rfl) (left1_k hR hJ hA hz hN hT hTr (by omega) (by omega) (by omega) (by omega)) (fun J2 hJ2 => ?_)
      have ql := @lf_r T N s (tat S) (tli S (tat S) + i) (tmi S + i) (by omega)
      refine z_istore (ls1 := [some (.ref 10), some (zi v), some (zi s), some (zi i), some (zi ((tmi S) + i)), some (zi (lf T N s (tat S) (tli S (tat S) + i) (tmi S + i)))]) gi_84_64 rfl ?_
      refine z_iload2 gi_84_66 ?_
      refine z_iload5 gi_84_67 ?_
      refine z_isub (e := s - (lf T N s (tat S) (tli S (tat S) + i) (tmi S + i))) gi_84_69 rfl ?_
      refine z_iload1 gi_84_70 ?_
      refine z_icmp_ge gi_84_71 (by omega) (by omega) (fun h3 => ?_) (fun h3 => ?_)
      · refine z_iload5 gi_84_76 ?_
        refine z_istore (ls1 := [some (.ref 10), some (zi v), some (zi (lf T N s (tat S) (tli S (tat S) + i) (tmi S + i))), some (zi i), some (zi ((tmi S) + i)), some (zi (lf T N s (tat S) (tli S (tat S) + i) (tmi S + i)))]) gi_84_78 rfl ?_
        refine z_iinc (c := 1) (e := i + 1) (ls1 := [some (.ref 10), some (zi v), some (zi (lf T N s (tat S) (tli S (tat S) + i) (tmi S + i))), some (zi (i + 1)), some (zi ((tmi S) + i)), some (zi (lf T N s (tat S) (tli S (tat S) + i) (tmi S + i)))]) gi_84_79 rfl rfl rfl rfl ?_
        refine z_goto gi_84_82 ?_
        show zW _ _ _ _ [some (.ref 10), some (zi v), some (zi (lf T N s (tat S) (tli S (tat S) + i) (tmi S + i))), some (zi (i + 1)), some (zi ((tmi S) + i)), some (zi (lf T N s (tat S) (tli S (tat S) + i) (tmi S + i)))] [] _ _ _ _
        have e := @sy_0 T N (tat S) (tli S (tat S)) (tmi S) v i s j (by rw [if_neg (by omega)]; omega)
        rw [if_neg (show ¬ 999 ≤ tmi S + i by omega)] at e
        rw [e]
        exact ih (i + 1) (lf T N s (tat S) (tli S (tat S) + i) (tmi S + i)) (some (zi ((tmi S) + i))) (some (zi (lf T N s (tat S) (tli S (tat S) + i) (tmi S + i)))) J2 hJ2 (by omega) (by omega) (by omega)
      · refine z_iload3 gi_84_74 ?_
        refine z_iret gi_84_75 gr_84 ?_
        exact ⟨congrArg (fun v => some (zi v)) (sy_1 (by rw [if_neg (by omega)]; omega)).symm, hJ2, rfl, rfl⟩
    · refine z_iload2 rfl ?_
      refine z_goto rfl ?_
      refine z_istore (ls1 := [some (.ref 10), some (zi v), some (zi s), some (zi i), some (zi ((tmi S) + i)), some (zi s)]) gi_84_64 rfl ?_
      refine z_iload2 gi_84_66 ?_
      refine z_iload5 gi_84_67 ?_
      refine z_isub (e := s - s) gi_84_69 rfl ?_
      refine z_iload1 gi_84_70 ?_
      refine z_icmp_ge gi_84_71 (by omega) (by omega) (fun h4 => ?_) (fun h4 => ?_)
      · refine z_iload5 gi_84_76 ?_
        refine z_istore (ls1 := [some (.ref 10), some (zi v), some (zi s), some (zi i), some (zi ((tmi S) + i)), some (zi s)]) gi_84_78 rfl ?_
        refine z_iinc (c := 1) (e := i + 1) (ls1 := [some (.ref 10), some (zi v), some (zi s), some (zi (i + 1)), some (zi ((tmi S) + i)), some (zi s)]) gi_84_79 rfl rfl rfl rfl ?_
        refine z_goto gi_84_82 ?_
        show zW _ _ _ _ [some (.ref 10), some (zi v), some (zi s), some (zi (i + 1)), some (zi ((tmi S) + i)), some (zi s)] [] _ _ _ _
        have e := @sy_0 T N (tat S) (tli S (tat S)) (tmi S) v i s j (by rw [if_pos (by omega)]; omega)
        rw [if_pos (show 999 ≤ tmi S + i by omega)] at e
        rw [e]
        exact ih (i + 1) s (some (zi ((tmi S) + i))) (some (zi s)) J hJ (by omega) (by omega) (by omega)
      · refine z_iload3 gi_84_74 ?_
        refine z_iret gi_84_75 gr_84 ?_
        exact ⟨congrArg (fun v => some (zi v)) (sy_1 (by rw [if_pos (by omega)]; omega)).symm, hJ, rfl, rfl⟩
theorem stayC_k {X : Nat × (Nat → Int32)} {d : Nat} {J M : zA} {R : zR} (hR : zRok R) {A : zA} (hJ : zK kT A J) {N : Int → Int → Int} {n : Int} (hA : cN A = N) (hz : A 8 2 = n) (hN : zNr n N) {T : zX} (hT : LawC X A R T) (hTr : Tok T) {S : tR} {K w : Int} (hc : cTr A S K w) (hi : tI n S 30) {v : Int} (hv : 0 ≤ v ∧ v < 1000000) (ha : 0 ≤ tat S) : zW X (d + 7) 84 0 (gEn 84 [(.ref 10), (zi v)]) [] J M R (zPk (sy T N (tat S) (tli S (tat S)) (tmi S) v 99 0 (tsh S (tat S))) A M R) := by
  have qn := zNn hN
  have qi := hi.2.2
  show zW _ _ _ _ [some (.ref 10), some (zi v), none, none, none, none] _ _ _ _ _
  refine z_aload0 rfl ?_
  refine z_getR (r := 11) rfl gk_10 (hR _ rm_10_1) ?_
  refine z_aload0 rfl ?_
  refine z_getI (v := tat S) rfl gk_10 ((hJ 10 11 rfl).trans hc.2.2.2.1) ?_
  have q1 := hi.1 (tat S)
  refine z_iald (v := tsh S (tat S)) rfl gk_11 (by decide) (by omega) ((hJ 11 _ rfl).trans (hc.2.2.2.2.2.2.1 _ (by omega) (by omega))) ?_
  refine z_istore (ls1 := [some (.ref 10), some (zi v), some (zi (tsh S (tat S))), none, none, none]) rfl rfl ?_
  refine z_pushJ gp_84_10 ?_
  refine z_istore (ls1 := [some (.ref 10), some (zi v), some (zi (tsh S (tat S))), some (zi 0), none, none]) rfl rfl ?_
  show zW _ _ _ _ [some (.ref 10), some (zi v), some (zi (tsh S (tat S))), some (zi 0), none, none] [] _ _ _ _
  exact stayC_z hR hA hz hN hT hTr hc hi hv ha 99 0 (tsh S (tat S)) none none _ hJ (by decide) (by decide) (hi.1 _)
theorem stayR_z {X : Nat × (Nat → Int32)} {d : Nat} {M : zA} {R : zR} {P : zP} (hR : zRoR R) {A : zA} {N : Int → Int → Int} {n : Int} (hA : rN A = N) (hz : A 50 1 = n) (hN : zNr n N) {T : zX} (hT : LawR X A T) (hTr : Tok T) {S : tR} {g : Int} (hc : rTg A n S g) (hi : tI n S 30) {sh v : Int} (hv : 0 ≤ v ∧ v < 1000000) (ha : 0 ≤ tat S) : ∀ (j : Nat) (i s h : Int) (e4 : Option Value) (J : zA), zK kT (zU (zU A 69 (tat S) s) 70 (tat S) h) J → i + j = 99 → 0 ≤ i → (0 ≤ s ∧ s ≤ 1000000) → (0 ≤ h ∧ h ≤ 5000) → (tmi S + i < 999 → h = tli S (tat S) + i) → (∀ JF : zA, zK kQ A JF → P (some (zi (sy T N (tat S) (tli S (tat S)) (tmi S) v j i s))) JF M R) → zW X (d + 7) 203 53 [some (.ref 50), some (zi sh), some (zi v), some (zi i), e4] [] J M R P := by
  have qn := zNn hN
  have qi := hi.2.2
  have qt := hi.2.1 (tat S)
  intro j
  induction j with
  | zero =>
    intro i s h e4 J hJ hij h0 hs hh0 hh KK
    obtain rfl : i = 99 := by omega
    refine z_iload rfl rfl ?_
    refine z_pushI (z := 99) rfl rfl ?_
    refine z_icmp_geT rfl (by decide) (by decide) (by decide) ?_
    refine z_pushI (z := 99) rfl rfl ?_
    exact z_iret rfl rfl (KK _ (zK_t (zK_x (a := 70) (x := tat S) (v := h) (zK_x (a := 69) (x := tat S) (v := s) zK_r rfl) rfl) (zK_m hJ kQ_T)))
  | succ j ih =>
    intro i s h e4 J hJ hij h0 hs hh0 hh KK
    have hk : zK kV A (zU (zU A 69 (tat S) s) 70 (tat S) h) := zK_x (a := 70) (x := tat S) (v := h) (zK_x (a := 69) (x := tat S) (v := s) zK_r rfl) rfl
    have hA2 : rN (zU (zU A 69 (tat S) s) 70 (tat S) h) = N := (rN_V hk).trans hA
    have hT2 := LawR_V hT hk
    refine z_iload3 rfl ?_
    refine z_pushJ gp_203_54 ?_
    refine z_icmp_geF rfl (by omega) zr_99 (by omega) ?_
    refine z_aload0 rfl ?_
    refine z_getI (v := tmi S) rfl gk_50 ((hJ 50 31 rfl).trans hc.2.2.1) ?_
    refine z_iload3 rfl ?_
    refine z_iadd (e := (tmi S) + i) rfl rfl ?_
    refine z_pushJ gp_203_65 ?_
    refine z_icmp_ge rfl (by omega) (by decide) (fun h1 => ?_) (fun h1 => ?_)
    · refine z_pushJ gp_203_88 ?_
      refine z_istore (ls1 := [some (.ref 50), some (zi sh), some (zi v), some (zi i), some (zi 0)]) gi_203_89 rfl ?_
      refine z_iload4 gi_203_91 ?_
      refine z_iload2 gi_203_93 ?_
      refine z_icmp_ge gi_203_94 zr_0 (by omega) (fun h2 => ?_) (fun h2 => ?_)
      · refine z_iinc (c := 1) (e := i + 1) (ls1 := [some (.ref 50), some (zi sh), some (zi v), some (zi (i + 1)), some (zi 0)]) gi_203_99 rfl rfl rfl rfl ?_
        refine z_goto gi_203_102 ?_
        show zW _ _ _ _ [some (.ref 50), some (zi sh), some (zi v), some (zi (i + 1)), some (zi 0)] [] _ _ _ _
        have e := @sy_0 T N (tat S) (tli S (tat S)) (tmi S) v i s j (by rw [if_pos (by omega)]; omega)
        rw [if_pos (show 999 ≤ tmi S + i by omega)] at e
        rw [e] at KK
        exact ih (i + 1) s h (some (zi 0)) J hJ (by omega) (by omega) (by omega) (by omega) (fun q => absurd q (by omega)) KK
      · refine z_iload3 gi_203_97 ?_
        refine z_iret gi_203_98 gr_203 ?_
        have e := @sy_1 T N (tat S) (tli S (tat S)) (tmi S) v i s j (by rw [if_pos (by omega)]; omega)
        rw [e] at KK
        exact KK _ (zK_t (zK_x (a := 70) (x := tat S) (v := h) (zK_x (a := 69) (x := tat S) (v := s) zK_r rfl) rfl) (zK_m hJ kQ_T))
    · refine z_aload0 rfl ?_
      refine z_aload0 rfl ?_
      refine z_getI (v := tat S) rfl gk_50 ((hJ 50 30 rfl).trans hc.2.1) ?_
      refine z_aload0 rfl ?_
      refine z_getI (v := tmi S) rfl gk_50 ((hJ 50 31 rfl).trans hc.2.2.1) ?_
      refine z_iload3 rfl ?_
      refine z_iadd (e := (tmi S) + i) rfl rfl ?_
      refine z_callV (As := [_, _]) _ rfl rfl rfl (Nat.le_of_ble_eq_true rfl) (Nat.le_of_ble_eq_true rfl) (listensIn_k (p := tat S) (m := tmi S + i) hR hJ hA2 hz hN hT2 hTr zU_69p zU_70p (by omega) (by omega) (by omega) (by omega)) (fun r J2 M2 R2 hr => ?_)
      obtain ⟨rfl, hJ2, rfl, rfl⟩ := hr
      rw [zU_69, hh (by omega)] at hJ2
      show zW _ _ _ _ _ (_ :: _) _ _ _ _
      rw [hh (by omega)]
      have ql := @lf_r T N s (tat S) (tli S (tat S) + i) (tmi S + i) (by omega)
      refine z_goto rfl ?_
      refine z_istore (ls1 := [some (.ref 50), some (zi sh), some (zi v), some (zi i), some (zi (s - lf T N s (tat S) (tli S (tat S) + i) (tmi S + i)))]) gi_203_89 rfl ?_
      refine z_iload4 gi_203_91 ?_
      refine z_iload2 gi_203_93 ?_
      refine z_icmp_ge gi_203_94 (by omega) (by omega) (fun h3 => ?_) (fun h3 => ?_)
      · refine z_iinc (c := 1) (e := i + 1) (ls1 := [some (.ref 50), some (zi sh), some (zi v), some (zi (i + 1)), some (zi (s - lf T N s (tat S) (tli S (tat S) + i) (tmi S + i)))]) gi_203_99 rfl rfl rfl rfl ?_
        refine z_goto gi_203_102 ?_
        show zW _ _ _ _ [some (.ref 50), some (zi sh), some (zi v), some (zi (i + 1)), some (zi (s - lf T N s (tat S) (tli S (tat S) + i) (tmi S + i)))] [] _ _ _ _
        have e := @sy_0 T N (tat S) (tli S (tat S)) (tmi S) v i s j (by rw [if_neg (by omega)]; omega)
        rw [if_neg (show ¬ 999 ≤ tmi S + i by omega)] at e
        rw [e] at KK
        exact ih (i + 1) (lf T N s (tat S) (tli S (tat S) + i) (tmi S + i)) (tli S (tat S) + i + 1) (some (zi (s - lf T N s (tat S) (tli S (tat S) + i) (tmi S + i)))) J2 hJ2 (by omega) (by omega) (by omega) (by omega) (fun _ => by omega) KK
      · refine z_iload3 gi_203_97 ?_
        refine z_iret gi_203_98 gr_203 ?_
        have e := @sy_1 T N (tat S) (tli S (tat S)) (tmi S) v i s j (by rw [if_neg (by omega)]; omega)
        rw [e] at KK
        exact KK _ (zK_t (zK_x (a := 70) (x := tat S) (v := tli S (tat S) + i + 1) (zK_x (a := 69) (x := tat S) (v := lf T N s (tat S) (tli S (tat S) + i) (tmi S + i)) zK_r rfl) rfl) (zK_m hJ2 kQ_T))
theorem stayR_k {X : Nat × (Nat → Int32)} {d : Nat} {M : zA} {R : zR} {P : zP} (hR : zRoR R) {A : zA} {N : Int → Int → Int} {n : Int} (hA : rN A = N) (hz : A 50 1 = n) (hN : zNr n N) {T : zX} (hT : LawR X A T) (hTr : Tok T) {S : tR} {g : Int} (hc : rTg A n S g) (hi : tI n S 30) {J : zA} (hJ : zK kT A J) {sh v : Int} {e4 : Option Value} (hv : 0 ≤ v ∧ v < 1000000) (ha : 0 ≤ tat S) (KK : (∀ JF : zA, zK kQ A JF → P (some (zi (sy T N (tat S) (tli S (tat S)) (tmi S) v 99 0 (tsh S (tat S))))) JF M R)) : zW X (d + 7) 203 53 [some (.ref 50), some (zi sh), some (zi v), some (zi 0), e4] [] J M R P := by
  have qi := hi.2.2
  have q := hi.2.1 (tat S)
  refine stayR_z hR hA hz hN hT hTr hc hi hv ha 99 0 (tsh S (tat S)) (tli S (tat S)) e4 J ?_ (by decide) (by decide) (hi.1 _) (by omega) (fun _ => by omega) KK
  rw [zU_id (hc.2.2.2.2.1 _ (by omega) (by omega)), zU_id (hc.2.2.2.2.2 _ (by omega) (by omega))]
  exact hJ
theorem mul_b {a b x y : Int} (h1 : 0 ≤ x ∧ x ≤ a) (h2 : 0 ≤ y ∧ y ≤ b) : 0 ≤ x * y ∧ x * y ≤ a * b := ⟨Int.mul_nonneg h1.1 h2.1, Int.mul_le_mul h1.2 h2.2 h2.1 (by omega)⟩
theorem gu_b {T : zX} {N : Int → Int → Int} {n : Int} {b : Int → Int} {z w wp : Int} {K : Nat} (hN : zNr n N) (hw : 0 ≤ wp ∧ wp < 1000000) (hK : K ≤ 30) (hok : ∀ k, k < K → tOk T N n b w z k) : ∀ k, k < K → (0 ≤ tfo (tS T N n b w (k + 1)) * (wp / 100) ∧ tfo (tS T N n b w (k + 1)) * (wp / 100) ≤ 30000000 * 9999) ∧ (0 ≤ tmi (tS T N n b w (k + 1)) * (wp % 100) ∧ tmi (tS T N n b w (k + 1)) * (wp % 100) ≤ 999 * 99) := by
  intro k hk
  have i := (tS_r (w := w) (z := z) hN (k + 1) (fun i hi => hok i (by omega))).1
  obtain ⟨i1, i2, i3, i4, i5, i6⟩ := i
  exact ⟨mul_b (by omega) (by omega), mul_b i4 (by omega)⟩
theorem giveC_z {X : Nat × (Nat → Int32)} {d : Nat} {J M : zA} {R : zR} {P : zP} (hR : zRok R) {N : Int → Int → Int} {n : Int} (hN : zNr n N) {T : zX} {b : Int → Int} {w z wp : Int} {K : Nat} (hc8 : J 10 8 = (K : Int)) (hw : cTw J T N n b w K) (hK : K ≤ 30) (hwp : 0 ≤ wp ∧ wp < 1000000) (hok : ∀ k, k < K → tOk T N n b w z k) {s v : Int} (KK : ∀ e8 e9 : Option Value, zW X (d + 8) 115 148 [some (.ref 0), some (zi s), some (zi wp), some (zi v), some (zi 0), some (zi ((gu (fun t : Nat => tfo (tS T N n b w (t + 1)) * (wp / 100) / 1000000 - tmi (tS T N n b w (t + 1)) * (wp % 100)) K).1)), some (zi ((gu (fun t : Nat => tfo (tS T N n b w (t + 1)) * (wp / 100) / 1000000 - tmi (tS T N n b w (t + 1)) * (wp % 100)) K).2)), some (zi (K : Int)), e8, e9] [] J M R P) : ∀ (j k : Nat) (e8 e9 : Option Value), k + j = K → zW X (d + 8) 115 58 [some (.ref 0), some (zi s), some (zi wp), some (zi v), some (zi 0), some (zi ((gu (fun t : Nat => tfo (tS T N n b w (t + 1)) * (wp / 100) / 1000000 - tmi (tS T N n b w (t + 1)) * (wp % 100)) k).1)), some (zi ((gu (fun t : Nat => tfo (tS T N n b w (t + 1)) * (wp / 100) / 1000000 - tmi (tS T N n b w (t + 1)) * (wp % 100)) k).2)), some (zi (k : Int)), e8, e9] [] J M R P := by
  have hb := gu_b hN hwp hK hok
  have hgb : ∀ k, k < K → (fun t : Nat => tfo (tS T N n b w (t + 1)) * (wp / 100) / 1000000 - tmi (tS T N n b w (t + 1)) * (wp % 100)) k ≤ 1000000000 := fun k hk => by
    have q := hb k hk
    show tfo (tS T N n b w (k + 1)) * (wp / 100) / 1000000 - tmi (tS T N n b w (k + 1)) * (wp % 100) ≤ 1000000000
    omega
  intro j
  induction j with
  | zero =>
    intro k e8 e9 hk
    obtain rfl : k = K := by omega
    refine z_iload rfl rfl ?_
    refine z_aload rfl rfl ?_
    refine z_getR (r := 10) rfl rfl (hR _ rm_0_2) ?_
    refine z_getI (v := (k : Int)) rfl rfl (hc8) ?_
    refine z_icmp_geT rfl (by omega) (by omega) (by omega) ?_
    exact KK e8 e9
  | succ j ih =>
    intro k e8 e9 hk
    have gk := gu_r (g := (fun t : Nat => tfo (tS T N n b w (t + 1)) * (wp / 100) / 1000000 - tmi (tS T N n b w (t + 1)) * (wp % 100))) hgb k (by omega)
    have q := hb k (by omega)
    have i1 := (tS_r (w := w) (z := z) hN k (fun i hi => hok i (by omega))).1.2.2
    have i2 := (tS_r (w := w) (z := z) hN (k + 1) (fun i hi => hok i (by omega))).1.2.2
    have t1 := hok k (by omega)
    have e3 : tmi (tS T N n b w (k + 1)) = tst N (tS T N n b w k) (b (2 * (k : Int))) + b (2 * (k : Int) + 1) := rfl
    refine z_iload7 rfl ?_
    refine z_aload0 rfl ?_
    refine z_getR (r := 10) rfl gk_0 (hR _ rm_0_2) ?_
    refine z_getI (v := (K : Int)) rfl gk_10 (hc8) ?_
    refine z_icmp_geF rfl (by omega) (by omega) (by omega) ?_
    refine z_aload0 rfl ?_
    refine z_getR (r := 10) rfl gk_0 (hR _ rm_0_2) ?_
    refine z_getR (r := 17) rfl gk_10 (hR _ rm_10_7) ?_
    refine z_iload7 rfl ?_
    refine z_iald (v := tfo (tS T N n b w (k + 1))) rfl gk_17 (by decide) (by omega) ((hw k (by omega)).2.2.2.2) ?_
    refine z_i2l rfl (by omega) ?_
    refine z_iload2 rfl ?_
    refine z_pushJ gp_115_82 ?_
    refine z_idiv (e := wp / 100) rfl (by omega) (by omega) rfl ?_
    refine z_i2l rfl (by omega) ?_
    refine z_lmul (e := (tfo (tS T N n b w (k + 1))) * (wp / 100)) rfl rfl ?_
    refine z_pushL (z := 1000000) rfl rfl ?_
    refine z_ldiv (e := (tfo (tS T N n b w (k + 1))) * (wp / 100) / 1000000) rfl (by omega) (by omega) rfl ?_
    refine z_l2i rfl ?_
    refine z_istore (ls1 := [some (.ref 0), some (zi s), some (zi wp), some (zi v), some (zi 0), some (zi ((gu (fun t : Nat => tfo (tS T N n b w (t + 1)) * (wp / 100) / 1000000 - tmi (tS T N n b w (t + 1)) * (wp % 100)) k).1)), some (zi ((gu (fun t : Nat => tfo (tS T N n b w (t + 1)) * (wp / 100) / 1000000 - tmi (tS T N n b w (t + 1)) * (wp % 100)) k).2)), some (zi (k : Int)), some (zi ((tfo (tS T N n b w (k + 1))) * (wp / 100) / 1000000)), e9]) rfl rfl ?_
    refine z_iload8 rfl ?_
    refine z_aload0 rfl ?_
    refine z_getR (r := 10) rfl gk_0 (hR _ rm_0_2) ?_
    refine z_getR (r := 14) rfl gk_10 (hR _ rm_10_4) ?_
    refine z_iload7 rfl ?_
    refine z_iald (v := tst N (tS T N n b w k) (b (2 * (k : Int)))) rfl gk_14 (by decide) (by omega) ((hw k (by omega)).2.1) ?_
    refine z_aload0 rfl ?_
    refine z_getR (r := 10) rfl gk_0 (hR _ rm_0_2) ?_
    refine z_getR (r := 15) rfl gk_10 (hR _ rm_10_5) ?_
    refine z_iload7 rfl ?_
    refine z_iald (v := b (2 * (k : Int) + 1)) rfl gk_15 (by decide) (by omega) ((hw k (by omega)).2.2.1) ?_
    refine z_iadd (e := (tst N (tS T N n b w k) (b (2 * (k : Int)))) + (b (2 * (k : Int) + 1))) rfl rfl ?_
    refine z_top (y := tmi (tS T N n b w (k + 1))) rfl ?_
    refine z_iload2 rfl ?_
    refine z_pushJ gp_115_118 ?_
    refine z_irem (e := wp % 100) rfl (by omega) (by omega) rfl ?_
    refine z_imul (e := (tmi (tS T N n b w (k + 1))) * (wp % 100)) rfl rfl ?_
    refine z_isub (e := (tfo (tS T N n b w (k + 1))) * (wp / 100) / 1000000 - (tmi (tS T N n b w (k + 1))) * (wp % 100)) rfl rfl ?_
    refine z_istore (ls1 := [some (.ref 0), some (zi s), some (zi wp), some (zi v), some (zi 0), some (zi ((gu (fun t : Nat => tfo (tS T N n b w (t + 1)) * (wp / 100) / 1000000 - tmi (tS T N n b w (t + 1)) * (wp % 100)) k).1)), some (zi ((gu (fun t : Nat => tfo (tS T N n b w (t + 1)) * (wp / 100) / 1000000 - tmi (tS T N n b w (t + 1)) * (wp % 100)) k).2)), some (zi (k : Int)), some (zi ((tfo (tS T N n b w (k + 1))) * (wp / 100) / 1000000)), some (zi ((tfo (tS T N n b w (k + 1))) * (wp / 100) / 1000000 - (tmi (tS T N n b w (k + 1))) * (wp % 100)))]) rfl rfl ?_
    refine z_iload9 rfl ?_
    refine z_iload6 rfl ?_
    refine z_icmp_le rfl (by omega) (by omega) (fun h1 => ?_) (fun h1 => ?_)
    · refine z_iinc (c := 1) (e := (k : Int) + 1) (ls1 := [some (.ref 0), some (zi s), some (zi wp), some (zi v), some (zi 0), some (zi ((gu (fun t : Nat => tfo (tS T N n b w (t + 1)) * (wp / 100) / 1000000 - tmi (tS T N n b w (t + 1)) * (wp % 100)) k).1)), some (zi ((gu (fun t : Nat => tfo (tS T N n b w (t + 1)) * (wp / 100) / 1000000 - tmi (tS T N n b w (t + 1)) * (wp % 100)) k).2)), some (zi ((k : Int) + 1)), some (zi ((tfo (tS T N n b w (k + 1))) * (wp / 100) / 1000000)), some (zi ((tfo (tS T N n b w (k + 1))) * (wp / 100) / 1000000 - (tmi (tS T N n b w (k + 1))) * (wp % 100)))]) gi_115_142 rfl rfl rfl rfl ?_
      refine z_goto gi_115_145 ?_
      show zW _ _ _ _ [some (.ref 0), some (zi s), some (zi wp), some (zi v), some (zi 0), some (zi ((gu (fun t : Nat => tfo (tS T N n b w (t + 1)) * (wp / 100) / 1000000 - tmi (tS T N n b w (t + 1)) * (wp % 100)) k).1)), some (zi ((gu (fun t : Nat => tfo (tS T N n b w (t + 1)) * (wp / 100) / 1000000 - tmi (tS T N n b w (t + 1)) * (wp % 100)) k).2)), some (zi ((k : Int) + 1)), some (zi ((tfo (tS T N n b w (k + 1))) * (wp / 100) / 1000000)), some (zi ((tfo (tS T N n b w (k + 1))) * (wp / 100) / 1000000 - (tmi (tS T N n b w (k + 1))) * (wp % 100)))] [] _ _ _ _
      have hg := ih (k + 1) (some (zi ((tfo (tS T N n b w (k + 1))) * (wp / 100) / 1000000))) (some (zi ((tfo (tS T N n b w (k + 1))) * (wp / 100) / 1000000 - (tmi (tS T N n b w (k + 1))) * (wp % 100)))) (by omega)
      rw [gu_0 (g := (fun t : Nat => tfo (tS T N n b w (t + 1)) * (wp / 100) / 1000000 - tmi (tS T N n b w (t + 1)) * (wp % 100))) (k := k) (by show ¬ (gu (fun t : Nat => tfo (tS T N n b w (t + 1)) * (wp / 100) / 1000000 - tmi (tS T N n b w (t + 1)) * (wp % 100)) k).2 < tfo (tS T N n b w (k + 1)) * (wp / 100) / 1000000 - tmi (tS T N n b w (k + 1)) * (wp % 100); omega)] at hg
      exact hg
    · refine z_iload9 rfl ?_
      refine z_istore (ls1 := [some (.ref 0), some (zi s), some (zi wp), some (zi v), some (zi 0), some (zi ((gu (fun t : Nat => tfo (tS T N n b w (t + 1)) * (wp / 100) / 1000000 - tmi (tS T N n b w (t + 1)) * (wp % 100)) k).1)), some (zi ((tfo (tS T N n b w (k + 1))) * (wp / 100) / 1000000 - (tmi (tS T N n b w (k + 1))) * (wp % 100))), some (zi (k : Int)), some (zi ((tfo (tS T N n b w (k + 1))) * (wp / 100) / 1000000)), some (zi ((tfo (tS T N n b w (k + 1))) * (wp / 100) / 1000000 - (tmi (tS T N n b w (k + 1))) * (wp % 100)))]) rfl rfl ?_
      refine z_iload7 rfl ?_
      refine z_pushJ gp_115_138 ?_
      refine z_iadd (e := (k : Int) + 1) rfl rfl ?_
      refine z_istore (ls1 := [some (.ref 0), some (zi s), some (zi wp), some (zi v), some (zi 0), some (zi ((k : Int) + 1)), some (zi ((tfo (tS T N n b w (k + 1))) * (wp / 100) / 1000000 - (tmi (tS T N n b w (k + 1))) * (wp % 100))), some (zi (k : Int)), some (zi ((tfo (tS T N n b w (k + 1))) * (wp / 100) / 1000000)), some (zi ((tfo (tS T N n b w (k + 1))) * (wp / 100) / 1000000 - (tmi (tS T N n b w (k + 1))) * (wp % 100)))]) rfl rfl ?_
      refine z_iinc (c := 1) (e := (k : Int) + 1) (ls1 := [some (.ref 0), some (zi s), some (zi wp), some (zi v), some (zi 0), some (zi ((k : Int) + 1)), some (zi ((tfo (tS T N n b w (k + 1))) * (wp / 100) / 1000000 - (tmi (tS T N n b w (k + 1))) * (wp % 100))), some (zi ((k : Int) + 1)), some (zi ((tfo (tS T N n b w (k + 1))) * (wp / 100) / 1000000)), some (zi ((tfo (tS T N n b w (k + 1))) * (wp / 100) / 1000000 - (tmi (tS T N n b w (k + 1))) * (wp % 100)))]) gi_115_142 rfl rfl rfl rfl ?_
      refine z_goto gi_115_145 ?_
      show zW _ _ _ _ [some (.ref 0), some (zi s), some (zi wp), some (zi v), some (zi 0), some (zi ((k : Int) + 1)), some (zi ((tfo (tS T N n b w (k + 1))) * (wp / 100) / 1000000 - (tmi (tS T N n b w (k + 1))) * (wp % 100))), some (zi ((k : Int) + 1)), some (zi ((tfo (tS T N n b w (k + 1))) * (wp / 100) / 1000000)), some (zi ((tfo (tS T N n b w (k + 1))) * (wp / 100) / 1000000 - (tmi (tS T N n b w (k + 1))) * (wp % 100)))] [] _ _ _ _
      have hg := ih (k + 1) (some (zi ((tfo (tS T N n b w (k + 1))) * (wp / 100) / 1000000))) (some (zi ((tfo (tS T N n b w (k + 1))) * (wp / 100) / 1000000 - (tmi (tS T N n b w (k + 1))) * (wp % 100)))) (by omega)
      rw [gu_1 (g := (fun t : Nat => tfo (tS T N n b w (t + 1)) * (wp / 100) / 1000000 - tmi (tS T N n b w (t + 1)) * (wp % 100))) (k := k) (by show (gu (fun t : Nat => tfo (tS T N n b w (t + 1)) * (wp / 100) / 1000000 - tmi (tS T N n b w (t + 1)) * (wp % 100)) k).2 < tfo (tS T N n b w (k + 1)) * (wp / 100) / 1000000 - tmi (tS T N n b w (k + 1)) * (wp % 100); omega)] at hg
      exact hg
theorem kV_S : ∀ x j, kV x j = true → kS x j = true := by
  intro x j h
  unfold kV at h
  by_cases e : x = 50
  · subst e
    have h2 : (decide (j = 1) || decide (j = 27)) = true := h
    have h3 : j = 1 ∨ j = 27 := by
      rcases Bool.or_eq_true _ _ ▸ h2 with q | q
      · exact Or.inl (of_decide_eq_true q)
      · exact Or.inr (of_decide_eq_true q)
    rcases h3 with rfl | rfl <;> rfl
  · rw [beq_f e] at h
    have h2 := Bool.and_eq_true _ _ ▸ h
    have h3 := Nat.le_of_ble_eq_true h2.1
    have h4 := Nat.le_of_ble_eq_true h2.2
    unfold kS
    rw [beq_f (n := 1) (by omega), beq_f (n := 34) (by omega), beq_f (n := 50) (by omega), beq_f (n := 10) (by omega), beq_f (n := 7) (by omega)]
    rw [show Nat.ble x 22 = false from by cases e : Nat.ble x 22 with
      | false => rfl
      | true => exact absurd (Nat.le_of_ble_eq_true e) (by omega)]
    rw [show Nat.ble 67 x = false from by cases e : Nat.ble 67 x with
      | false => rfl
      | true => exact absurd (Nat.le_of_ble_eq_true e) (by omega)]
    cases Nat.ble 10 x <;> rfl
theorem giveR_z {X : Nat × (Nat → Int32)} {d : Nat} {M : zA} {R : zR} {P : zP} {N : Int → Int → Int} {n : Int} (hN : zNr n N) {T : zX} {b : Int → Int} {w z wp : Int} {K : Nat} (hR : zRoR R) {A : zA} (hA : rN A = N) (hz : A 50 1 = n) (hT : LawR X A T) (hTr : Tok T) {s : Int} (hs : 0 ≤ s ∧ s < 6) (hbm : ∀ i, 0 ≤ i → i < z → M 85 (60 * s + i) = b i) (hbr : ∀ i, 0 ≤ i → i < z → -128 ≤ b i ∧ b i ≤ 127) (hz0 : A 84 s = z) (hzr : 0 ≤ z ∧ z ≤ 60) (h35 : A 50 35 = 0) (hK : K ≤ 30) (hwp : 0 ≤ wp ∧ wp < 1000000) (hok : ∀ k, k < K → tOk T N n b w z k) {v : Int} (KK : ∀ (e8 : Option Value) (J : zA), zK kS A J → zW X (d + 9) 207 131 [some (.ref 50), some (zi s), some (zi wp), some (zi v), some (zi (K : Int)), some (zi ((gu (fun t : Nat => tfo (tS T N n b w (t + 1)) * (wp / 100) / 1000000 - tmi (tS T N n b w (t + 1)) * (wp % 100)) K).1)), some (zi ((gu (fun t : Nat => tfo (tS T N n b w (t + 1)) * (wp / 100) / 1000000 - tmi (tS T N n b w (t + 1)) * (wp % 100)) K).2)), some (zi ((K : Int) + 1)), e8] [] J M R P) : ∀ (j k : Nat) (e8 : Option Value) (J : zA), zK kS A J → k + j = K → zW X (d + 9) 207 64 [some (.ref 50), some (zi s), some (zi wp), some (zi v), some (zi (K : Int)), some (zi ((gu (fun t : Nat => tfo (tS T N n b w (t + 1)) * (wp / 100) / 1000000 - tmi (tS T N n b w (t + 1)) * (wp % 100)) k).1)), some (zi ((gu (fun t : Nat => tfo (tS T N n b w (t + 1)) * (wp / 100) / 1000000 - tmi (tS T N n b w (t + 1)) * (wp % 100)) k).2)), some (zi ((k : Int) + 1)), e8] [] J M R P := by
  have hb := gu_b hN hwp hK hok
  have hgb : ∀ k, k < K → (fun t : Nat => tfo (tS T N n b w (t + 1)) * (wp / 100) / 1000000 - tmi (tS T N n b w (t + 1)) * (wp % 100)) k ≤ 1000000000 := fun k hk => by
    have q := hb k hk
    show tfo (tS T N n b w (k + 1)) * (wp / 100) / 1000000 - tmi (tS T N n b w (k + 1)) * (wp % 100) ≤ 1000000000
    omega
  intro j
  induction j with
  | zero =>
    intro k e8 J hJ hk
    obtain rfl : k = K := by omega
    refine z_iload rfl rfl ?_
    refine z_iload rfl rfl ?_
    refine z_icmp_gtT rfl (by omega) (by omega) (by omega) ?_
    exact KK e8 J hJ
  | succ j ih =>
    intro k e8 J hJ hk
    have gk := gu_r (g := (fun t : Nat => tfo (tS T N n b w (t + 1)) * (wp / 100) / 1000000 - tmi (tS T N n b w (t + 1)) * (wp % 100))) hgb k (by omega)
    have q := hb k (by omega)
    have i2 := (tS_r (w := w) (z := z) hN (k + 1) (fun i hi => hok i (by omega))).1.2.2
    refine z_iload7 rfl ?_
    refine z_iload4 rfl ?_
    refine z_icmp_gtF rfl (by omega) (by omega) (by omega) ?_
    refine z_aload0 rfl ?_
    refine z_iload1 rfl ?_
    refine z_iload7 rfl ?_
    have hV := zK_m hJ kV_S
    refine z_callV (As := [_, _]) _ rfl rfl rfl (Nat.le_of_ble_eq_true rfl) (Nat.le_of_ble_eq_true rfl) (goRound_k (N := N) (n := n) (T := T) (s := s) (z := z) (b := b) (w := 0) (most := (k : Int) + 1) hR ((rN_V hV).trans hA) ((hJ 50 1 rfl).trans hz) hN (LawR_V hT hV) hTr hs hbm hbr ((hJ 84 _ rfl).trans hz0) hzr (by omega) ((hJ 50 35 rfl).trans h35) (by decide)) (fun r J2 M2 R2 hr => ?_)
    obtain ⟨K2, rfl, hO, hOr, hK2, hk2, hr2, rfl, rfl⟩ := hr
    show zW _ _ _ _ _ (_ :: _) _ _ _ _
    have eK : K2 = k + 1 := by
      rcases hOr with h | h
      · omega
      · by_cases q : K2 = k + 1
        · exact q
        · exact absurd (tOk_w 0 (hok K2 (by omega))) h
    rw [eK] at hr2
    obtain ⟨g1, g2, g3, g4, g5, g6⟩ := rT_w (w := w) rfl hr2
    have hJ2 := zK_t hJ (zK_m hk2 kS_Q)
    refine z_pop rfl rfl ?_
    refine z_aload0 rfl ?_
    refine z_getI (v := tfo (tS T N n b w (k + 1))) rfl gk_50 (g4) ?_
    refine z_i2l rfl (by omega) ?_
    refine z_iload2 rfl ?_
    refine z_pushJ gp_207_85 ?_
    refine z_idiv (e := wp / 100) rfl (by omega) (by omega) rfl ?_
    refine z_i2l rfl (by omega) ?_
    refine z_lmul (e := (tfo (tS T N n b w (k + 1))) * (wp / 100)) rfl rfl ?_
    refine z_pushL (z := 1000000) rfl rfl ?_
    refine z_ldiv (e := (tfo (tS T N n b w (k + 1))) * (wp / 100) / 1000000) rfl (by omega) (by omega) rfl ?_
    refine z_l2i rfl ?_
    refine z_aload0 rfl ?_
    refine z_getI (v := tmi (tS T N n b w (k + 1))) rfl gk_50 (g3) ?_
    refine z_iload2 rfl ?_
    refine z_pushJ gp_207_100 ?_
    refine z_irem (e := wp % 100) rfl (by omega) (by omega) rfl ?_
    refine z_imul (e := (tmi (tS T N n b w (k + 1))) * (wp % 100)) rfl rfl ?_
    refine z_isub (e := (tfo (tS T N n b w (k + 1))) * (wp / 100) / 1000000 - (tmi (tS T N n b w (k + 1))) * (wp % 100)) rfl rfl ?_
    refine z_istore (ls1 := [some (.ref 50), some (zi s), some (zi wp), some (zi v), some (zi (K : Int)), some (zi ((gu (fun t : Nat => tfo (tS T N n b w (t + 1)) * (wp / 100) / 1000000 - tmi (tS T N n b w (t + 1)) * (wp % 100)) k).1)), some (zi ((gu (fun t : Nat => tfo (tS T N n b w (t + 1)) * (wp / 100) / 1000000 - tmi (tS T N n b w (t + 1)) * (wp % 100)) k).2)), some (zi ((k : Int) + 1)), some (zi ((tfo (tS T N n b w (k + 1))) * (wp / 100) / 1000000 - (tmi (tS T N n b w (k + 1))) * (wp % 100)))]) rfl rfl ?_
    refine z_iload8 rfl ?_
    refine z_iload6 rfl ?_
    refine z_icmp_gt rfl (by omega) (by omega) (fun h1 => ?_) (fun h1 => ?_)
    · refine z_iload7 rfl ?_
      refine z_istore (ls1 := [some (.ref 50), some (zi s), some (zi wp), some (zi v), some (zi (K : Int)), some (zi ((k : Int) + 1)), some (zi ((gu (fun t : Nat => tfo (tS T N n b w (t + 1)) * (wp / 100) / 1000000 - tmi (tS T N n b w (t + 1)) * (wp % 100)) k).2)), some (zi ((k : Int) + 1)), some (zi ((tfo (tS T N n b w (k + 1))) * (wp / 100) / 1000000 - (tmi (tS T N n b w (k + 1))) * (wp % 100)))]) rfl rfl ?_
      refine z_iload8 rfl ?_
      refine z_istore (ls1 := [some (.ref 50), some (zi s), some (zi wp), some (zi v), some (zi (K : Int)), some (zi ((k : Int) + 1)), some (zi ((tfo (tS T N n b w (k + 1))) * (wp / 100) / 1000000 - (tmi (tS T N n b w (k + 1))) * (wp % 100))), some (zi ((k : Int) + 1)), some (zi ((tfo (tS T N n b w (k + 1))) * (wp / 100) / 1000000 - (tmi (tS T N n b w (k + 1))) * (wp % 100)))]) rfl rfl ?_
      refine z_iinc (c := 1) (e := ((k : Int) + 1) + 1) (ls1 := [some (.ref 50), some (zi s), some (zi wp), some (zi v), some (zi (K : Int)), some (zi ((k : Int) + 1)), some (zi ((tfo (tS T N n b w (k + 1))) * (wp / 100) / 1000000 - (tmi (tS T N n b w (k + 1))) * (wp % 100))), some (zi (((k : Int) + 1) + 1)), some (zi ((tfo (tS T N n b w (k + 1))) * (wp / 100) / 1000000 - (tmi (tS T N n b w (k + 1))) * (wp % 100)))]) gi_207_125 rfl rfl rfl rfl ?_
      refine z_goto gi_207_128 ?_
      show zW _ _ _ _ [some (.ref 50), some (zi s), some (zi wp), some (zi v), some (zi (K : Int)), some (zi ((k : Int) + 1)), some (zi ((tfo (tS T N n b w (k + 1))) * (wp / 100) / 1000000 - (tmi (tS T N n b w (k + 1))) * (wp % 100))), some (zi (((k : Int) + 1) + 1)), some (zi ((tfo (tS T N n b w (k + 1))) * (wp / 100) / 1000000 - (tmi (tS T N n b w (k + 1))) * (wp % 100)))] [] _ _ _ _
      have hg := ih (k + 1) (some (zi ((tfo (tS T N n b w (k + 1))) * (wp / 100) / 1000000 - (tmi (tS T N n b w (k + 1))) * (wp % 100)))) J2 hJ2 (by omega)
      rw [gu_1 (g := (fun t : Nat => tfo (tS T N n b w (t + 1)) * (wp / 100) / 1000000 - tmi (tS T N n b w (t + 1)) * (wp % 100))) (k := k) (by show (gu (fun t : Nat => tfo (tS T N n b w (t + 1)) * (wp / 100) / 1000000 - tmi (tS T N n b w (t + 1)) * (wp % 100)) k).2 < tfo (tS T N n b w (k + 1)) * (wp / 100) / 1000000 - tmi (tS T N n b w (k + 1)) * (wp % 100); omega)] at hg
      exact hg
    · refine z_goto rfl ?_
      refine z_iinc (c := 1) (e := ((k : Int) + 1) + 1) (ls1 := [some (.ref 50), some (zi s), some (zi wp), some (zi v), some (zi (K : Int)), some (zi ((gu (fun t : Nat => tfo (tS T N n b w (t + 1)) * (wp / 100) / 1000000 - tmi (tS T N n b w (t + 1)) * (wp % 100)) k).1)), some (zi ((gu (fun t : Nat => tfo (tS T N n b w (t + 1)) * (wp / 100) / 1000000 - tmi (tS T N n b w (t + 1)) * (wp % 100)) k).2)), some (zi (((k : Int) + 1) + 1)), some (zi ((tfo (tS T N n b w (k + 1))) * (wp / 100) / 1000000 - (tmi (tS T N n b w (k + 1))) * (wp % 100)))]) gi_207_125 rfl rfl rfl rfl ?_
      refine z_goto gi_207_128 ?_
      show zW _ _ _ _ [some (.ref 50), some (zi s), some (zi wp), some (zi v), some (zi (K : Int)), some (zi ((gu (fun t : Nat => tfo (tS T N n b w (t + 1)) * (wp / 100) / 1000000 - tmi (tS T N n b w (t + 1)) * (wp % 100)) k).1)), some (zi ((gu (fun t : Nat => tfo (tS T N n b w (t + 1)) * (wp / 100) / 1000000 - tmi (tS T N n b w (t + 1)) * (wp % 100)) k).2)), some (zi (((k : Int) + 1) + 1)), some (zi ((tfo (tS T N n b w (k + 1))) * (wp / 100) / 1000000 - (tmi (tS T N n b w (k + 1))) * (wp % 100)))] [] _ _ _ _
      have hg := ih (k + 1) (some (zi ((tfo (tS T N n b w (k + 1))) * (wp / 100) / 1000000 - (tmi (tS T N n b w (k + 1))) * (wp % 100)))) J2 hJ2 (by omega)
      rw [gu_0 (g := (fun t : Nat => tfo (tS T N n b w (t + 1)) * (wp / 100) / 1000000 - tmi (tS T N n b w (t + 1)) * (wp % 100))) (k := k) (by show ¬ (gu (fun t : Nat => tfo (tS T N n b w (t + 1)) * (wp / 100) / 1000000 - tmi (tS T N n b w (t + 1)) * (wp % 100)) k).2 < tfo (tS T N n b w (k + 1)) * (wp / 100) / 1000000 - tmi (tS T N n b w (k + 1)) * (wp % 100); omega)] at hg
      exact hg
