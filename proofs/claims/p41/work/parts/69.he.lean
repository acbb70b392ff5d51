theorem st_hears {X : Nat × (Nat → Int32)} {d : Nat} {J M : zA} {R : zR} {p q : Int} (hr : Rel X J M R) (hp : -2147483648 ≤ p ∧ p < 2147483648) (hq : -2147483648 ≤ q ∧ q < 2147483648)  : zW X (d + 20) 108 0 (gEn 108 [(.ref 0), (zi p), (zi q)]) [] J M R (stP X (d + 20) 184 [(zi p), (zi q)]) := by
  have hr0 := hr
  obtain ⟨hR, hG, hY, hD, hP, hC, hAc, hS, hTp, hX, hW⟩ := hr0
  have hRr : zRoR R := zRoR_of hR
  have hY0 := hY
  obtain ⟨y1, y2, y3⟩ := hY0
  have yn := zNn y3
  obtain ⟨T, t1, t2, t3⟩ := hX
  show zW _ _ _ _ [some (.ref 0), some (zi p), some (zi q)] _ _ _ _ _
  refine z_aload0 rfl ?_
  refine z_getR (r := 8) rfl gk_0 (hR _ rm_0_1) ?_
  refine z_iload1 rfl ?_
  refine z_cV1 rfl gk_8 go_87 (Nat.le_of_ble_eq_true rfl) gc_87_RI ?_
  refine z_iload1 gi_87_0 ?_
  refine z_if_lt gi_87_1 (by omega) (fun h1 => ?_) (fun h1 => ?_)
  · refine z_pushJ gp_87_16 ?_
    refine z_bret0 gi_87_17 gr_87 ?_
    show zW _ _ _ _ _ _ _ _ _ _
    refine z_if_eqT gi_108_8 zr_0 (by decide) ?_
    refine z_pushJ gp_108_21 ?_
    refine z_iret gi_108_22 gr_108 ?_
    refine ⟨_, rfl, ?_⟩
    show zW _ _ _ _ [some (.ref 50), some (zi p), some (zi q)] _ _ _ _ _
    refine z_aload0 gi_184_0 ?_
    refine z_iload1 gi_184_1 ?_
    refine z_cV1 gi_184_2 gk_50 go_151 (Nat.le_of_ble_eq_true rfl) gc_151_RI ?_
    refine z_iload1 gi_151_0 ?_
    refine z_pushJ gp_151_1 ?_
    refine z_aload0 gi_151_2 ?_
    refine z_getI (v := J 8 2) gi_151_3 gk_50 (y2.symm) ?_
    refine z_pushJ gp_151_6 ?_
    refine z_isub (e := (J 8 2) - 1) gi_151_7 rfl ?_
    refine z_cS3 gi_151_8 (Nat.le_of_ble_eq_true rfl) gc_148_III ?_
    refine z_iload0 gi_148_0 ?_
    refine z_iload1 gi_148_1 ?_
    refine z_icmp_ltT gi_148_2 (by omega) zr_0 (by omega) ?_
    refine z_pushJ gp_148_14 ?_
    refine z_bret0 gi_148_15 gr_148 ?_
    show zW _ _ _ _ _ _ _ _ _ _
    refine z_bret0 gi_151_11 gr_151 ?_
    show zW _ _ _ _ _ _ _ _ _ _
    refine z_if_eqT gi_184_5 zr_0 (by decide) ?_
    refine z_pushJ gp_184_36 ?_
    refine z_iret gi_184_37 gr_184 ?_
    refine ⟨?_, ?_⟩
    · first | rfl | exact congrArg (fun v => some (zi v)) (by omega) | (exfalso; omega)
    · exact hr
  · refine z_iload1 gi_87_4 ?_
    refine z_aload0 gi_87_5 ?_
    refine z_getI (v := J 8 2) gi_87_6 gk_8 (rfl) ?_
    refine z_icmp_ge gi_87_9 (by omega) (by omega) (fun h2 => ?_) (fun h2 => ?_)
    · refine z_pushJ gp_87_16 ?_
      refine z_bret0 gi_87_17 gr_87 ?_
      show zW _ _ _ _ _ _ _ _ _ _
      refine z_if_eqT gi_108_8 zr_0 (by decide) ?_
      refine z_pushJ gp_108_21 ?_
      refine z_iret gi_108_22 gr_108 ?_
      refine ⟨_, rfl, ?_⟩
      show zW _ _ _ _ [some (.ref 50), some (zi p), some (zi q)] _ _ _ _ _
      refine z_aload0 gi_184_0 ?_
      refine z_iload1 gi_184_1 ?_
      refine z_cV1 gi_184_2 gk_50 go_151 (Nat.le_of_ble_eq_true rfl) gc_151_RI ?_
      refine z_iload1 gi_151_0 ?_
      refine z_pushJ gp_151_1 ?_
      refine z_aload0 gi_151_2 ?_
      refine z_getI (v := J 8 2) gi_151_3 gk_50 (y2.symm) ?_
      refine z_pushJ gp_151_6 ?_
      refine z_isub (e := (J 8 2) - 1) gi_151_7 rfl ?_
      refine z_cS3 gi_151_8 (Nat.le_of_ble_eq_true rfl) gc_148_III ?_
      refine z_iload0 gi_148_0 ?_
      refine z_iload1 gi_148_1 ?_
      refine z_icmp_ltF gi_148_2 (by omega) zr_0 (by omega) ?_
      refine z_iload0 gi_148_5 ?_
      refine z_iload2 gi_148_6 ?_
      refine z_icmp_gtT gi_148_7 (by omega) (by omega) (by omega) ?_
      refine z_pushJ gp_148_14 ?_
      refine z_bret0 gi_148_15 gr_148 ?_
      show zW _ _ _ _ _ _ _ _ _ _
      refine z_bret0 gi_151_11 gr_151 ?_
      show zW _ _ _ _ _ _ _ _ _ _
      refine z_if_eqT gi_184_5 zr_0 (by decide) ?_
      refine z_pushJ gp_184_36 ?_
      refine z_iret gi_184_37 gr_184 ?_
      refine ⟨?_, ?_⟩
      · first | rfl | exact congrArg (fun v => some (zi v)) (by omega) | (exfalso; omega)
      · exact hr
    · refine z_pushJ gp_87_12 ?_
      refine z_goto gi_87_13 ?_
      refine z_bret1 gi_87_17 gr_87 ?_
      show zW _ _ _ _ _ _ _ _ _ _
      refine z_if_eqF gi_108_8 zr_1 (by decide) ?_
      refine z_iload2 rfl ?_
      refine z_if_lt rfl (by omega) (fun h3 => ?_) (fun h3 => ?_)
      · refine z_pushJ gp_108_21 ?_
        refine z_iret gi_108_22 gr_108 ?_
        refine ⟨_, rfl, ?_⟩
        show zW _ _ _ _ [some (.ref 50), some (zi p), some (zi q)] _ _ _ _ _
        refine z_aload0 gi_184_0 ?_
        refine z_iload1 gi_184_1 ?_
        refine z_cV1 gi_184_2 gk_50 go_151 (Nat.le_of_ble_eq_true rfl) gc_151_RI ?_
        refine z_iload1 gi_151_0 ?_
        refine z_pushJ gp_151_1 ?_
        refine z_aload0 gi_151_2 ?_
        refine z_getI (v := J 8 2) gi_151_3 gk_50 (y2.symm) ?_
        refine z_pushJ gp_151_6 ?_
        refine z_isub (e := (J 8 2) - 1) gi_151_7 rfl ?_
        refine z_cS3 gi_151_8 (Nat.le_of_ble_eq_true rfl) gc_148_III ?_
        refine z_iload0 gi_148_0 ?_
        refine z_iload1 gi_148_1 ?_
        refine z_icmp_ltF gi_148_2 (by omega) zr_0 (by omega) ?_
        refine z_iload0 gi_148_5 ?_
        refine z_iload2 gi_148_6 ?_
        refine z_icmp_gtF gi_148_7 (by omega) (by omega) (by omega) ?_
        refine z_pushJ gp_148_10 ?_
        refine z_goto gi_148_11 ?_
        refine z_bret1 gi_148_15 gr_148 ?_
        show zW _ _ _ _ _ _ _ _ _ _
        refine z_bret1 gi_151_11 gr_151 ?_
        show zW _ _ _ _ _ _ _ _ _ _
        refine z_if_eqF gi_184_5 zr_1 (by decide) ?_
        refine z_iload2 gi_184_8 ?_
        refine z_pushJ gp_184_9 ?_
        refine z_pushJ gp_184_10 ?_
        refine z_cS3 gi_184_12 (Nat.le_of_ble_eq_true rfl) gc_148_III ?_
        refine z_iload0 gi_148_0 ?_
        refine z_iload1 gi_148_1 ?_
        refine z_icmp_ltT gi_148_2 (by omega) zr_0 (by omega) ?_
        refine z_pushJ gp_148_14 ?_
        refine z_bret0 gi_148_15 gr_148 ?_
        show zW _ _ _ _ _ _ _ _ _ _
        refine z_if_eqT gi_184_15 zr_0 (by decide) ?_
        refine z_pushJ gp_184_36 ?_
        refine z_iret gi_184_37 gr_184 ?_
        refine ⟨?_, ?_⟩
        · first | rfl | exact congrArg (fun v => some (zi v)) (by omega) | (exfalso; omega)
        · exact hr
      · refine z_iload2 rfl ?_
        refine z_pushJ gp_108_16 ?_
        refine z_icmp_lt rfl (by omega) (by decide) (fun h4 => ?_) (fun h4 => ?_)
        · refine z_aload0 rfl ?_
          refine z_getR (r := 8) rfl gk_0 (hR _ rm_0_1) ?_
          refine z_iload1 rfl ?_
          refine z_iload2 rfl ?_
          refine z_pushJ gp_108_29 ?_
          refine z_idiv (e := q / 1000) rfl (by omega) (by omega) rfl ?_
          refine z_iload2 rfl ?_
          refine z_pushJ gp_108_34 ?_
          refine z_irem (e := q % 1000) rfl (by omega) (by omega) rfl ?_
          refine z_callVk (As := [_, _, _]) (v := tw T (cN J) p (q / 1000) (q % 1000)) rfl rfl gk_8 (Nat.le_of_ble_eq_true rfl) (Nat.le_of_ble_eq_true rfl) (twelfths_k (A := J) hR zK_r rfl rfl y3 t2 t1 (by omega) (by omega) (by omega)) (fun J2 hJ2 => ?_)
          have qt := @tw_r T (cN J) p (q / 1000) (q % 1000)
          refine z_iret rfl gr_108 ?_
          refine ⟨_, rfl, ?_⟩
          show zW _ _ _ _ [some (.ref 50), some (zi p), some (zi q)] _ _ _ _ _
          refine z_aload0 gi_184_0 ?_
          refine z_iload1 gi_184_1 ?_
          refine z_cV1 gi_184_2 gk_50 go_151 (Nat.le_of_ble_eq_true rfl) gc_151_RI ?_
          refine z_iload1 gi_151_0 ?_
          refine z_pushJ gp_151_1 ?_
          refine z_aload0 gi_151_2 ?_
          refine z_getI (v := J 8 2) gi_151_3 gk_50 ((hJ2 50 1 rfl).trans y2.symm) ?_
          refine z_pushJ gp_151_6 ?_
          refine z_isub (e := (J 8 2) - 1) gi_151_7 rfl ?_
          refine z_cS3 gi_151_8 (Nat.le_of_ble_eq_true rfl) gc_148_III ?_
          refine z_iload0 gi_148_0 ?_
          refine z_iload1 gi_148_1 ?_
          refine z_icmp_ltF gi_148_2 (by omega) zr_0 (by omega) ?_
          refine z_iload0 gi_148_5 ?_
          refine z_iload2 gi_148_6 ?_
          refine z_icmp_gtF gi_148_7 (by omega) (by omega) (by omega) ?_
          refine z_pushJ gp_148_10 ?_
          refine z_goto gi_148_11 ?_
          refine z_bret1 gi_148_15 gr_148 ?_
          show zW _ _ _ _ _ _ _ _ _ _
          refine z_bret1 gi_151_11 gr_151 ?_
          show zW _ _ _ _ _ _ _ _ _ _
          refine z_if_eqF gi_184_5 zr_1 (by decide) ?_
          refine z_iload2 gi_184_8 ?_
          refine z_pushJ gp_184_9 ?_
          refine z_pushJ gp_184_10 ?_
          refine z_cS3 gi_184_12 (Nat.le_of_ble_eq_true rfl) gc_148_III ?_
          refine z_iload0 gi_148_0 ?_
          refine z_iload1 gi_148_1 ?_
          refine z_icmp_ltF gi_148_2 (by omega) zr_0 (by omega) ?_
          refine z_iload0 gi_148_5 ?_
          refine z_iload2 gi_148_6 ?_
          refine z_icmp_gtF gi_148_7 (by omega) (by decide) (by omega) ?_
          refine z_pushJ gp_148_10 ?_
          refine z_goto gi_148_11 ?_
          refine z_bret1 gi_148_15 gr_148 ?_
          show zW _ _ _ _ _ _ _ _ _ _
          refine z_if_eqF gi_184_15 zr_1 (by decide) ?_
          refine z_aload0 rfl ?_
          refine z_iload1 rfl ?_
          refine z_iload2 rfl ?_
          refine z_pushJ gp_184_21 ?_
          refine z_idiv (e := q / 1000) rfl (by omega) (by omega) rfl ?_
          refine z_iload2 rfl ?_
          refine z_pushJ gp_184_26 ?_
          refine z_irem (e := q % 1000) rfl (by omega) (by omega) rfl ?_
          refine z_callVk (As := [_, _, _]) (v := tw T (cN J) p (q / 1000) (q % 1000)) rfl rfl gk_50 (Nat.le_of_ble_eq_true rfl) (Nat.le_of_ble_eq_true rfl) (hearsBy_k (A := J) (n := J 8 2) hRr hJ2 y1.symm y2.symm y3 t3 t1 (by omega) (by omega) (by omega)) (fun J4 hJ4 => ?_)
          refine z_goto rfl ?_
          refine z_iret gi_184_37 gr_184 ?_
          refine ⟨?_, ?_⟩
          · first | rfl | exact congrArg (fun v => some (zi v)) (by omega) | (exfalso; omega)
          · exact Rel_S (zK_m hJ4 kS_T) zK_r hr
        · refine z_pushJ gp_108_21 ?_
          refine z_iret gi_108_22 gr_108 ?_
          refine ⟨_, rfl, ?_⟩
          show zW _ _ _ _ [some (.ref 50), some (zi p), some (zi q)] _ _ _ _ _
          refine z_aload0 gi_184_0 ?_
          refine z_iload1 gi_184_1 ?_
          refine z_cV1 gi_184_2 gk_50 go_151 (Nat.le_of_ble_eq_true rfl) gc_151_RI ?_
          refine z_iload1 gi_151_0 ?_
          refine z_pushJ gp_151_1 ?_
          refine z_aload0 gi_151_2 ?_
          refine z_getI (v := J 8 2) gi_151_3 gk_50 (y2.symm) ?_
          refine z_pushJ gp_151_6 ?_
          refine z_isub (e := (J 8 2) - 1) gi_151_7 rfl ?_
          refine z_cS3 gi_151_8 (Nat.le_of_ble_eq_true rfl) gc_148_III ?_
          refine z_iload0 gi_148_0 ?_
          refine z_iload1 gi_148_1 ?_
          refine z_icmp_ltF gi_148_2 (by omega) zr_0 (by omega) ?_
          refine z_iload0 gi_148_5 ?_
          refine z_iload2 gi_148_6 ?_
          refine z_icmp_gtF gi_148_7 (by omega) (by omega) (by omega) ?_
          refine z_pushJ gp_148_10 ?_
          refine z_goto gi_148_11 ?_
          refine z_bret1 gi_148_15 gr_148 ?_
          show zW _ _ _ _ _ _ _ _ _ _
          refine z_bret1 gi_151_11 gr_151 ?_
          show zW _ _ _ _ _ _ _ _ _ _
          refine z_if_eqF gi_184_5 zr_1 (by decide) ?_
          refine z_iload2 gi_184_8 ?_
          refine z_pushJ gp_184_9 ?_
          refine z_pushJ gp_184_10 ?_
          refine z_cS3 gi_184_12 (Nat.le_of_ble_eq_true rfl) gc_148_III ?_
          refine z_iload0 gi_148_0 ?_
          refine z_iload1 gi_148_1 ?_
          refine z_icmp_ltF gi_148_2 (by omega) zr_0 (by omega) ?_
          refine z_iload0 gi_148_5 ?_
          refine z_iload2 gi_148_6 ?_
          refine z_icmp_gtT gi_148_7 (by omega) (by decide) (by omega) ?_
          refine z_pushJ gp_148_14 ?_
          refine z_bret0 gi_148_15 gr_148 ?_
          show zW _ _ _ _ _ _ _ _ _ _
          refine z_if_eqT gi_184_15 zr_0 (by decide) ?_
          refine z_pushJ gp_184_36 ?_
          refine z_iret gi_184_37 gr_184 ?_
          refine ⟨?_, ?_⟩
          · first | rfl | exact congrArg (fun v => some (zi v)) (by omega) | (exfalso; omega)
          · exact hr
