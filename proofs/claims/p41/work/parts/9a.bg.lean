theorem cN_out {J : zA} {p w : Int} (hp : J 8 2 ≤ p) (hw : 0 ≤ w ∧ w < 5) : cN J p w = 0 := by
  unfold cN
  rw [if_neg (by omega), if_neg (by omega)]
theorem sShare_all {J : zA} (h : zNr (J 8 2) (cN J)) (p : Int) (hp : 0 ≤ p) : 0 ≤ sShare (cN J) (J 8 2) p ∧ sShare (cN J) (J 8 2) p ≤ 1000000 := by
  by_cases c : p < J 8 2
  · exact sShare_r h ⟨hp, c⟩
  · unfold sShare
    rw [cN_out (by omega) (by decide)]
    split
    · decide
    · rw [Int.mul_zero, Int.zero_ediv]
      decide
theorem st_best {X : Nat × (Nat → Int32)} {d : Nat} {J M : zA} {R : zR} {s q k : Int} (hr : Rel X J M R) (hs : -2147483648 ≤ s ∧ s < 2147483648) (hq : -2147483648 ≤ q ∧ q < 2147483648) (hk : -2147483648 ≤ k ∧ k < 2147483648)  : zW X (d + 20) 114 0 (gEn 114 [(.ref 0), (zi s), (zi q), (zi k)]) [] J M R (stB X (d + 20) 206 [(zi s), (zi q), (zi k)]) := by
  have hr0 := hr
  obtain ⟨hR, hG, hY, hD, hP, hC, hAc, hS, hTp, hX, hW⟩ := hr0
  have hRr : zRoR R := zRoR_of hR
  have hY0 := hY
  obtain ⟨y1, y2, y3⟩ := hY0
  have yn := zNn y3
  have hX0 := hX
  obtain ⟨T, t1, t2, t3⟩ := hX0
  have qs8 := zshl_8 yn
  show zW _ _ _ _ [some (.ref 0), some (zi s), some (zi q), some (zi k), none] _ _ _ _ _
  refine z_iload1 rfl ?_
  refine z_if_lt rfl (by omega) (fun h1 => ?_) (fun h1 => ?_)
  · refine z_pushJ gp_114_29 ?_
    refine z_iret gi_114_30 gr_114 ?_
    refine ⟨_, rfl, ?_⟩
    show zW _ _ _ _ [some (.ref 50), some (zi s), some (zi q), some (zi k)] _ _ _ _ _
    refine z_iload1 gi_206_0 ?_
    refine z_pushJ gp_206_1 ?_
    refine z_pushJ gp_206_2 ?_
    refine z_aload0 gi_206_3 ?_
    refine z_getI (v := J 8 2) gi_206_4 gk_50 (y2.symm) ?_
    refine z_ishl (e := zshl 1 (J 8 2)) gi_206_7 rfl ?_
    refine z_pushJ gp_206_8 ?_
    refine z_isub (e := (zshl 1 (J 8 2)) - 1) gi_206_9 rfl ?_
    refine z_cS3 gi_206_10 (Nat.le_of_ble_eq_true rfl) gc_148_III ?_
    refine z_iload0 gi_148_0 ?_
    refine z_iload1 gi_148_1 ?_
    refine z_icmp_ltT gi_148_2 (by omega) zr_0 (by omega) ?_
    refine z_pushJ gp_148_14 ?_
    refine z_bret0 gi_148_15 gr_148 ?_
    show zW _ _ _ _ _ _ _ _ _ _
    refine z_if_eqT gi_206_13 zr_0 (by decide) ?_
    refine z_pushJ gp_206_31 ?_
    refine z_iret gi_206_32 gr_206 ?_
    refine ⟨?_, ?_⟩
    · exact ⟨_, rfl⟩
    · exact hr
  · refine z_iload1 rfl ?_
    refine z_pushJ gp_114_5 ?_
    refine z_aload0 rfl ?_
    refine z_getR (r := 8) rfl gk_0 (hR _ rm_0_1) ?_
    refine z_getI (v := J 8 2) rfl gk_8 (rfl) ?_
    refine z_ishl (e := zshl 1 (J 8 2)) rfl rfl ?_
    refine z_icmp_ge rfl (by omega) (by omega) (fun h2 => ?_) (fun h2 => ?_)
    · refine z_pushJ gp_114_29 ?_
      refine z_iret gi_114_30 gr_114 ?_
      refine ⟨_, rfl, ?_⟩
      show zW _ _ _ _ [some (.ref 50), some (zi s), some (zi q), some (zi k)] _ _ _ _ _
      refine z_iload1 gi_206_0 ?_
      refine z_pushJ gp_206_1 ?_
      refine z_pushJ gp_206_2 ?_
      refine z_aload0 gi_206_3 ?_
      refine z_getI (v := J 8 2) gi_206_4 gk_50 (y2.symm) ?_
      refine z_ishl (e := zshl 1 (J 8 2)) gi_206_7 rfl ?_
      refine z_pushJ gp_206_8 ?_
      refine z_isub (e := (zshl 1 (J 8 2)) - 1) gi_206_9 rfl ?_
      refine z_cS3 gi_206_10 (Nat.le_of_ble_eq_true rfl) gc_148_III ?_
      refine z_iload0 gi_148_0 ?_
      refine z_iload1 gi_148_1 ?_
      refine z_icmp_ltF gi_148_2 (by omega) zr_0 (by omega) ?_
      refine z_iload0 gi_148_5 ?_
      refine z_iload2 gi_148_6 ?_
      refine z_icmp_gtT gi_148_7 (by omega) (by omega) (by omega) ?_
      refine z_pushJ gp_148_14 ?_
      refine z_bret0 gi_148_15 gr_148 ?_
      show zW _ _ _ _ _ _ _ _ _ _
      refine z_if_eqT gi_206_13 zr_0 (by decide) ?_
      refine z_pushJ gp_206_31 ?_
      refine z_iret gi_206_32 gr_206 ?_
      refine ⟨?_, ?_⟩
      · exact ⟨_, rfl⟩
      · exact hr
    · refine z_iload2 rfl ?_
      refine z_cS1 rfl (Nat.le_of_ble_eq_true rfl) gc_145_I ?_
      refine z_iload0 gi_145_0 ?_
      refine z_pushJ gp_145_1 ?_
      refine z_icmp_lt gi_145_2 (by omega) zr_1 (fun h3 => ?_) (fun h3 => ?_)
      · refine z_pushJ gp_145_15 ?_
        refine z_bret0 gi_145_16 gr_145 ?_
        show zW _ _ _ _ _ _ _ _ _ _
        refine z_if_eqT gi_114_21 zr_0 (by decide) ?_
        refine z_pushJ gp_114_29 ?_
        refine z_iret gi_114_30 gr_114 ?_
        refine ⟨_, rfl, ?_⟩
        show zW _ _ _ _ [some (.ref 50), some (zi s), some (zi q), some (zi k)] _ _ _ _ _
        refine z_iload1 gi_206_0 ?_
        refine z_pushJ gp_206_1 ?_
        refine z_pushJ gp_206_2 ?_
        refine z_aload0 gi_206_3 ?_
        refine z_getI (v := J 8 2) gi_206_4 gk_50 (y2.symm) ?_
        refine z_ishl (e := zshl 1 (J 8 2)) gi_206_7 rfl ?_
        refine z_pushJ gp_206_8 ?_
        refine z_isub (e := (zshl 1 (J 8 2)) - 1) gi_206_9 rfl ?_
        refine z_cS3 gi_206_10 (Nat.le_of_ble_eq_true rfl) gc_148_III ?_
        refine z_iload0 gi_148_0 ?_
        refine z_iload1 gi_148_1 ?_
        refine z_icmp_ltF gi_148_2 (by omega) zr_0 (by omega) ?_
        refine z_iload0 gi_148_5 ?_
        refine z_iload2 gi_148_6 ?_
        refine z_icmp_gtF gi_148_7 (by omega) (by omega) (by omega) ?_
        refine z_pushJ gp_148_10 ?_
        refine z_goto gi_148_11 ?_
        refine z_bret1 gi_148_15 gr_148 ?_
        show zW _ _ _ _ _ _ _ _ _ _
        refine z_if_eqF gi_206_13 zr_1 (by decide) ?_
        refine z_iload2 gi_206_16 ?_
        refine z_pushJ gp_206_17 ?_
        refine z_pushJ gp_206_18 ?_
        refine z_cS3 gi_206_20 (Nat.le_of_ble_eq_true rfl) gc_148_III ?_
        refine z_iload0 gi_148_0 ?_
        refine z_iload1 gi_148_1 ?_
        refine z_icmp_ltT gi_148_2 (by omega) zr_1 (by omega) ?_
        refine z_pushJ gp_148_14 ?_
        refine z_bret0 gi_148_15 gr_148 ?_
        show zW _ _ _ _ _ _ _ _ _ _
        refine z_if_eqT gi_206_23 zr_0 (by decide) ?_
        refine z_pushJ gp_206_31 ?_
        refine z_iret gi_206_32 gr_206 ?_
        refine ⟨?_, ?_⟩
        · exact ⟨_, rfl⟩
        · exact hr
      · refine z_iload0 gi_145_5 ?_
        refine z_pushJ gp_145_6 ?_
        refine z_icmp_gt gi_145_8 (by omega) zr_99 (fun h4 => ?_) (fun h4 => ?_)
        · refine z_pushJ gp_145_15 ?_
          refine z_bret0 gi_145_16 gr_145 ?_
          show zW _ _ _ _ _ _ _ _ _ _
          refine z_if_eqT gi_114_21 zr_0 (by decide) ?_
          refine z_pushJ gp_114_29 ?_
          refine z_iret gi_114_30 gr_114 ?_
          refine ⟨_, rfl, ?_⟩
          show zW _ _ _ _ [some (.ref 50), some (zi s), some (zi q), some (zi k)] _ _ _ _ _
          refine z_iload1 gi_206_0 ?_
          refine z_pushJ gp_206_1 ?_
          refine z_pushJ gp_206_2 ?_
          refine z_aload0 gi_206_3 ?_
          refine z_getI (v := J 8 2) gi_206_4 gk_50 (y2.symm) ?_
          refine z_ishl (e := zshl 1 (J 8 2)) gi_206_7 rfl ?_
          refine z_pushJ gp_206_8 ?_
          refine z_isub (e := (zshl 1 (J 8 2)) - 1) gi_206_9 rfl ?_
          refine z_cS3 gi_206_10 (Nat.le_of_ble_eq_true rfl) gc_148_III ?_
          refine z_iload0 gi_148_0 ?_
          refine z_iload1 gi_148_1 ?_
          refine z_icmp_ltF gi_148_2 (by omega) zr_0 (by omega) ?_
          refine z_iload0 gi_148_5 ?_
          refine z_iload2 gi_148_6 ?_
          refine z_icmp_gtF gi_148_7 (by omega) (by omega) (by omega) ?_
          refine z_pushJ gp_148_10 ?_
          refine z_goto gi_148_11 ?_
          refine z_bret1 gi_148_15 gr_148 ?_
          show zW _ _ _ _ _ _ _ _ _ _
          refine z_if_eqF gi_206_13 zr_1 (by decide) ?_
          refine z_iload2 gi_206_16 ?_
          refine z_pushJ gp_206_17 ?_
          refine z_pushJ gp_206_18 ?_
          refine z_cS3 gi_206_20 (Nat.le_of_ble_eq_true rfl) gc_148_III ?_
          refine z_iload0 gi_148_0 ?_
          refine z_iload1 gi_148_1 ?_
          refine z_icmp_ltF gi_148_2 (by omega) zr_1 (by omega) ?_
          refine z_iload0 gi_148_5 ?_
          refine z_iload2 gi_148_6 ?_
          refine z_icmp_gtT gi_148_7 (by omega) zr_99 (by omega) ?_
          refine z_pushJ gp_148_14 ?_
          refine z_bret0 gi_148_15 gr_148 ?_
          show zW _ _ _ _ _ _ _ _ _ _
          refine z_if_eqT gi_206_23 zr_0 (by decide) ?_
          refine z_pushJ gp_206_31 ?_
          refine z_iret gi_206_32 gr_206 ?_
          refine ⟨?_, ?_⟩
          · exact ⟨_, rfl⟩
          · exact hr
        · refine z_pushJ gp_145_11 ?_
          refine z_goto gi_145_12 ?_
          refine z_bret1 gi_145_16 gr_145 ?_
          show zW _ _ _ _ _ _ _ _ _ _
          refine z_if_eqF gi_114_21 zr_1 (by decide) ?_
          refine z_iload3 rfl ?_
          refine z_pushJ gp_114_25 ?_
          refine z_icmp_ge rfl (by omega) zrn_1 (fun h5 => ?_) (fun h5 => ?_)
          · refine z_iload1 rfl ?_
            refine z_callS (As := [_]) _ rfl rfl (Nat.le_of_ble_eq_true rfl) (Nat.le_of_ble_eq_true rfl) bitCount_k (fun r J2 M2 R2 h2 => ?_)
            obtain ⟨bv, rfl, qbv, e1, e2, e3⟩ := h2
            obtain rfl : J = J2 := e1.symm
            obtain rfl : M = M2 := e2.symm
            obtain rfl : R = R2 := e3.symm
            show zW _ _ _ _ _ (_ :: _) _ _ _ _
            refine z_istore (ls1 := [some (.ref 0), some (zi s), some (zi q), some (zi k), some (zi bv)]) rfl rfl ?_
            refine z_iload3 rfl ?_
            refine z_iload4 rfl ?_
            refine z_icmp_lt rfl (by omega) (by omega) (fun h6 => ?_) (fun h6 => ?_)
            · refine z_iload4 rfl ?_
              refine z_pushJ gp_114_48 ?_
              refine z_icmp_le rfl (by omega) zr_6 (fun h7 => ?_) (fun h7 => ?_)
              · refine z_aload0 rfl ?_
                refine z_getR (r := 18) rfl gk_0 (hR _ rm_0_3) ?_
                refine z_iload1 rfl ?_
                refine z_iload2 rfl ?_
                refine z_cV2 rfl gk_18 go_51 (Nat.le_of_ble_eq_true rfl) gc_51_RII ?_
                refine z_aload0 rfl ?_
                refine z_iload2 rfl ?_
                refine z_putI (y := 3) rfl rfl gk_18 ?_
                refine z_aload0 rfl ?_
                refine z_pushJ gp_51_6 ?_
                refine z_putI (y := 4) rfl rfl gk_18 ?_
                refine z_aload0 rfl ?_
                refine z_pushJ gp_51_11 ?_
                refine z_iload1 rfl ?_
                refine z_pushJ gp_51_13 ?_
                refine z_pushJ gp_51_14 ?_
                refine z_pushJ gp_51_15 ?_
                refine z_callV (As := [_, _, _, _, _]) _ rfl rfl rfl (Nat.le_of_ble_eq_true rfl) (Nat.le_of_ble_eq_true rfl) (tryC_z (A := J) (q := q) hR rfl rfl y3 t2 t1 (fun p q1 _ => sShare_all y3 p q1) (by omega) 7 (d + 18) 0 s 0 0 0 _ ⟨zK_x (a := 18) (x := 4) (v := -1) (zK_x (a := 18) (x := 3) (v := q) zK_r rfl) rfl, rfl, (show (-1 : Int) ≤ -1 ∧ (-1 : Int) ≤ 100000000 by decide)⟩ (by omega) (by omega) (by decide) (by decide) (by decide)) (fun r J2 M2 R2 h2 => ?_)
                obtain ⟨rfl, hJ2, e2, e3⟩ := h2
                obtain rfl : M = M2 := e2.symm
                obtain rfl : R = R2 := e3.symm
                show zW _ _ _ _ _ _ _ _ _ _
                refine z_vret rfl gr_51 ?_
                show zW _ _ _ _ _ _ _ _ _ _
                refine z_iload3 rfl ?_
                refine z_if_ge rfl (by omega) (fun h8 => ?_) (fun h8 => ?_)
                · refine z_aload0 rfl ?_
                  refine z_getR (r := 18) rfl gk_0 (hR _ rm_0_3) ?_
                  refine z_iload3 rfl ?_
                  refine z_cV1 rfl gk_18 go_52 (Nat.le_of_ble_eq_true rfl) gc_52_RI ?_
                  refine z_iload1 rfl ?_
                  refine z_if_ltF rfl (by omega) (by omega) ?_
                  refine z_iload1 rfl ?_
                  refine z_pushJ gp_52_5 ?_
                  refine z_icmp_ge rfl (by omega) zr_6 (fun h9 => ?_) (fun h9 => ?_)
                  · refine z_pushJ gp_52_19 ?_
                    refine z_iret gi_52_21 gr_52 ?_
                    show zW _ _ _ _ _ _ _ _ _ _
                    refine z_iret gi_114_87 gr_114 ?_
                    refine ⟨_, rfl, ?_⟩
                    show zW _ _ _ _ [some (.ref 50), some (zi s), some (zi q), some (zi k)] _ _ _ _ _
                    refine z_iload1 gi_206_0 ?_
                    refine z_pushJ gp_206_1 ?_
                    refine z_pushJ gp_206_2 ?_
                    refine z_aload0 gi_206_3 ?_
                    refine z_getI (v := J 8 2) gi_206_4 gk_50 ((hJ2.1 50 1 rfl).trans y2.symm) ?_
                    refine z_ishl (e := zshl 1 (J 8 2)) gi_206_7 rfl ?_
                    refine z_pushJ gp_206_8 ?_
                    refine z_isub (e := (zshl 1 (J 8 2)) - 1) gi_206_9 rfl ?_
                    refine z_cS3 gi_206_10 (Nat.le_of_ble_eq_true rfl) gc_148_III ?_
                    refine z_iload0 gi_148_0 ?_
                    refine z_iload1 gi_148_1 ?_
                    refine z_icmp_ltF gi_148_2 (by omega) zr_0 (by omega) ?_
                    refine z_iload0 gi_148_5 ?_
                    refine z_iload2 gi_148_6 ?_
                    refine z_icmp_gtF gi_148_7 (by omega) (by omega) (by omega) ?_
                    refine z_pushJ gp_148_10 ?_
                    refine z_goto gi_148_11 ?_
                    refine z_bret1 gi_148_15 gr_148 ?_
                    show zW _ _ _ _ _ _ _ _ _ _
                    refine z_if_eqF gi_206_13 zr_1 (by decide) ?_
                    refine z_iload2 gi_206_16 ?_
                    refine z_pushJ gp_206_17 ?_
                    refine z_pushJ gp_206_18 ?_
                    refine z_cS3 gi_206_20 (Nat.le_of_ble_eq_true rfl) gc_148_III ?_
                    refine z_iload0 gi_148_0 ?_
                    refine z_iload1 gi_148_1 ?_
                    refine z_icmp_ltF gi_148_2 (by omega) zr_1 (by omega) ?_
                    refine z_iload0 gi_148_5 ?_
                    refine z_iload2 gi_148_6 ?_
                    refine z_icmp_gtF gi_148_7 (by omega) zr_99 (by omega) ?_
                    refine z_pushJ gp_148_10 ?_
                    refine z_goto gi_148_11 ?_
                    refine z_bret1 gi_148_15 gr_148 ?_
                    show zW _ _ _ _ _ _ _ _ _ _
                    refine z_if_eqF gi_206_23 zr_1 (by decide) ?_
                    refine z_iload3 gi_206_26 ?_
                    refine z_pushJ gp_206_27 ?_
                    refine z_icmp_geT gi_206_28 (by omega) zrn_1 (by omega) ?_
                    refine z_iload1 gi_206_33 ?_
                    refine z_callS (As := [_]) _ gi_206_34 rfl (Nat.le_of_ble_eq_true rfl) (Nat.le_of_ble_eq_true rfl) (bits_k (by omega)) (fun r J4 M4 R4 h4 => ?_)
                    obtain ⟨bw10, rfl, qbw10, e1, e2, e3⟩ := h4
                    obtain rfl : J2 = J4 := e1.symm
                    obtain rfl : M = M4 := e2.symm
                    obtain rfl : R = R4 := e3.symm
                    show zW _ _ _ _ _ (_ :: _) _ _ _ _
                    refine z_pushJ gp_206_37 ?_
                    refine z_icmp_le gi_206_39 (by omega) zr_6 (fun h11 => ?_) (fun h11 => ?_)
                    · refine z_aload0 gi_206_45 ?_
                      refine z_pushJ gp_206_46 ?_
                      refine z_putI (y := 38) gi_206_47 rfl gk_50 ?_
                      refine z_aload0 gi_206_50 ?_
                      refine z_iload1 gi_206_51 ?_
                      refine z_pushJ gp_206_52 ?_
                      refine z_pushJ gp_206_53 ?_
                      refine z_iload2 gi_206_54 ?_
                      have hsb := zK_x (a := 50) (x := 38) (v := -1) hJ2.1 rfl
                      have hVb := zK_m hsb kV_S
                      refine z_callV (As := [_, _, _, _]) _ gi_206_55 rfl rfl (Nat.le_of_ble_eq_true rfl) (Nat.le_of_ble_eq_true rfl) (goO_z (A := zU J2 50 38 (-1)) (n := J 8 2) (q := q) hRr ((rN_V hVb).trans y1.symm) ((hVb 50 1 rfl).trans y2.symm) y3 (LawR_V t3 hVb) t1 ((hsb 50 35 rfl).trans hW.2) (by omega) (by omega) 9 (d + 19) 0 0 _ ⟨zK_r, (by rw [zU_e]; decide), fun i i1 i2 => absurd i2 (by omega)⟩ (by decide) (by decide +kernel) (by omega)) (fun r J5 M5 R5 h5 => ?_)
                      obtain ⟨rfl, hJ5, e2, e3⟩ := h5
                      obtain rfl : M = M5 := e2.symm
                      obtain rfl : R = R5 := e3.symm
                      show zW _ _ _ _ _ _ _ _ _ _
                      have hs5 := zK_t hsb hJ5.1
                      refine z_iload3 gi_206_58 ?_
                      refine z_if_geT gi_206_59 (by omega) (by omega) ?_
                      refine z_iload3 gi_206_69 ?_
                      refine z_iload1 gi_206_70 ?_
                      refine z_callS (As := [_]) _ gi_206_71 rfl (Nat.le_of_ble_eq_true rfl) (Nat.le_of_ble_eq_true rfl) (bits_k (by omega)) (fun r J4 M4 R4 h4 => ?_)
                      obtain ⟨bw12, rfl, qbw12, e1, e2, e3⟩ := h4
                      obtain rfl : J5 = J4 := e1.symm
                      obtain rfl : M = M4 := e2.symm
                      obtain rfl : R = R4 := e3.symm
                      show zW _ _ _ _ _ (_ :: _) _ _ _ _
                      refine z_icmp_ge gi_206_74 (by omega) (by omega) (fun h13 => ?_) (fun h13 => ?_)
                      · refine z_pushJ gp_206_86 ?_
                        refine z_iret gi_206_88 gr_206 ?_
                        refine ⟨?_, ?_⟩
                        · exact ⟨_, rfl⟩
                        · exact Rel_S hs5 zK_r hr
                      · refine z_aload0 gi_206_77 ?_
                        refine z_getR (r := 72) gi_206_78 gk_50 (hRr _ rm_50_37 (by decide)) ?_
                        refine z_iload3 gi_206_81 ?_
                        refine z_iald (v := J5 72 k) gi_206_82 gk_72 (by decide) (by omega) (rfl) ?_
                        refine z_goto gi_206_83 ?_
                        refine z_iret gi_206_88 gr_206 ?_
                        refine ⟨?_, ?_⟩
                        · exact ⟨_, rfl⟩
                        · exact Rel_S hs5 zK_r hr
                    · refine z_pushJ gp_206_42 ?_
                      refine z_iret gi_206_44 gr_206 ?_
                      refine ⟨?_, ?_⟩
                      · exact ⟨_, rfl⟩
                      · exact Rel_S hJ2.1 zK_r hr
                  · refine z_aload0 rfl ?_
                    refine z_getR (r := 20) rfl gk_18 (hR _ rm_18_2) ?_
                    refine z_iload1 rfl ?_
                    refine z_iald (v := J2 20 k) rfl gk_20 (by decide) (by omega) (rfl) ?_
                    refine z_goto rfl ?_
                    refine z_iret gi_52_21 gr_52 ?_
                    show zW _ _ _ _ _ _ _ _ _ _
                    refine z_iret gi_114_87 gr_114 ?_
                    refine ⟨_, rfl, ?_⟩
                    show zW _ _ _ _ [some (.ref 50), some (zi s), some (zi q), some (zi k)] _ _ _ _ _
                    refine z_iload1 gi_206_0 ?_
                    refine z_pushJ gp_206_1 ?_
                    refine z_pushJ gp_206_2 ?_
                    refine z_aload0 gi_206_3 ?_
                    refine z_getI (v := J 8 2) gi_206_4 gk_50 ((hJ2.1 50 1 rfl).trans y2.symm) ?_
                    refine z_ishl (e := zshl 1 (J 8 2)) gi_206_7 rfl ?_
                    refine z_pushJ gp_206_8 ?_
                    refine z_isub (e := (zshl 1 (J 8 2)) - 1) gi_206_9 rfl ?_
                    refine z_cS3 gi_206_10 (Nat.le_of_ble_eq_true rfl) gc_148_III ?_
                    refine z_iload0 gi_148_0 ?_
                    refine z_iload1 gi_148_1 ?_
                    refine z_icmp_ltF gi_148_2 (by omega) zr_0 (by omega) ?_
                    refine z_iload0 gi_148_5 ?_
                    refine z_iload2 gi_148_6 ?_
                    refine z_icmp_gtF gi_148_7 (by omega) (by omega) (by omega) ?_
                    refine z_pushJ gp_148_10 ?_
                    refine z_goto gi_148_11 ?_
                    refine z_bret1 gi_148_15 gr_148 ?_
                    show zW _ _ _ _ _ _ _ _ _ _
                    refine z_if_eqF gi_206_13 zr_1 (by decide) ?_
                    refine z_iload2 gi_206_16 ?_
                    refine z_pushJ gp_206_17 ?_
                    refine z_pushJ gp_206_18 ?_
                    refine z_cS3 gi_206_20 (Nat.le_of_ble_eq_true rfl) gc_148_III ?_
                    refine z_iload0 gi_148_0 ?_
                    refine z_iload1 gi_148_1 ?_
                    refine z_icmp_ltF gi_148_2 (by omega) zr_1 (by omega) ?_
                    refine z_iload0 gi_148_5 ?_
                    refine z_iload2 gi_148_6 ?_
                    refine z_icmp_gtF gi_148_7 (by omega) zr_99 (by omega) ?_
                    refine z_pushJ gp_148_10 ?_
                    refine z_goto gi_148_11 ?_
                    refine z_bret1 gi_148_15 gr_148 ?_
                    show zW _ _ _ _ _ _ _ _ _ _
                    refine z_if_eqF gi_206_23 zr_1 (by decide) ?_
                    refine z_iload3 gi_206_26 ?_
                    refine z_pushJ gp_206_27 ?_
                    refine z_icmp_geT gi_206_28 (by omega) zrn_1 (by omega) ?_
                    refine z_iload1 gi_206_33 ?_
                    refine z_callS (As := [_]) _ gi_206_34 rfl (Nat.le_of_ble_eq_true rfl) (Nat.le_of_ble_eq_true rfl) (bits_k (by omega)) (fun r J4 M4 R4 h4 => ?_)
                    obtain ⟨bw10, rfl, qbw10, e1, e2, e3⟩ := h4
                    obtain rfl : J2 = J4 := e1.symm
                    obtain rfl : M = M4 := e2.symm
                    obtain rfl : R = R4 := e3.symm
                    show zW _ _ _ _ _ (_ :: _) _ _ _ _
                    refine z_pushJ gp_206_37 ?_
                    refine z_icmp_le gi_206_39 (by omega) zr_6 (fun h11 => ?_) (fun h11 => ?_)
                    · refine z_aload0 gi_206_45 ?_
                      refine z_pushJ gp_206_46 ?_
                      refine z_putI (y := 38) gi_206_47 rfl gk_50 ?_
                      refine z_aload0 gi_206_50 ?_
                      refine z_iload1 gi_206_51 ?_
                      refine z_pushJ gp_206_52 ?_
                      refine z_pushJ gp_206_53 ?_
                      refine z_iload2 gi_206_54 ?_
                      have hsb := zK_x (a := 50) (x := 38) (v := -1) hJ2.1 rfl
                      have hVb := zK_m hsb kV_S
                      refine z_callV (As := [_, _, _, _]) _ gi_206_55 rfl rfl (Nat.le_of_ble_eq_true rfl) (Nat.le_of_ble_eq_true rfl) (goO_z (A := zU J2 50 38 (-1)) (n := J 8 2) (q := q) hRr ((rN_V hVb).trans y1.symm) ((hVb 50 1 rfl).trans y2.symm) y3 (LawR_V t3 hVb) t1 ((hsb 50 35 rfl).trans hW.2) (by omega) (by omega) 9 (d + 19) 0 0 _ ⟨zK_r, (by rw [zU_e]; decide), fun i i1 i2 => absurd i2 (by omega)⟩ (by decide) (by decide +kernel) (by omega)) (fun r J5 M5 R5 h5 => ?_)
                      obtain ⟨rfl, hJ5, e2, e3⟩ := h5
                      obtain rfl : M = M5 := e2.symm
                      obtain rfl : R = R5 := e3.symm
                      show zW _ _ _ _ _ _ _ _ _ _
                      have hs5 := zK_t hsb hJ5.1
                      refine z_iload3 gi_206_58 ?_
                      refine z_if_geT gi_206_59 (by omega) (by omega) ?_
                      refine z_iload3 gi_206_69 ?_
                      refine z_iload1 gi_206_70 ?_
                      refine z_callS (As := [_]) _ gi_206_71 rfl (Nat.le_of_ble_eq_true rfl) (Nat.le_of_ble_eq_true rfl) (bits_k (by omega)) (fun r J4 M4 R4 h4 => ?_)
                      obtain ⟨bw12, rfl, qbw12, e1, e2, e3⟩ := h4
                      obtain rfl : J5 = J4 := e1.symm
                      obtain rfl : M = M4 := e2.symm
                      obtain rfl : R = R4 := e3.symm
                      show zW _ _ _ _ _ (_ :: _) _ _ _ _
                      refine z_icmp_ge gi_206_74 (by omega) (by omega) (fun h13 => ?_) (fun h13 => ?_)
                      · refine z_pushJ gp_206_86 ?_
                        refine z_iret gi_206_88 gr_206 ?_
                        refine ⟨?_, ?_⟩
                        · exact ⟨_, rfl⟩
                        · exact Rel_S hs5 zK_r hr
                      · refine z_aload0 gi_206_77 ?_
                        refine z_getR (r := 72) gi_206_78 gk_50 (hRr _ rm_50_37 (by decide)) ?_
                        refine z_iload3 gi_206_81 ?_
                        refine z_iald (v := J5 72 k) gi_206_82 gk_72 (by decide) (by omega) (rfl) ?_
                        refine z_goto gi_206_83 ?_
                        refine z_iret gi_206_88 gr_206 ?_
                        refine ⟨?_, ?_⟩
                        · exact ⟨_, rfl⟩
                        · exact Rel_S hs5 zK_r hr
                    · refine z_pushJ gp_206_42 ?_
                      refine z_iret gi_206_44 gr_206 ?_
                      refine ⟨?_, ?_⟩
                      · exact ⟨_, rfl⟩
                      · exact Rel_S hJ2.1 zK_r hr
                · refine z_aload0 rfl ?_
                  refine z_getR (r := 18) rfl gk_0 (hR _ rm_0_3) ?_
                  refine z_getI (v := J2 18 4) rfl gk_18 (rfl) ?_
                  refine z_goto rfl ?_
                  refine z_iret gi_114_87 gr_114 ?_
                  refine ⟨_, rfl, ?_⟩
                  show zW _ _ _ _ [some (.ref 50), some (zi s), some (zi q), some (zi k)] _ _ _ _ _
                  refine z_iload1 gi_206_0 ?_
                  refine z_pushJ gp_206_1 ?_
                  refine z_pushJ gp_206_2 ?_
                  refine z_aload0 gi_206_3 ?_
                  refine z_getI (v := J 8 2) gi_206_4 gk_50 ((hJ2.1 50 1 rfl).trans y2.symm) ?_
                  refine z_ishl (e := zshl 1 (J 8 2)) gi_206_7 rfl ?_
                  refine z_pushJ gp_206_8 ?_
                  refine z_isub (e := (zshl 1 (J 8 2)) - 1) gi_206_9 rfl ?_
                  refine z_cS3 gi_206_10 (Nat.le_of_ble_eq_true rfl) gc_148_III ?_
                  refine z_iload0 gi_148_0 ?_
                  refine z_iload1 gi_148_1 ?_
                  refine z_icmp_ltF gi_148_2 (by omega) zr_0 (by omega) ?_
                  refine z_iload0 gi_148_5 ?_
                  refine z_iload2 gi_148_6 ?_
                  refine z_icmp_gtF gi_148_7 (by omega) (by omega) (by omega) ?_
                  refine z_pushJ gp_148_10 ?_
                  refine z_goto gi_148_11 ?_
                  refine z_bret1 gi_148_15 gr_148 ?_
                  show zW _ _ _ _ _ _ _ _ _ _
                  refine z_if_eqF gi_206_13 zr_1 (by decide) ?_
                  refine z_iload2 gi_206_16 ?_
                  refine z_pushJ gp_206_17 ?_
                  refine z_pushJ gp_206_18 ?_
                  refine z_cS3 gi_206_20 (Nat.le_of_ble_eq_true rfl) gc_148_III ?_
                  refine z_iload0 gi_148_0 ?_
                  refine z_iload1 gi_148_1 ?_
                  refine z_icmp_ltF gi_148_2 (by omega) zr_1 (by omega) ?_
                  refine z_iload0 gi_148_5 ?_
                  refine z_iload2 gi_148_6 ?_
                  refine z_icmp_gtF gi_148_7 (by omega) zr_99 (by omega) ?_
                  refine z_pushJ gp_148_10 ?_
                  refine z_goto gi_148_11 ?_
                  refine z_bret1 gi_148_15 gr_148 ?_
                  show zW _ _ _ _ _ _ _ _ _ _
                  refine z_if_eqF gi_206_23 zr_1 (by decide) ?_
                  refine z_iload3 gi_206_26 ?_
                  refine z_pushJ gp_206_27 ?_
                  refine z_icmp_geT gi_206_28 (by omega) zrn_1 (by omega) ?_
                  refine z_iload1 gi_206_33 ?_
                  refine z_callS (As := [_]) _ gi_206_34 rfl (Nat.le_of_ble_eq_true rfl) (Nat.le_of_ble_eq_true rfl) (bits_k (by omega)) (fun r J4 M4 R4 h4 => ?_)
                  obtain ⟨bw10, rfl, qbw10, e1, e2, e3⟩ := h4
                  obtain rfl : J2 = J4 := e1.symm
                  obtain rfl : M = M4 := e2.symm
                  obtain rfl : R = R4 := e3.symm
                  show zW _ _ _ _ _ (_ :: _) _ _ _ _
                  refine z_pushJ gp_206_37 ?_
                  refine z_icmp_le gi_206_39 (by omega) zr_6 (fun h11 => ?_) (fun h11 => ?_)
                  · refine z_aload0 gi_206_45 ?_
                    refine z_pushJ gp_206_46 ?_
                    refine z_putI (y := 38) gi_206_47 rfl gk_50 ?_
                    refine z_aload0 gi_206_50 ?_
                    refine z_iload1 gi_206_51 ?_
                    refine z_pushJ gp_206_52 ?_
                    refine z_pushJ gp_206_53 ?_
                    refine z_iload2 gi_206_54 ?_
                    have hsb := zK_x (a := 50) (x := 38) (v := -1) hJ2.1 rfl
                    have hVb := zK_m hsb kV_S
                    refine z_callV (As := [_, _, _, _]) _ gi_206_55 rfl rfl (Nat.le_of_ble_eq_true rfl) (Nat.le_of_ble_eq_true rfl) (goO_z (A := zU J2 50 38 (-1)) (n := J 8 2) (q := q) hRr ((rN_V hVb).trans y1.symm) ((hVb 50 1 rfl).trans y2.symm) y3 (LawR_V t3 hVb) t1 ((hsb 50 35 rfl).trans hW.2) (by omega) (by omega) 9 (d + 19) 0 0 _ ⟨zK_r, (by rw [zU_e]; decide), fun i i1 i2 => absurd i2 (by omega)⟩ (by decide) (by decide +kernel) (by omega)) (fun r J5 M5 R5 h5 => ?_)
                    obtain ⟨rfl, hJ5, e2, e3⟩ := h5
                    obtain rfl : M = M5 := e2.symm
                    obtain rfl : R = R5 := e3.symm
                    show zW _ _ _ _ _ _ _ _ _ _
                    have hs5 := zK_t hsb hJ5.1
                    refine z_iload3 gi_206_58 ?_
                    refine z_if_geF gi_206_59 (by omega) (by omega) ?_
                    refine z_aload0 gi_206_62 ?_
                    refine z_getI (v := J5 50 38) gi_206_63 gk_50 (rfl) ?_
                    refine z_goto gi_206_66 ?_
                    refine z_iret gi_206_88 gr_206 ?_
                    refine ⟨?_, ?_⟩
                    · exact ⟨_, rfl⟩
                    · exact Rel_S hs5 zK_r hr
                  · refine z_pushJ gp_206_42 ?_
                    refine z_iret gi_206_44 gr_206 ?_
                    refine ⟨?_, ?_⟩
                    · exact ⟨_, rfl⟩
                    · exact Rel_S hJ2.1 zK_r hr
              · refine z_pushJ gp_114_53 ?_
                refine z_iret rfl gr_114 ?_
                refine ⟨_, rfl, ?_⟩
                show zW _ _ _ _ [some (.ref 50), some (zi s), some (zi q), some (zi k)] _ _ _ _ _
                refine z_iload1 gi_206_0 ?_
                refine z_pushJ gp_206_1 ?_
                refine z_pushJ gp_206_2 ?_
                refine z_aload0 gi_206_3 ?_
                refine z_getI (v := J 8 2) gi_206_4 gk_50 (y2.symm) ?_
                refine z_ishl (e := zshl 1 (J 8 2)) gi_206_7 rfl ?_
                refine z_pushJ gp_206_8 ?_
                refine z_isub (e := (zshl 1 (J 8 2)) - 1) gi_206_9 rfl ?_
                refine z_cS3 gi_206_10 (Nat.le_of_ble_eq_true rfl) gc_148_III ?_
                refine z_iload0 gi_148_0 ?_
                refine z_iload1 gi_148_1 ?_
                refine z_icmp_ltF gi_148_2 (by omega) zr_0 (by omega) ?_
                refine z_iload0 gi_148_5 ?_
                refine z_iload2 gi_148_6 ?_
                refine z_icmp_gtF gi_148_7 (by omega) (by omega) (by omega) ?_
                refine z_pushJ gp_148_10 ?_
                refine z_goto gi_148_11 ?_
                refine z_bret1 gi_148_15 gr_148 ?_
                show zW _ _ _ _ _ _ _ _ _ _
                refine z_if_eqF gi_206_13 zr_1 (by decide) ?_
                refine z_iload2 gi_206_16 ?_
                refine z_pushJ gp_206_17 ?_
                refine z_pushJ gp_206_18 ?_
                refine z_cS3 gi_206_20 (Nat.le_of_ble_eq_true rfl) gc_148_III ?_
                refine z_iload0 gi_148_0 ?_
                refine z_iload1 gi_148_1 ?_
                refine z_icmp_ltF gi_148_2 (by omega) zr_1 (by omega) ?_
                refine z_iload0 gi_148_5 ?_
                refine z_iload2 gi_148_6 ?_
                refine z_icmp_gtF gi_148_7 (by omega) zr_99 (by omega) ?_
                refine z_pushJ gp_148_10 ?_
                refine z_goto gi_148_11 ?_
                refine z_bret1 gi_148_15 gr_148 ?_
                show zW _ _ _ _ _ _ _ _ _ _
                refine z_if_eqF gi_206_23 zr_1 (by decide) ?_
                refine z_iload3 gi_206_26 ?_
                refine z_pushJ gp_206_27 ?_
                refine z_icmp_geT gi_206_28 (by omega) zrn_1 (by omega) ?_
                refine z_iload1 gi_206_33 ?_
                refine z_callS (As := [_]) _ gi_206_34 rfl (Nat.le_of_ble_eq_true rfl) (Nat.le_of_ble_eq_true rfl) (bits_k (by omega)) (fun r J4 M4 R4 h4 => ?_)
                obtain ⟨bw10, rfl, qbw10, e1, e2, e3⟩ := h4
                obtain rfl : J = J4 := e1.symm
                obtain rfl : M = M4 := e2.symm
                obtain rfl : R = R4 := e3.symm
                show zW _ _ _ _ _ (_ :: _) _ _ _ _
                refine z_pushJ gp_206_37 ?_
                refine z_icmp_le gi_206_39 (by omega) zr_6 (fun h11 => ?_) (fun h11 => ?_)
                · refine z_aload0 gi_206_45 ?_
                  refine z_pushJ gp_206_46 ?_
                  refine z_putI (y := 38) gi_206_47 rfl gk_50 ?_
                  refine z_aload0 gi_206_50 ?_
                  refine z_iload1 gi_206_51 ?_
                  refine z_pushJ gp_206_52 ?_
                  refine z_pushJ gp_206_53 ?_
                  refine z_iload2 gi_206_54 ?_
                  have hsb := zK_x (a := 50) (x := 38) (v := -1) (zK_r (k := kS) (A := J)) rfl
                  have hVb := zK_m hsb kV_S
                  refine z_callV (As := [_, _, _, _]) _ gi_206_55 rfl rfl (Nat.le_of_ble_eq_true rfl) (Nat.le_of_ble_eq_true rfl) (goO_z (A := zU J 50 38 (-1)) (n := J 8 2) (q := q) hRr ((rN_V hVb).trans y1.symm) ((hVb 50 1 rfl).trans y2.symm) y3 (LawR_V t3 hVb) t1 ((hsb 50 35 rfl).trans hW.2) (by omega) (by omega) 9 (d + 19) 0 0 _ ⟨zK_r, (by rw [zU_e]; decide), fun i i1 i2 => absurd i2 (by omega)⟩ (by decide) (by decide +kernel) (by omega)) (fun r J5 M5 R5 h5 => ?_)
                  obtain ⟨rfl, hJ5, e2, e3⟩ := h5
                  obtain rfl : M = M5 := e2.symm
                  obtain rfl : R = R5 := e3.symm
                  show zW _ _ _ _ _ _ _ _ _ _
                  have hs5 := zK_t hsb hJ5.1
                  refine z_iload3 gi_206_58 ?_
                  refine z_if_ge gi_206_59 (by omega) (fun h12 => ?_) (fun h12 => ?_)
                  · refine z_iload3 gi_206_69 ?_
                    refine z_iload1 gi_206_70 ?_
                    refine z_callS (As := [_]) _ gi_206_71 rfl (Nat.le_of_ble_eq_true rfl) (Nat.le_of_ble_eq_true rfl) (bits_k (by omega)) (fun r J4 M4 R4 h4 => ?_)
                    obtain ⟨bw13, rfl, qbw13, e1, e2, e3⟩ := h4
                    obtain rfl : J5 = J4 := e1.symm
                    obtain rfl : M = M4 := e2.symm
                    obtain rfl : R = R4 := e3.symm
                    show zW _ _ _ _ _ (_ :: _) _ _ _ _
                    refine z_icmp_ge gi_206_74 (by omega) (by omega) (fun h14 => ?_) (fun h14 => ?_)
                    · refine z_pushJ gp_206_86 ?_
                      refine z_iret gi_206_88 gr_206 ?_
                      refine ⟨?_, ?_⟩
                      · exact ⟨_, rfl⟩
                      · exact Rel_S hs5 zK_r hr
                    · refine z_aload0 gi_206_77 ?_
                      refine z_getR (r := 72) gi_206_78 gk_50 (hRr _ rm_50_37 (by decide)) ?_
                      refine z_iload3 gi_206_81 ?_
                      refine z_iald (v := J5 72 k) gi_206_82 gk_72 (by decide) (by omega) (rfl) ?_
                      refine z_goto gi_206_83 ?_
                      refine z_iret gi_206_88 gr_206 ?_
                      refine ⟨?_, ?_⟩
                      · exact ⟨_, rfl⟩
                      · exact Rel_S hs5 zK_r hr
                  · refine z_aload0 gi_206_62 ?_
                    refine z_getI (v := J5 50 38) gi_206_63 gk_50 (rfl) ?_
                    refine z_goto gi_206_66 ?_
                    refine z_iret gi_206_88 gr_206 ?_
                    refine ⟨?_, ?_⟩
                    · exact ⟨_, rfl⟩
                    · exact Rel_S hs5 zK_r hr
                · refine z_pushJ gp_206_42 ?_
                  refine z_iret gi_206_44 gr_206 ?_
                  refine ⟨?_, ?_⟩
                  · exact ⟨_, rfl⟩
                  · exact hr
            · refine z_pushJ gp_114_43 ?_
              refine z_iret rfl gr_114 ?_
              refine ⟨_, rfl, ?_⟩
              show zW _ _ _ _ [some (.ref 50), some (zi s), some (zi q), some (zi k)] _ _ _ _ _
              refine z_iload1 gi_206_0 ?_
              refine z_pushJ gp_206_1 ?_
              refine z_pushJ gp_206_2 ?_
              refine z_aload0 gi_206_3 ?_
              refine z_getI (v := J 8 2) gi_206_4 gk_50 (y2.symm) ?_
              refine z_ishl (e := zshl 1 (J 8 2)) gi_206_7 rfl ?_
              refine z_pushJ gp_206_8 ?_
              refine z_isub (e := (zshl 1 (J 8 2)) - 1) gi_206_9 rfl ?_
              refine z_cS3 gi_206_10 (Nat.le_of_ble_eq_true rfl) gc_148_III ?_
              refine z_iload0 gi_148_0 ?_
              refine z_iload1 gi_148_1 ?_
              refine z_icmp_ltF gi_148_2 (by omega) zr_0 (by omega) ?_
              refine z_iload0 gi_148_5 ?_
              refine z_iload2 gi_148_6 ?_
              refine z_icmp_gtF gi_148_7 (by omega) (by omega) (by omega) ?_
              refine z_pushJ gp_148_10 ?_
              refine z_goto gi_148_11 ?_
              refine z_bret1 gi_148_15 gr_148 ?_
              show zW _ _ _ _ _ _ _ _ _ _
              refine z_if_eqF gi_206_13 zr_1 (by decide) ?_
              refine z_iload2 gi_206_16 ?_
              refine z_pushJ gp_206_17 ?_
              refine z_pushJ gp_206_18 ?_
              refine z_cS3 gi_206_20 (Nat.le_of_ble_eq_true rfl) gc_148_III ?_
              refine z_iload0 gi_148_0 ?_
              refine z_iload1 gi_148_1 ?_
              refine z_icmp_ltF gi_148_2 (by omega) zr_1 (by omega) ?_
              refine z_iload0 gi_148_5 ?_
              refine z_iload2 gi_148_6 ?_
              refine z_icmp_gtF gi_148_7 (by omega) zr_99 (by omega) ?_
              refine z_pushJ gp_148_10 ?_
              refine z_goto gi_148_11 ?_
              refine z_bret1 gi_148_15 gr_148 ?_
              show zW _ _ _ _ _ _ _ _ _ _
              refine z_if_eqF gi_206_23 zr_1 (by decide) ?_
              refine z_iload3 gi_206_26 ?_
              refine z_pushJ gp_206_27 ?_
              refine z_icmp_geT gi_206_28 (by omega) zrn_1 (by omega) ?_
              refine z_iload1 gi_206_33 ?_
              refine z_callS (As := [_]) _ gi_206_34 rfl (Nat.le_of_ble_eq_true rfl) (Nat.le_of_ble_eq_true rfl) (bits_k (by omega)) (fun r J4 M4 R4 h4 => ?_)
              obtain ⟨bw10, rfl, qbw10, e1, e2, e3⟩ := h4
              obtain rfl : J = J4 := e1.symm
              obtain rfl : M = M4 := e2.symm
              obtain rfl : R = R4 := e3.symm
              show zW _ _ _ _ _ (_ :: _) _ _ _ _
              refine z_pushJ gp_206_37 ?_
              refine z_icmp_le gi_206_39 (by omega) zr_6 (fun h11 => ?_) (fun h11 => ?_)
              · refine z_aload0 gi_206_45 ?_
                refine z_pushJ gp_206_46 ?_
                refine z_putI (y := 38) gi_206_47 rfl gk_50 ?_
                refine z_aload0 gi_206_50 ?_
                refine z_iload1 gi_206_51 ?_
                refine z_pushJ gp_206_52 ?_
                refine z_pushJ gp_206_53 ?_
                refine z_iload2 gi_206_54 ?_
                have hsb := zK_x (a := 50) (x := 38) (v := -1) (zK_r (k := kS) (A := J)) rfl
                have hVb := zK_m hsb kV_S
                refine z_callV (As := [_, _, _, _]) _ gi_206_55 rfl rfl (Nat.le_of_ble_eq_true rfl) (Nat.le_of_ble_eq_true rfl) (goO_z (A := zU J 50 38 (-1)) (n := J 8 2) (q := q) hRr ((rN_V hVb).trans y1.symm) ((hVb 50 1 rfl).trans y2.symm) y3 (LawR_V t3 hVb) t1 ((hsb 50 35 rfl).trans hW.2) (by omega) (by omega) 9 (d + 19) 0 0 _ ⟨zK_r, (by rw [zU_e]; decide), fun i i1 i2 => absurd i2 (by omega)⟩ (by decide) (by decide +kernel) (by omega)) (fun r J5 M5 R5 h5 => ?_)
                obtain ⟨rfl, hJ5, e2, e3⟩ := h5
                obtain rfl : M = M5 := e2.symm
                obtain rfl : R = R5 := e3.symm
                show zW _ _ _ _ _ _ _ _ _ _
                have hs5 := zK_t hsb hJ5.1
                refine z_iload3 gi_206_58 ?_
                refine z_if_ge gi_206_59 (by omega) (fun h12 => ?_) (fun h12 => ?_)
                · refine z_iload3 gi_206_69 ?_
                  refine z_iload1 gi_206_70 ?_
                  refine z_callS (As := [_]) _ gi_206_71 rfl (Nat.le_of_ble_eq_true rfl) (Nat.le_of_ble_eq_true rfl) (bits_k (by omega)) (fun r J4 M4 R4 h4 => ?_)
                  obtain ⟨bw13, rfl, qbw13, e1, e2, e3⟩ := h4
                  obtain rfl : J5 = J4 := e1.symm
                  obtain rfl : M = M4 := e2.symm
                  obtain rfl : R = R4 := e3.symm
                  show zW _ _ _ _ _ (_ :: _) _ _ _ _
                  refine z_icmp_ge gi_206_74 (by omega) (by omega) (fun h14 => ?_) (fun h14 => ?_)
                  · refine z_pushJ gp_206_86 ?_
                    refine z_iret gi_206_88 gr_206 ?_
                    refine ⟨?_, ?_⟩
                    · exact ⟨_, rfl⟩
                    · exact Rel_S hs5 zK_r hr
                  · refine z_aload0 gi_206_77 ?_
                    refine z_getR (r := 72) gi_206_78 gk_50 (hRr _ rm_50_37 (by decide)) ?_
                    refine z_iload3 gi_206_81 ?_
                    refine z_iald (v := J5 72 k) gi_206_82 gk_72 (by decide) (by omega) (rfl) ?_
                    refine z_goto gi_206_83 ?_
                    refine z_iret gi_206_88 gr_206 ?_
                    refine ⟨?_, ?_⟩
                    · exact ⟨_, rfl⟩
                    · exact Rel_S hs5 zK_r hr
                · refine z_aload0 gi_206_62 ?_
                  refine z_getI (v := J5 50 38) gi_206_63 gk_50 (rfl) ?_
                  refine z_goto gi_206_66 ?_
                  refine z_iret gi_206_88 gr_206 ?_
                  refine ⟨?_, ?_⟩
                  · exact ⟨_, rfl⟩
                  · exact Rel_S hs5 zK_r hr
              · refine z_pushJ gp_206_42 ?_
                refine z_iret gi_206_44 gr_206 ?_
                refine ⟨?_, ?_⟩
                · exact ⟨_, rfl⟩
                · exact hr
          · refine z_pushJ gp_114_29 ?_
            refine z_iret gi_114_30 gr_114 ?_
            refine ⟨_, rfl, ?_⟩
            show zW _ _ _ _ [some (.ref 50), some (zi s), some (zi q), some (zi k)] _ _ _ _ _
            refine z_iload1 gi_206_0 ?_
            refine z_pushJ gp_206_1 ?_
            refine z_pushJ gp_206_2 ?_
            refine z_aload0 gi_206_3 ?_
            refine z_getI (v := J 8 2) gi_206_4 gk_50 (y2.symm) ?_
            refine z_ishl (e := zshl 1 (J 8 2)) gi_206_7 rfl ?_
            refine z_pushJ gp_206_8 ?_
            refine z_isub (e := (zshl 1 (J 8 2)) - 1) gi_206_9 rfl ?_
            refine z_cS3 gi_206_10 (Nat.le_of_ble_eq_true rfl) gc_148_III ?_
            refine z_iload0 gi_148_0 ?_
            refine z_iload1 gi_148_1 ?_
            refine z_icmp_ltF gi_148_2 (by omega) zr_0 (by omega) ?_
            refine z_iload0 gi_148_5 ?_
            refine z_iload2 gi_148_6 ?_
            refine z_icmp_gtF gi_148_7 (by omega) (by omega) (by omega) ?_
            refine z_pushJ gp_148_10 ?_
            refine z_goto gi_148_11 ?_
            refine z_bret1 gi_148_15 gr_148 ?_
            show zW _ _ _ _ _ _ _ _ _ _
            refine z_if_eqF gi_206_13 zr_1 (by decide) ?_
            refine z_iload2 gi_206_16 ?_
            refine z_pushJ gp_206_17 ?_
            refine z_pushJ gp_206_18 ?_
            refine z_cS3 gi_206_20 (Nat.le_of_ble_eq_true rfl) gc_148_III ?_
            refine z_iload0 gi_148_0 ?_
            refine z_iload1 gi_148_1 ?_
            refine z_icmp_ltF gi_148_2 (by omega) zr_1 (by omega) ?_
            refine z_iload0 gi_148_5 ?_
            refine z_iload2 gi_148_6 ?_
            refine z_icmp_gtF gi_148_7 (by omega) zr_99 (by omega) ?_
            refine z_pushJ gp_148_10 ?_
            refine z_goto gi_148_11 ?_
            refine z_bret1 gi_148_15 gr_148 ?_
            show zW _ _ _ _ _ _ _ _ _ _
            refine z_if_eqF gi_206_23 zr_1 (by decide) ?_
            refine z_iload3 gi_206_26 ?_
            refine z_pushJ gp_206_27 ?_
            refine z_icmp_geF gi_206_28 (by omega) zrn_1 (by omega) ?_
            refine z_pushJ gp_206_31 ?_
            refine z_iret gi_206_32 gr_206 ?_
            refine ⟨?_, ?_⟩
            · exact ⟨_, rfl⟩
            · exact hr
