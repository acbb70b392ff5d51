theorem st_giveUp_n {X : Nat × (Nat → Int32)} {d : Nat} {J M : zA} {R : zR} {s v q : Int} (hr : Rel X J M R) (hs : -2147483648 ≤ s ∧ s < 2147483648) (hv : -2147483648 ≤ v ∧ v < 2147483648) (hq : -2147483648 ≤ q ∧ q < 2147483648) (hs6 : ¬ (0 ≤ s ∧ s < 6)) : zW X (d + 20) 115 0 (gEn 115 [(.ref 0), (zi s), (zi v), (zi q)]) [] J M R (stP X (d + 20) 207 [(zi s), (zi v), (zi q)]) := by
  have hr0 := hr
  obtain ⟨hR, hG, hY, hD, hP, hC, hAc, hS, hTp, hX, hW⟩ := hr0
  have hRr : zRoR R := zRoR_of hR
  have hY0 := hY
  obtain ⟨y1, y2, y3⟩ := hY0
  have yn := zNn y3
  show zW _ _ _ _ [some (.ref 0), some (zi s), some (zi v), some (zi q), none, none, none, none, none, none] _ _ _ _ _
  refine z_iload1 gi_115_0 ?_
  refine z_cS1 gi_115_1 (Nat.le_of_ble_eq_true rfl) gc_143_I ?_
  refine z_iload0 gi_143_0 ?_
  refine z_if_lt gi_143_1 (by omega) (fun h1 => ?_) (fun h1 => ?_)
  · refine z_pushJ gp_143_14 ?_
    refine z_bret0 gi_143_15 gr_143 ?_
    show zW _ _ _ _ _ _ _ _ _ _
    refine z_if_eqT gi_115_4 zr_0 (by decide) ?_
    refine z_pushJ gp_115_24 ?_
    refine z_iret gi_115_25 gr_115 ?_
    refine ⟨_, rfl, ?_⟩
    show zW _ _ _ _ [some (.ref 50), some (zi s), some (zi v), some (zi q), none, none, none, none, none] _ _ _ _ _
    refine z_iload1 gi_207_0 ?_
    refine z_cS1 gi_207_1 (Nat.le_of_ble_eq_true rfl) gc_248_I ?_
    refine z_iload0 gi_248_0 ?_
    refine z_pushJ gp_248_1 ?_
    refine z_pushJ gp_248_2 ?_
    refine z_cS3 gi_248_3 (Nat.le_of_ble_eq_true rfl) gc_148_III ?_
    refine z_iload0 gi_148_0 ?_
    refine z_iload1 gi_148_1 ?_
    refine z_icmp_ltT gi_148_2 (by omega) zr_0 (by omega) ?_
    refine z_pushJ gp_148_14 ?_
    refine z_bret0 gi_148_15 gr_148 ?_
    show zW _ _ _ _ _ _ _ _ _ _
    refine z_bret0 gi_248_6 gr_248 ?_
    show zW _ _ _ _ _ _ _ _ _ _
    refine z_if_eqT gi_207_4 zr_0 (by decide) ?_
    refine z_pushJ gp_207_30 ?_
    refine z_iret gi_207_31 gr_207 ?_
    refine ⟨?_, ?_⟩
    · first | rfl | exact congrArg (fun v => some (zi v)) (by omega) | (exfalso; omega)
    · exact hr
  · refine z_iload0 gi_143_4 ?_
    refine z_pushJ gp_143_5 ?_
    refine z_icmp_geT gi_143_7 (by omega) zr_6 (by omega) ?_
    refine z_pushJ gp_143_14 ?_
    refine z_bret0 gi_143_15 gr_143 ?_
    show zW _ _ _ _ _ _ _ _ _ _
    refine z_if_eqT gi_115_4 zr_0 (by decide) ?_
    refine z_pushJ gp_115_24 ?_
    refine z_iret gi_115_25 gr_115 ?_
    refine ⟨_, rfl, ?_⟩
    show zW _ _ _ _ [some (.ref 50), some (zi s), some (zi v), some (zi q), none, none, none, none, none] _ _ _ _ _
    refine z_iload1 gi_207_0 ?_
    refine z_cS1 gi_207_1 (Nat.le_of_ble_eq_true rfl) gc_248_I ?_
    refine z_iload0 gi_248_0 ?_
    refine z_pushJ gp_248_1 ?_
    refine z_pushJ gp_248_2 ?_
    refine z_cS3 gi_248_3 (Nat.le_of_ble_eq_true rfl) gc_148_III ?_
    refine z_iload0 gi_148_0 ?_
    refine z_iload1 gi_148_1 ?_
    refine z_icmp_ltF gi_148_2 (by omega) zr_0 (by omega) ?_
    refine z_iload0 gi_148_5 ?_
    refine z_iload2 gi_148_6 ?_
    refine z_icmp_gtT gi_148_7 (by omega) zr_5 (by omega) ?_
    refine z_pushJ gp_148_14 ?_
    refine z_bret0 gi_148_15 gr_148 ?_
    show zW _ _ _ _ _ _ _ _ _ _
    refine z_bret0 gi_248_6 gr_248 ?_
    show zW _ _ _ _ _ _ _ _ _ _
    refine z_if_eqT gi_207_4 zr_0 (by decide) ?_
    refine z_pushJ gp_207_30 ?_
    refine z_iret gi_207_31 gr_207 ?_
    refine ⟨?_, ?_⟩
    · first | rfl | exact congrArg (fun v => some (zi v)) (by omega) | (exfalso; omega)
    · exact hr
theorem st_giveUp_0 {X : Nat × (Nat → Int32)} {d : Nat} {J M : zA} {R : zR} {s v q : Int} (hr : Rel X J M R) (hs : -2147483648 ≤ s ∧ s < 2147483648) (hv : -2147483648 ≤ v ∧ v < 2147483648) (hq : -2147483648 ≤ q ∧ q < 2147483648) (hs6 : 0 ≤ s ∧ s < 6) (hh : J (38 + 2 * s.toNat) 0 = 0) : zW X (d + 20) 115 0 (gEn 115 [(.ref 0), (zi s), (zi v), (zi q)]) [] J M R (stP X (d + 20) 207 [(zi s), (zi v), (zi q)]) := by
  have hr0 := hr
  obtain ⟨hR, hG, hY, hD, hP, hC, hAc, hS, hTp, hX, hW⟩ := hr0
  have hRr : zRoR R := zRoR_of hR
  have hY0 := hY
  obtain ⟨y1, y2, y3⟩ := hY0
  have yn := zNn y3
  have hA0 := hAc
  obtain ⟨a1, a2, a3, a4, a5, a6⟩ := hA0
  have e83 : J 83 s = -1 := (hS s hs6.1 hs6.2).1.symm.trans (cH_0 hh)
  have s3 : 0 ≤ J (38 + 2 * s.toNat) 2 ∧ J (38 + 2 * s.toNat) 2 ≤ 4 := (hS s hs6.1 hs6.2).2.2.1
  have s4 : 0 ≤ J (38 + 2 * s.toNat) 3 ∧ J (38 + 2 * s.toNat) 3 ≤ 60 := (hS s hs6.1 hs6.2).2.2.2.1
  show zW _ _ _ _ [some (.ref 0), some (zi s), some (zi v), some (zi q), none, none, none, none, none, none] _ _ _ _ _
  refine z_iload1 gi_115_0 ?_
  refine z_cS1 gi_115_1 (Nat.le_of_ble_eq_true rfl) gc_143_I ?_
  refine z_iload0 gi_143_0 ?_
  refine z_if_ltF gi_143_1 (by omega) (by omega) ?_
  refine z_iload0 gi_143_4 ?_
  refine z_pushJ gp_143_5 ?_
  refine z_icmp_geF gi_143_7 (by omega) zr_6 (by omega) ?_
  refine z_pushJ gp_143_10 ?_
  refine z_goto gi_143_11 ?_
  refine z_bret1 gi_143_15 gr_143 ?_
  show zW _ _ _ _ _ _ _ _ _ _
  refine z_if_eqF gi_115_4 zr_1 (by decide) ?_
  refine z_iload2 gi_115_7 ?_
  refine z_if_lt gi_115_8 (by omega) (fun h1 => ?_) (fun h1 => ?_)
  · refine z_pushJ gp_115_24 ?_
    refine z_iret gi_115_25 gr_115 ?_
    refine ⟨_, rfl, ?_⟩
    show zW _ _ _ _ [some (.ref 50), some (zi s), some (zi v), some (zi q), none, none, none, none, none] _ _ _ _ _
    refine z_iload1 gi_207_0 ?_
    refine z_cS1 gi_207_1 (Nat.le_of_ble_eq_true rfl) gc_248_I ?_
    refine z_iload0 gi_248_0 ?_
    refine z_pushJ gp_248_1 ?_
    refine z_pushJ gp_248_2 ?_
    refine z_cS3 gi_248_3 (Nat.le_of_ble_eq_true rfl) gc_148_III ?_
    refine z_iload0 gi_148_0 ?_
    refine z_iload1 gi_148_1 ?_
    refine z_icmp_ltF gi_148_2 (by omega) zr_0 (by omega) ?_
    refine z_iload0 gi_148_5 ?_
    refine z_iload2 gi_148_6 ?_
    refine z_icmp_gtF gi_148_7 (by omega) zr_5 (by omega) ?_
    refine z_pushJ gp_148_10 ?_
    refine z_goto gi_148_11 ?_
    refine z_bret1 gi_148_15 gr_148 ?_
    show zW _ _ _ _ _ _ _ _ _ _
    refine z_bret1 gi_248_6 gr_248 ?_
    show zW _ _ _ _ _ _ _ _ _ _
    refine z_if_eqF gi_207_4 zr_1 (by decide) ?_
    refine z_iload2 gi_207_7 ?_
    refine z_if_ltT gi_207_8 (by omega) (by omega) ?_
    refine z_pushJ gp_207_30 ?_
    refine z_iret gi_207_31 gr_207 ?_
    refine ⟨?_, ?_⟩
    · first | rfl | exact congrArg (fun v => some (zi v)) (by omega) | (exfalso; omega)
    · exact hr
  · refine z_iload2 gi_115_11 ?_
    refine z_pushJ gp_115_12 ?_
    refine z_icmp_ge gi_115_14 (by omega) (by decide) (fun h2 => ?_) (fun h2 => ?_)
    · refine z_pushJ gp_115_24 ?_
      refine z_iret gi_115_25 gr_115 ?_
      refine ⟨_, rfl, ?_⟩
      show zW _ _ _ _ [some (.ref 50), some (zi s), some (zi v), some (zi q), none, none, none, none, none] _ _ _ _ _
      refine z_iload1 gi_207_0 ?_
      refine z_cS1 gi_207_1 (Nat.le_of_ble_eq_true rfl) gc_248_I ?_
      refine z_iload0 gi_248_0 ?_
      refine z_pushJ gp_248_1 ?_
      refine z_pushJ gp_248_2 ?_
      refine z_cS3 gi_248_3 (Nat.le_of_ble_eq_true rfl) gc_148_III ?_
      refine z_iload0 gi_148_0 ?_
      refine z_iload1 gi_148_1 ?_
      refine z_icmp_ltF gi_148_2 (by omega) zr_0 (by omega) ?_
      refine z_iload0 gi_148_5 ?_
      refine z_iload2 gi_148_6 ?_
      refine z_icmp_gtF gi_148_7 (by omega) zr_5 (by omega) ?_
      refine z_pushJ gp_148_10 ?_
      refine z_goto gi_148_11 ?_
      refine z_bret1 gi_148_15 gr_148 ?_
      show zW _ _ _ _ _ _ _ _ _ _
      refine z_bret1 gi_248_6 gr_248 ?_
      show zW _ _ _ _ _ _ _ _ _ _
      refine z_if_eqF gi_207_4 zr_1 (by decide) ?_
      refine z_iload2 gi_207_7 ?_
      refine z_if_ltF gi_207_8 (by omega) (by omega) ?_
      refine z_iload2 gi_207_11 ?_
      refine z_pushJ gp_207_12 ?_
      refine z_idiv (e := v / 100) gi_207_14 (by omega) (by omega) rfl ?_
      refine z_pushJ gp_207_15 ?_
      refine z_icmp_gt gi_207_18 (by omega) (by decide) (fun h3 => ?_) (fun h3 => ?_)
      · refine z_pushJ gp_207_30 ?_
        refine z_iret gi_207_31 gr_207 ?_
        refine ⟨?_, ?_⟩
        · first | rfl | exact congrArg (fun v => some (zi v)) (by omega) | (exfalso; omega)
        · exact hr
      · refine z_iload3 gi_207_21 ?_
        refine z_pushJ gp_207_22 ?_
        refine z_pushJ gp_207_23 ?_
        refine z_cS3 gi_207_24 (Nat.le_of_ble_eq_true rfl) gc_148_III ?_
        refine z_iload0 gi_148_0 ?_
        refine z_iload1 gi_148_1 ?_
        refine z_icmp_lt gi_148_2 (by omega) zr_0 (fun h4 => ?_) (fun h4 => ?_)
        · refine z_pushJ gp_148_14 ?_
          refine z_bret0 gi_148_15 gr_148 ?_
          show zW _ _ _ _ _ _ _ _ _ _
          refine z_if_neF gi_207_27 zr_0 (by decide) ?_
          refine z_pushJ gp_207_30 ?_
          refine z_iret gi_207_31 gr_207 ?_
          refine ⟨?_, ?_⟩
          · first | rfl | exact congrArg (fun v => some (zi v)) (by omega) | (exfalso; omega)
          · exact hr
        · refine z_iload0 gi_148_5 ?_
          refine z_iload2 gi_148_6 ?_
          refine z_icmp_gt gi_148_7 (by omega) zr_1 (fun h5 => ?_) (fun h5 => ?_)
          · refine z_pushJ gp_148_14 ?_
            refine z_bret0 gi_148_15 gr_148 ?_
            show zW _ _ _ _ _ _ _ _ _ _
            refine z_if_neF gi_207_27 zr_0 (by decide) ?_
            refine z_pushJ gp_207_30 ?_
            refine z_iret gi_207_31 gr_207 ?_
            refine ⟨?_, ?_⟩
            · first | rfl | exact congrArg (fun v => some (zi v)) (by omega) | (exfalso; omega)
            · exact hr
          · refine z_pushJ gp_148_10 ?_
            refine z_goto gi_148_11 ?_
            refine z_bret1 gi_148_15 gr_148 ?_
            show zW _ _ _ _ _ _ _ _ _ _
            refine z_if_neT gi_207_27 zr_1 (by decide) ?_
            refine z_aload0 gi_207_32 ?_
            refine z_iload1 gi_207_33 ?_
            refine z_cV1 gi_207_34 gk_50 go_192 (Nat.le_of_ble_eq_true rfl) gc_192_RI ?_
            refine z_aload0 gi_192_0 ?_
            refine z_getR (r := 83) gi_192_1 gk_50 (hRr _ rm_50_58 (by decide)) ?_
            refine z_iload1 gi_192_4 ?_
            refine z_iald (v := (-1)) gi_192_5 gk_83 (by decide) (by omega) (e83) ?_
            refine z_pushJ gp_192_6 ?_
            refine z_icmp_neF gi_192_7 zrn_1 zrn_1 (by decide) ?_
            refine z_pushJ gp_192_10 ?_
            refine z_goto gi_192_12 ?_
            refine z_iret gi_192_32 gr_192 ?_
            show zW _ _ _ _ _ _ _ _ _ _
            refine z_if_geF gi_207_37 zrn_11 (by decide) ?_
            refine z_aload0 gi_207_40 ?_
            refine z_iload1 gi_207_41 ?_
            refine z_cV1 gi_207_42 gk_50 go_192 (Nat.le_of_ble_eq_true rfl) gc_192_RI ?_
            refine z_aload0 gi_192_0 ?_
            refine z_getR (r := 83) gi_192_1 gk_50 (hRr _ rm_50_58 (by decide)) ?_
            refine z_iload1 gi_192_4 ?_
            refine z_iald (v := (-1)) gi_192_5 gk_83 (by decide) (by omega) (e83) ?_
            refine z_pushJ gp_192_6 ?_
            refine z_icmp_neF gi_192_7 zrn_1 zrn_1 (by decide) ?_
            refine z_pushJ gp_192_10 ?_
            refine z_goto gi_192_12 ?_
            refine z_iret gi_192_32 gr_192 ?_
            show zW _ _ _ _ _ _ _ _ _ _
            refine z_iret gi_207_45 gr_207 ?_
            refine ⟨?_, ?_⟩
            · first | rfl | exact congrArg (fun v => some (zi v)) (by omega) | (exfalso; omega)
            · exact hr
    · refine z_iload3 gi_115_17 ?_
      refine z_cS1 gi_115_18 (Nat.le_of_ble_eq_true rfl) gc_146_I ?_
      refine z_iload0 gi_146_0 ?_
      refine z_if_eq gi_146_1 (by omega) (fun h3 => ?_) (fun h3 => ?_)
      · refine z_pushJ gp_146_9 ?_
        refine z_goto gi_146_10 ?_
        refine z_bret1 gi_146_14 gr_146 ?_
        show zW _ _ _ _ _ _ _ _ _ _
        refine z_if_neT gi_115_21 zr_1 (by decide) ?_
        refine z_aload0 gi_115_26 ?_
        refine z_getR (r := 10) gi_115_27 gk_0 (hR _ rm_0_2) ?_
        refine z_aload0 gi_115_30 ?_
        refine z_getR (r := 37) gi_115_31 gk_0 (hR _ rm_0_11) ?_
        refine z_iload1 gi_115_34 ?_
        refine z_aald (r := 38 + 2 * s.toNat) gi_115_35 rfl (by decide) (by omega) (rr_shelf hR (by omega)) ?_
        refine z_callVi (As := [_]) (le := [some _, some _, none, none, none]) gi_115_36 rfl gk_10 (Nat.le_of_ble_eq_true rfl) (Nat.le_of_ble_eq_true rfl) rfl ?_
        refine z_aload1 gi_78_0 ?_
        refine z_callVi (As := []) (le := [some _]) gi_78_1 rfl (zk_shelf (by omega)) (Nat.le_of_ble_eq_true rfl) (Nat.le_of_ble_eq_true rfl) rfl ?_
        refine z_aload0 gi_69_0 ?_
        refine z_getI (v := 0) gi_69_1 (zk_shelf (by omega)) (hh) ?_
        refine z_if_neF gi_69_4 zr_0 (by decide) ?_
        refine z_pushJ gp_69_7 ?_
        refine z_iret gi_69_9 gr_69 ?_
        show zW _ _ _ _ _ _ _ _ _ _
        refine z_istore (ls1 := [some (.ref 10), some (.ref (38 + 2 * s.toNat)), some (zi (-11)), none, none]) gi_78_4 rfl ?_
        refine z_iload2 gi_78_5 ?_
        refine z_if_geF gi_78_6 zrn_11 (by decide) ?_
        refine z_iload2 gi_78_9 ?_
        refine z_iret gi_78_10 gr_78 ?_
        show zW _ _ _ _ _ _ _ _ _ _
        refine z_istore (ls1 := [some (.ref 0), some (zi s), some (zi v), some (zi q), some (zi (-11)), none, none, none, none, none]) gi_115_39 rfl ?_
        refine z_iload4 gi_115_41 ?_
        refine z_if_geF gi_115_43 zrn_11 (by decide) ?_
        refine z_iload4 gi_115_46 ?_
        refine z_iret gi_115_48 gr_115 ?_
        refine ⟨_, rfl, ?_⟩
        show zW _ _ _ _ [some (.ref 50), some (zi s), some (zi v), some (zi q), none, none, none, none, none] _ _ _ _ _
        refine z_iload1 gi_207_0 ?_
        refine z_cS1 gi_207_1 (Nat.le_of_ble_eq_true rfl) gc_248_I ?_
        refine z_iload0 gi_248_0 ?_
        refine z_pushJ gp_248_1 ?_
        refine z_pushJ gp_248_2 ?_
        refine z_cS3 gi_248_3 (Nat.le_of_ble_eq_true rfl) gc_148_III ?_
        refine z_iload0 gi_148_0 ?_
        refine z_iload1 gi_148_1 ?_
        refine z_icmp_ltF gi_148_2 (by omega) zr_0 (by omega) ?_
        refine z_iload0 gi_148_5 ?_
        refine z_iload2 gi_148_6 ?_
        refine z_icmp_gtF gi_148_7 (by omega) zr_5 (by omega) ?_
        refine z_pushJ gp_148_10 ?_
        refine z_goto gi_148_11 ?_
        refine z_bret1 gi_148_15 gr_148 ?_
        show zW _ _ _ _ _ _ _ _ _ _
        refine z_bret1 gi_248_6 gr_248 ?_
        show zW _ _ _ _ _ _ _ _ _ _
        refine z_if_eqF gi_207_4 zr_1 (by decide) ?_
        refine z_iload2 gi_207_7 ?_
        refine z_if_ltF gi_207_8 (by omega) (by omega) ?_
        refine z_iload2 gi_207_11 ?_
        refine z_pushJ gp_207_12 ?_
        refine z_idiv (e := v / 100) gi_207_14 (by omega) (by omega) rfl ?_
        refine z_pushJ gp_207_15 ?_
        refine z_icmp_gt gi_207_18 (by omega) (by decide) (fun h4 => ?_) (fun h4 => ?_)
        · refine z_pushJ gp_207_30 ?_
          refine z_iret gi_207_31 gr_207 ?_
          refine ⟨?_, ?_⟩
          · first | rfl | exact congrArg (fun v => some (zi v)) (by omega) | (exfalso; omega)
          · exact hr
        · refine z_iload3 gi_207_21 ?_
          refine z_pushJ gp_207_22 ?_
          refine z_pushJ gp_207_23 ?_
          refine z_cS3 gi_207_24 (Nat.le_of_ble_eq_true rfl) gc_148_III ?_
          refine z_iload0 gi_148_0 ?_
          refine z_iload1 gi_148_1 ?_
          refine z_icmp_ltF gi_148_2 (by omega) zr_0 (by omega) ?_
          refine z_iload0 gi_148_5 ?_
          refine z_iload2 gi_148_6 ?_
          refine z_icmp_gtF gi_148_7 (by omega) zr_1 (by omega) ?_
          refine z_pushJ gp_148_10 ?_
          refine z_goto gi_148_11 ?_
          refine z_bret1 gi_148_15 gr_148 ?_
          show zW _ _ _ _ _ _ _ _ _ _
          refine z_if_neT gi_207_27 zr_1 (by decide) ?_
          refine z_aload0 gi_207_32 ?_
          refine z_iload1 gi_207_33 ?_
          refine z_cV1 gi_207_34 gk_50 go_192 (Nat.le_of_ble_eq_true rfl) gc_192_RI ?_
          refine z_aload0 gi_192_0 ?_
          refine z_getR (r := 83) gi_192_1 gk_50 (hRr _ rm_50_58 (by decide)) ?_
          refine z_iload1 gi_192_4 ?_
          refine z_iald (v := (-1)) gi_192_5 gk_83 (by decide) (by omega) (e83) ?_
          refine z_pushJ gp_192_6 ?_
          refine z_icmp_neF gi_192_7 zrn_1 zrn_1 (by decide) ?_
          refine z_pushJ gp_192_10 ?_
          refine z_goto gi_192_12 ?_
          refine z_iret gi_192_32 gr_192 ?_
          show zW _ _ _ _ _ _ _ _ _ _
          refine z_if_geF gi_207_37 zrn_11 (by decide) ?_
          refine z_aload0 gi_207_40 ?_
          refine z_iload1 gi_207_41 ?_
          refine z_cV1 gi_207_42 gk_50 go_192 (Nat.le_of_ble_eq_true rfl) gc_192_RI ?_
          refine z_aload0 gi_192_0 ?_
          refine z_getR (r := 83) gi_192_1 gk_50 (hRr _ rm_50_58 (by decide)) ?_
          refine z_iload1 gi_192_4 ?_
          refine z_iald (v := (-1)) gi_192_5 gk_83 (by decide) (by omega) (e83) ?_
          refine z_pushJ gp_192_6 ?_
          refine z_icmp_neF gi_192_7 zrn_1 zrn_1 (by decide) ?_
          refine z_pushJ gp_192_10 ?_
          refine z_goto gi_192_12 ?_
          refine z_iret gi_192_32 gr_192 ?_
          show zW _ _ _ _ _ _ _ _ _ _
          refine z_iret gi_207_45 gr_207 ?_
          refine ⟨?_, ?_⟩
          · first | rfl | exact congrArg (fun v => some (zi v)) (by omega) | (exfalso; omega)
          · exact hr
      · refine z_iload0 gi_146_4 ?_
        refine z_pushJ gp_146_5 ?_
        refine z_icmp_ne gi_146_6 (by omega) zr_1 (fun h4 => ?_) (fun h4 => ?_)
        · refine z_pushJ gp_146_13 ?_
          refine z_bret0 gi_146_14 gr_146 ?_
          show zW _ _ _ _ _ _ _ _ _ _
          refine z_if_neF gi_115_21 zr_0 (by decide) ?_
          refine z_pushJ gp_115_24 ?_
          refine z_iret gi_115_25 gr_115 ?_
          refine ⟨_, rfl, ?_⟩
          show zW _ _ _ _ [some (.ref 50), some (zi s), some (zi v), some (zi q), none, none, none, none, none] _ _ _ _ _
          refine z_iload1 gi_207_0 ?_
          refine z_cS1 gi_207_1 (Nat.le_of_ble_eq_true rfl) gc_248_I ?_
          refine z_iload0 gi_248_0 ?_
          refine z_pushJ gp_248_1 ?_
          refine z_pushJ gp_248_2 ?_
          refine z_cS3 gi_248_3 (Nat.le_of_ble_eq_true rfl) gc_148_III ?_
          refine z_iload0 gi_148_0 ?_
          refine z_iload1 gi_148_1 ?_
          refine z_icmp_ltF gi_148_2 (by omega) zr_0 (by omega) ?_
          refine z_iload0 gi_148_5 ?_
          refine z_iload2 gi_148_6 ?_
          refine z_icmp_gtF gi_148_7 (by omega) zr_5 (by omega) ?_
          refine z_pushJ gp_148_10 ?_
          refine z_goto gi_148_11 ?_
          refine z_bret1 gi_148_15 gr_148 ?_
          show zW _ _ _ _ _ _ _ _ _ _
          refine z_bret1 gi_248_6 gr_248 ?_
          show zW _ _ _ _ _ _ _ _ _ _
          refine z_if_eqF gi_207_4 zr_1 (by decide) ?_
          refine z_iload2 gi_207_7 ?_
          refine z_if_ltF gi_207_8 (by omega) (by omega) ?_
          refine z_iload2 gi_207_11 ?_
          refine z_pushJ gp_207_12 ?_
          refine z_idiv (e := v / 100) gi_207_14 (by omega) (by omega) rfl ?_
          refine z_pushJ gp_207_15 ?_
          refine z_icmp_gt gi_207_18 (by omega) (by decide) (fun h5 => ?_) (fun h5 => ?_)
          · refine z_pushJ gp_207_30 ?_
            refine z_iret gi_207_31 gr_207 ?_
            refine ⟨?_, ?_⟩
            · first | rfl | exact congrArg (fun v => some (zi v)) (by omega) | (exfalso; omega)
            · exact hr
          · refine z_iload3 gi_207_21 ?_
            refine z_pushJ gp_207_22 ?_
            refine z_pushJ gp_207_23 ?_
            refine z_cS3 gi_207_24 (Nat.le_of_ble_eq_true rfl) gc_148_III ?_
            refine z_iload0 gi_148_0 ?_
            refine z_iload1 gi_148_1 ?_
            refine z_icmp_lt gi_148_2 (by omega) zr_0 (fun h6 => ?_) (fun h6 => ?_)
            · refine z_pushJ gp_148_14 ?_
              refine z_bret0 gi_148_15 gr_148 ?_
              show zW _ _ _ _ _ _ _ _ _ _
              refine z_if_neF gi_207_27 zr_0 (by decide) ?_
              refine z_pushJ gp_207_30 ?_
              refine z_iret gi_207_31 gr_207 ?_
              refine ⟨?_, ?_⟩
              · first | rfl | exact congrArg (fun v => some (zi v)) (by omega) | (exfalso; omega)
              · exact hr
            · refine z_iload0 gi_148_5 ?_
              refine z_iload2 gi_148_6 ?_
              refine z_icmp_gt gi_148_7 (by omega) zr_1 (fun h7 => ?_) (fun h7 => ?_)
              · refine z_pushJ gp_148_14 ?_
                refine z_bret0 gi_148_15 gr_148 ?_
                show zW _ _ _ _ _ _ _ _ _ _
                refine z_if_neF gi_207_27 zr_0 (by decide) ?_
                refine z_pushJ gp_207_30 ?_
                refine z_iret gi_207_31 gr_207 ?_
                refine ⟨?_, ?_⟩
                · first | rfl | exact congrArg (fun v => some (zi v)) (by omega) | (exfalso; omega)
                · exact hr
              · refine z_pushJ gp_148_10 ?_
                refine z_goto gi_148_11 ?_
                refine z_bret1 gi_148_15 gr_148 ?_
                show zW _ _ _ _ _ _ _ _ _ _
                refine z_if_neT gi_207_27 zr_1 (by decide) ?_
                refine z_aload0 gi_207_32 ?_
                refine z_iload1 gi_207_33 ?_
                refine z_cV1 gi_207_34 gk_50 go_192 (Nat.le_of_ble_eq_true rfl) gc_192_RI ?_
                refine z_aload0 gi_192_0 ?_
                refine z_getR (r := 83) gi_192_1 gk_50 (hRr _ rm_50_58 (by decide)) ?_
                refine z_iload1 gi_192_4 ?_
                refine z_iald (v := (-1)) gi_192_5 gk_83 (by decide) (by omega) (e83) ?_
                refine z_pushJ gp_192_6 ?_
                refine z_icmp_neF gi_192_7 zrn_1 zrn_1 (by decide) ?_
                refine z_pushJ gp_192_10 ?_
                refine z_goto gi_192_12 ?_
                refine z_iret gi_192_32 gr_192 ?_
                show zW _ _ _ _ _ _ _ _ _ _
                refine z_if_geF gi_207_37 zrn_11 (by decide) ?_
                refine z_aload0 gi_207_40 ?_
                refine z_iload1 gi_207_41 ?_
                refine z_cV1 gi_207_42 gk_50 go_192 (Nat.le_of_ble_eq_true rfl) gc_192_RI ?_
                refine z_aload0 gi_192_0 ?_
                refine z_getR (r := 83) gi_192_1 gk_50 (hRr _ rm_50_58 (by decide)) ?_
                refine z_iload1 gi_192_4 ?_
                refine z_iald (v := (-1)) gi_192_5 gk_83 (by decide) (by omega) (e83) ?_
                refine z_pushJ gp_192_6 ?_
                refine z_icmp_neF gi_192_7 zrn_1 zrn_1 (by decide) ?_
                refine z_pushJ gp_192_10 ?_
                refine z_goto gi_192_12 ?_
                refine z_iret gi_192_32 gr_192 ?_
                show zW _ _ _ _ _ _ _ _ _ _
                refine z_iret gi_207_45 gr_207 ?_
                refine ⟨?_, ?_⟩
                · first | rfl | exact congrArg (fun v => some (zi v)) (by omega) | (exfalso; omega)
                · exact hr
        · refine z_pushJ gp_146_9 ?_
          refine z_goto gi_146_10 ?_
          refine z_bret1 gi_146_14 gr_146 ?_
          show zW _ _ _ _ _ _ _ _ _ _
          refine z_if_neT gi_115_21 zr_1 (by decide) ?_
          refine z_aload0 gi_115_26 ?_
          refine z_getR (r := 10) gi_115_27 gk_0 (hR _ rm_0_2) ?_
          refine z_aload0 gi_115_30 ?_
          refine z_getR (r := 37) gi_115_31 gk_0 (hR _ rm_0_11) ?_
          refine z_iload1 gi_115_34 ?_
          refine z_aald (r := 38 + 2 * s.toNat) gi_115_35 rfl (by decide) (by omega) (rr_shelf hR (by omega)) ?_
          refine z_callVi (As := [_]) (le := [some _, some _, none, none, none]) gi_115_36 rfl gk_10 (Nat.le_of_ble_eq_true rfl) (Nat.le_of_ble_eq_true rfl) rfl ?_
          refine z_aload1 gi_78_0 ?_
          refine z_callVi (As := []) (le := [some _]) gi_78_1 rfl (zk_shelf (by omega)) (Nat.le_of_ble_eq_true rfl) (Nat.le_of_ble_eq_true rfl) rfl ?_
          refine z_aload0 gi_69_0 ?_
          refine z_getI (v := 0) gi_69_1 (zk_shelf (by omega)) (hh) ?_
          refine z_if_neF gi_69_4 zr_0 (by decide) ?_
          refine z_pushJ gp_69_7 ?_
          refine z_iret gi_69_9 gr_69 ?_
          show zW _ _ _ _ _ _ _ _ _ _
          refine z_istore (ls1 := [some (.ref 10), some (.ref (38 + 2 * s.toNat)), some (zi (-11)), none, none]) gi_78_4 rfl ?_
          refine z_iload2 gi_78_5 ?_
          refine z_if_geF gi_78_6 zrn_11 (by decide) ?_
          refine z_iload2 gi_78_9 ?_
          refine z_iret gi_78_10 gr_78 ?_
          show zW _ _ _ _ _ _ _ _ _ _
          refine z_istore (ls1 := [some (.ref 0), some (zi s), some (zi v), some (zi q), some (zi (-11)), none, none, none, none, none]) gi_115_39 rfl ?_
          refine z_iload4 gi_115_41 ?_
          refine z_if_geF gi_115_43 zrn_11 (by decide) ?_
          refine z_iload4 gi_115_46 ?_
          refine z_iret gi_115_48 gr_115 ?_
          refine ⟨_, rfl, ?_⟩
          show zW _ _ _ _ [some (.ref 50), some (zi s), some (zi v), some (zi q), none, none, none, none, none] _ _ _ _ _
          refine z_iload1 gi_207_0 ?_
          refine z_cS1 gi_207_1 (Nat.le_of_ble_eq_true rfl) gc_248_I ?_
          refine z_iload0 gi_248_0 ?_
          refine z_pushJ gp_248_1 ?_
          refine z_pushJ gp_248_2 ?_
          refine z_cS3 gi_248_3 (Nat.le_of_ble_eq_true rfl) gc_148_III ?_
          refine z_iload0 gi_148_0 ?_
          refine z_iload1 gi_148_1 ?_
          refine z_icmp_ltF gi_148_2 (by omega) zr_0 (by omega) ?_
          refine z_iload0 gi_148_5 ?_
          refine z_iload2 gi_148_6 ?_
          refine z_icmp_gtF gi_148_7 (by omega) zr_5 (by omega) ?_
          refine z_pushJ gp_148_10 ?_
          refine z_goto gi_148_11 ?_
          refine z_bret1 gi_148_15 gr_148 ?_
          show zW _ _ _ _ _ _ _ _ _ _
          refine z_bret1 gi_248_6 gr_248 ?_
          show zW _ _ _ _ _ _ _ _ _ _
          refine z_if_eqF gi_207_4 zr_1 (by decide) ?_
          refine z_iload2 gi_207_7 ?_
          refine z_if_ltF gi_207_8 (by omega) (by omega) ?_
          refine z_iload2 gi_207_11 ?_
          refine z_pushJ gp_207_12 ?_
          refine z_idiv (e := v / 100) gi_207_14 (by omega) (by omega) rfl ?_
          refine z_pushJ gp_207_15 ?_
          refine z_icmp_gt gi_207_18 (by omega) (by decide) (fun h5 => ?_) (fun h5 => ?_)
          · refine z_pushJ gp_207_30 ?_
            refine z_iret gi_207_31 gr_207 ?_
            refine ⟨?_, ?_⟩
            · first | rfl | exact congrArg (fun v => some (zi v)) (by omega) | (exfalso; omega)
            · exact hr
          · refine z_iload3 gi_207_21 ?_
            refine z_pushJ gp_207_22 ?_
            refine z_pushJ gp_207_23 ?_
            refine z_cS3 gi_207_24 (Nat.le_of_ble_eq_true rfl) gc_148_III ?_
            refine z_iload0 gi_148_0 ?_
            refine z_iload1 gi_148_1 ?_
            refine z_icmp_ltF gi_148_2 (by omega) zr_0 (by omega) ?_
            refine z_iload0 gi_148_5 ?_
            refine z_iload2 gi_148_6 ?_
            refine z_icmp_gtF gi_148_7 (by omega) zr_1 (by omega) ?_
            refine z_pushJ gp_148_10 ?_
            refine z_goto gi_148_11 ?_
            refine z_bret1 gi_148_15 gr_148 ?_
            show zW _ _ _ _ _ _ _ _ _ _
            refine z_if_neT gi_207_27 zr_1 (by decide) ?_
            refine z_aload0 gi_207_32 ?_
            refine z_iload1 gi_207_33 ?_
            refine z_cV1 gi_207_34 gk_50 go_192 (Nat.le_of_ble_eq_true rfl) gc_192_RI ?_
            refine z_aload0 gi_192_0 ?_
            refine z_getR (r := 83) gi_192_1 gk_50 (hRr _ rm_50_58 (by decide)) ?_
            refine z_iload1 gi_192_4 ?_
            refine z_iald (v := (-1)) gi_192_5 gk_83 (by decide) (by omega) (e83) ?_
            refine z_pushJ gp_192_6 ?_
            refine z_icmp_neF gi_192_7 zrn_1 zrn_1 (by decide) ?_
            refine z_pushJ gp_192_10 ?_
            refine z_goto gi_192_12 ?_
            refine z_iret gi_192_32 gr_192 ?_
            show zW _ _ _ _ _ _ _ _ _ _
            refine z_if_geF gi_207_37 zrn_11 (by decide) ?_
            refine z_aload0 gi_207_40 ?_
            refine z_iload1 gi_207_41 ?_
            refine z_cV1 gi_207_42 gk_50 go_192 (Nat.le_of_ble_eq_true rfl) gc_192_RI ?_
            refine z_aload0 gi_192_0 ?_
            refine z_getR (r := 83) gi_192_1 gk_50 (hRr _ rm_50_58 (by decide)) ?_
            refine z_iload1 gi_192_4 ?_
            refine z_iald (v := (-1)) gi_192_5 gk_83 (by decide) (by omega) (e83) ?_
            refine z_pushJ gp_192_6 ?_
            refine z_icmp_neF gi_192_7 zrn_1 zrn_1 (by decide) ?_
            refine z_pushJ gp_192_10 ?_
            refine z_goto gi_192_12 ?_
            refine z_iret gi_192_32 gr_192 ?_
            show zW _ _ _ _ _ _ _ _ _ _
            refine z_iret gi_207_45 gr_207 ?_
            refine ⟨?_, ?_⟩
            · first | rfl | exact congrArg (fun v => some (zi v)) (by omega) | (exfalso; omega)
            · exact hr
theorem st_giveUp_1 {X : Nat × (Nat → Int32)} {d : Nat} {J M : zA} {R : zR} {s v q : Int} (hr : Rel X J M R) (hs : -2147483648 ≤ s ∧ s < 2147483648) (hv : -2147483648 ≤ v ∧ v < 2147483648) (hq : -2147483648 ≤ q ∧ q < 2147483648) (hs6 : 0 ≤ s ∧ s < 6) (hh : J (38 + 2 * s.toNat) 0 = 1) : zW X (d + 20) 115 0 (gEn 115 [(.ref 0), (zi s), (zi v), (zi q)]) [] J M R (stP X (d + 20) 207 [(zi s), (zi v), (zi q)]) := by
  have hr0 := hr
  obtain ⟨hR, hG, hY, hD, hP, hC, hAc, hS, hTp, hX, hW⟩ := hr0
  have hRr : zRoR R := zRoR_of hR
  have hY0 := hY
  obtain ⟨y1, y2, y3⟩ := hY0
  have yn := zNn y3
  have hA0 := hAc
  obtain ⟨a1, a2, a3, a4, a5, a6⟩ := hA0
  have e83 : J 83 s = J (38 + 2 * s.toNat) 1 := (hS s hs6.1 hs6.2).1.symm.trans (cH_1 hh)
  have s3 : 0 ≤ J (38 + 2 * s.toNat) 2 ∧ J (38 + 2 * s.toNat) 2 ≤ 4 := (hS s hs6.1 hs6.2).2.2.1
  have s4 : 0 ≤ J (38 + 2 * s.toNat) 3 ∧ J (38 + 2 * s.toNat) 3 ≤ 60 := (hS s hs6.1 hs6.2).2.2.2.1
  have s5 : 0 ≤ J (38 + 2 * s.toNat) 1 ∧ J (38 + 2 * s.toNat) 1 < J 34 1 := (hS s hs6.1 hs6.2).2.2.2.2.1 hh
  show zW _ _ _ _ [some (.ref 0), some (zi s), some (zi v), some (zi q), none, none, none, none, none, none] _ _ _ _ _
  refine z_iload1 gi_115_0 ?_
  refine z_cS1 gi_115_1 (Nat.le_of_ble_eq_true rfl) gc_143_I ?_
  refine z_iload0 gi_143_0 ?_
  refine z_if_ltF gi_143_1 (by omega) (by omega) ?_
  refine z_iload0 gi_143_4 ?_
  refine z_pushJ gp_143_5 ?_
  refine z_icmp_geF gi_143_7 (by omega) zr_6 (by omega) ?_
  refine z_pushJ gp_143_10 ?_
  refine z_goto gi_143_11 ?_
  refine z_bret1 gi_143_15 gr_143 ?_
  show zW _ _ _ _ _ _ _ _ _ _
  refine z_if_eqF gi_115_4 zr_1 (by decide) ?_
  refine z_iload2 gi_115_7 ?_
  refine z_if_lt gi_115_8 (by omega) (fun h1 => ?_) (fun h1 => ?_)
  · refine z_pushJ gp_115_24 ?_
    refine z_iret gi_115_25 gr_115 ?_
    refine ⟨_, rfl, ?_⟩
    show zW _ _ _ _ [some (.ref 50), some (zi s), some (zi v), some (zi q), none, none, none, none, none] _ _ _ _ _
    refine z_iload1 gi_207_0 ?_
    refine z_cS1 gi_207_1 (Nat.le_of_ble_eq_true rfl) gc_248_I ?_
    refine z_iload0 gi_248_0 ?_
    refine z_pushJ gp_248_1 ?_
    refine z_pushJ gp_248_2 ?_
    refine z_cS3 gi_248_3 (Nat.le_of_ble_eq_true rfl) gc_148_III ?_
    refine z_iload0 gi_148_0 ?_
    refine z_iload1 gi_148_1 ?_
    refine z_icmp_ltF gi_148_2 (by omega) zr_0 (by omega) ?_
    refine z_iload0 gi_148_5 ?_
    refine z_iload2 gi_148_6 ?_
    refine z_icmp_gtF gi_148_7 (by omega) zr_5 (by omega) ?_
    refine z_pushJ gp_148_10 ?_
    refine z_goto gi_148_11 ?_
    refine z_bret1 gi_148_15 gr_148 ?_
    show zW _ _ _ _ _ _ _ _ _ _
    refine z_bret1 gi_248_6 gr_248 ?_
    show zW _ _ _ _ _ _ _ _ _ _
    refine z_if_eqF gi_207_4 zr_1 (by decide) ?_
    refine z_iload2 gi_207_7 ?_
    refine z_if_ltT gi_207_8 (by omega) (by omega) ?_
    refine z_pushJ gp_207_30 ?_
    refine z_iret gi_207_31 gr_207 ?_
    refine ⟨?_, ?_⟩
    · first | rfl | exact congrArg (fun v => some (zi v)) (by omega) | (exfalso; omega)
    · exact hr
  · refine z_iload2 gi_115_11 ?_
    refine z_pushJ gp_115_12 ?_
    refine z_icmp_ge gi_115_14 (by omega) (by decide) (fun h2 => ?_) (fun h2 => ?_)
    · refine z_pushJ gp_115_24 ?_
      refine z_iret gi_115_25 gr_115 ?_
      refine ⟨_, rfl, ?_⟩
      show zW _ _ _ _ [some (.ref 50), some (zi s), some (zi v), some (zi q), none, none, none, none, none] _ _ _ _ _
      refine z_iload1 gi_207_0 ?_
      refine z_cS1 gi_207_1 (Nat.le_of_ble_eq_true rfl) gc_248_I ?_
      refine z_iload0 gi_248_0 ?_
      refine z_pushJ gp_248_1 ?_
      refine z_pushJ gp_248_2 ?_
      refine z_cS3 gi_248_3 (Nat.le_of_ble_eq_true rfl) gc_148_III ?_
      refine z_iload0 gi_148_0 ?_
      refine z_iload1 gi_148_1 ?_
      refine z_icmp_ltF gi_148_2 (by omega) zr_0 (by omega) ?_
      refine z_iload0 gi_148_5 ?_
      refine z_iload2 gi_148_6 ?_
      refine z_icmp_gtF gi_148_7 (by omega) zr_5 (by omega) ?_
      refine z_pushJ gp_148_10 ?_
      refine z_goto gi_148_11 ?_
      refine z_bret1 gi_148_15 gr_148 ?_
      show zW _ _ _ _ _ _ _ _ _ _
      refine z_bret1 gi_248_6 gr_248 ?_
      show zW _ _ _ _ _ _ _ _ _ _
      refine z_if_eqF gi_207_4 zr_1 (by decide) ?_
      refine z_iload2 gi_207_7 ?_
      refine z_if_ltF gi_207_8 (by omega) (by omega) ?_
      refine z_iload2 gi_207_11 ?_
      refine z_pushJ gp_207_12 ?_
      refine z_idiv (e := v / 100) gi_207_14 (by omega) (by omega) rfl ?_
      refine z_pushJ gp_207_15 ?_
      refine z_icmp_gt gi_207_18 (by omega) (by decide) (fun h3 => ?_) (fun h3 => ?_)
      · refine z_pushJ gp_207_30 ?_
        refine z_iret gi_207_31 gr_207 ?_
        refine ⟨?_, ?_⟩
        · first | rfl | exact congrArg (fun v => some (zi v)) (by omega) | (exfalso; omega)
        · exact hr
      · refine z_iload3 gi_207_21 ?_
        refine z_pushJ gp_207_22 ?_
        refine z_pushJ gp_207_23 ?_
        refine z_cS3 gi_207_24 (Nat.le_of_ble_eq_true rfl) gc_148_III ?_
        refine z_iload0 gi_148_0 ?_
        refine z_iload1 gi_148_1 ?_
        refine z_icmp_lt gi_148_2 (by omega) zr_0 (fun h4 => ?_) (fun h4 => ?_)
        · refine z_pushJ gp_148_14 ?_
          refine z_bret0 gi_148_15 gr_148 ?_
          show zW _ _ _ _ _ _ _ _ _ _
          refine z_if_neF gi_207_27 zr_0 (by decide) ?_
          refine z_pushJ gp_207_30 ?_
          refine z_iret gi_207_31 gr_207 ?_
          refine ⟨?_, ?_⟩
          · first | rfl | exact congrArg (fun v => some (zi v)) (by omega) | (exfalso; omega)
          · exact hr
        · refine z_iload0 gi_148_5 ?_
          refine z_iload2 gi_148_6 ?_
          refine z_icmp_gt gi_148_7 (by omega) zr_1 (fun h5 => ?_) (fun h5 => ?_)
          · refine z_pushJ gp_148_14 ?_
            refine z_bret0 gi_148_15 gr_148 ?_
            show zW _ _ _ _ _ _ _ _ _ _
            refine z_if_neF gi_207_27 zr_0 (by decide) ?_
            refine z_pushJ gp_207_30 ?_
            refine z_iret gi_207_31 gr_207 ?_
            refine ⟨?_, ?_⟩
            · first | rfl | exact congrArg (fun v => some (zi v)) (by omega) | (exfalso; omega)
            · exact hr
          · refine z_pushJ gp_148_10 ?_
            refine z_goto gi_148_11 ?_
            refine z_bret1 gi_148_15 gr_148 ?_
            show zW _ _ _ _ _ _ _ _ _ _
            refine z_if_neT gi_207_27 zr_1 (by decide) ?_
            refine z_aload0 gi_207_32 ?_
            refine z_iload1 gi_207_33 ?_
            refine z_cV1 gi_207_34 gk_50 go_192 (Nat.le_of_ble_eq_true rfl) gc_192_RI ?_
            refine z_aload0 gi_192_0 ?_
            refine z_getR (r := 83) gi_192_1 gk_50 (hRr _ rm_50_58 (by decide)) ?_
            refine z_iload1 gi_192_4 ?_
            refine z_iald (v := J (38 + 2 * s.toNat) 1) gi_192_5 gk_83 (by decide) (by omega) (e83) ?_
            refine z_pushJ gp_192_6 ?_
            refine z_icmp_ne gi_192_7 (by omega) zrn_1 (fun h6 => ?_) (fun h6 => ?_)
            · refine z_aload0 gi_192_15 ?_
              refine z_getR (r := 83) gi_192_16 gk_50 (hRr _ rm_50_58 (by decide)) ?_
              refine z_iload1 gi_192_19 ?_
              refine z_iald (v := J (38 + 2 * s.toNat) 1) gi_192_20 gk_83 (by decide) (by omega) (e83) ?_
              refine z_pushJ gp_192_21 ?_
              refine z_icmp_ne gi_192_23 (by omega) zrn_2 (fun h7 => ?_) (fun h7 => ?_)
              · refine z_pushJ gp_192_30 ?_
                refine z_iret gi_192_32 gr_192 ?_
                show zW _ _ _ _ _ _ _ _ _ _
                refine z_if_geF gi_207_37 zrn_12 (by decide) ?_
                refine z_aload0 gi_207_40 ?_
                refine z_iload1 gi_207_41 ?_
                refine z_cV1 gi_207_42 gk_50 go_192 (Nat.le_of_ble_eq_true rfl) gc_192_RI ?_
                refine z_aload0 gi_192_0 ?_
                refine z_getR (r := 83) gi_192_1 gk_50 (hRr _ rm_50_58 (by decide)) ?_
                refine z_iload1 gi_192_4 ?_
                refine z_iald (v := J (38 + 2 * s.toNat) 1) gi_192_5 gk_83 (by decide) (by omega) (e83) ?_
                refine z_pushJ gp_192_6 ?_
                refine z_icmp_ne gi_192_7 (by omega) zrn_1 (fun h8 => ?_) (fun h8 => ?_)
                · refine z_aload0 gi_192_15 ?_
                  refine z_getR (r := 83) gi_192_16 gk_50 (hRr _ rm_50_58 (by decide)) ?_
                  refine z_iload1 gi_192_19 ?_
                  refine z_iald (v := J (38 + 2 * s.toNat) 1) gi_192_20 gk_83 (by decide) (by omega) (e83) ?_
                  refine z_pushJ gp_192_21 ?_
                  refine z_icmp_ne gi_192_23 (by omega) zrn_2 (fun h9 => ?_) (fun h9 => ?_)
                  · refine z_pushJ gp_192_30 ?_
                    refine z_iret gi_192_32 gr_192 ?_
                    show zW _ _ _ _ _ _ _ _ _ _
                    refine z_iret gi_207_45 gr_207 ?_
                    refine ⟨?_, ?_⟩
                    · first | rfl | exact congrArg (fun v => some (zi v)) (by omega) | (exfalso; omega)
                    · exact hr
                  · refine z_pushJ gp_192_26 ?_
                    refine z_goto gi_192_27 ?_
                    refine z_iret gi_192_32 gr_192 ?_
                    show zW _ _ _ _ _ _ _ _ _ _
                    refine z_iret gi_207_45 gr_207 ?_
                    refine ⟨?_, ?_⟩
                    · first | rfl | exact congrArg (fun v => some (zi v)) (by omega) | (exfalso; omega)
                    · exact hr
                · refine z_pushJ gp_192_10 ?_
                  refine z_goto gi_192_12 ?_
                  refine z_iret gi_192_32 gr_192 ?_
                  show zW _ _ _ _ _ _ _ _ _ _
                  refine z_iret gi_207_45 gr_207 ?_
                  refine ⟨?_, ?_⟩
                  · first | rfl | exact congrArg (fun v => some (zi v)) (by omega) | (exfalso; omega)
                  · exact hr
              · refine z_pushJ gp_192_26 ?_
                refine z_goto gi_192_27 ?_
                refine z_iret gi_192_32 gr_192 ?_
                show zW _ _ _ _ _ _ _ _ _ _
                refine z_if_geT gi_207_37 zr_0 (by decide) ?_
                refine z_aload0 gi_207_46 ?_
                refine z_iload1 gi_207_47 ?_
                refine z_pushJ gp_207_48 ?_
                exfalso
                omega
            · refine z_pushJ gp_192_10 ?_
              refine z_goto gi_192_12 ?_
              refine z_iret gi_192_32 gr_192 ?_
              show zW _ _ _ _ _ _ _ _ _ _
              refine z_if_geF gi_207_37 zrn_11 (by decide) ?_
              refine z_aload0 gi_207_40 ?_
              refine z_iload1 gi_207_41 ?_
              refine z_cV1 gi_207_42 gk_50 go_192 (Nat.le_of_ble_eq_true rfl) gc_192_RI ?_
              refine z_aload0 gi_192_0 ?_
              refine z_getR (r := 83) gi_192_1 gk_50 (hRr _ rm_50_58 (by decide)) ?_
              refine z_iload1 gi_192_4 ?_
              refine z_iald (v := J (38 + 2 * s.toNat) 1) gi_192_5 gk_83 (by decide) (by omega) (e83) ?_
              refine z_pushJ gp_192_6 ?_
              refine z_icmp_neF gi_192_7 (by omega) zrn_1 (by omega) ?_
              refine z_pushJ gp_192_10 ?_
              refine z_goto gi_192_12 ?_
              refine z_iret gi_192_32 gr_192 ?_
              show zW _ _ _ _ _ _ _ _ _ _
              refine z_iret gi_207_45 gr_207 ?_
              refine ⟨?_, ?_⟩
              · first | rfl | exact congrArg (fun v => some (zi v)) (by omega) | (exfalso; omega)
              · exact hr
    · refine z_iload3 gi_115_17 ?_
      refine z_cS1 gi_115_18 (Nat.le_of_ble_eq_true rfl) gc_146_I ?_
      refine z_iload0 gi_146_0 ?_
      refine z_if_eq gi_146_1 (by omega) (fun h3 => ?_) (fun h3 => ?_)
      · refine z_pushJ gp_146_9 ?_
        refine z_goto gi_146_10 ?_
        refine z_bret1 gi_146_14 gr_146 ?_
        show zW _ _ _ _ _ _ _ _ _ _
        refine z_if_neT gi_115_21 zr_1 (by decide) ?_
        refine z_aload0 gi_115_26 ?_
        refine z_getR (r := 10) gi_115_27 gk_0 (hR _ rm_0_2) ?_
        refine z_aload0 gi_115_30 ?_
        refine z_getR (r := 37) gi_115_31 gk_0 (hR _ rm_0_11) ?_
        refine z_iload1 gi_115_34 ?_
        refine z_aald (r := 38 + 2 * s.toNat) gi_115_35 rfl (by decide) (by omega) (rr_shelf hR (by omega)) ?_
        refine z_callVi (As := [_]) (le := [some _, some _, none, none, none]) gi_115_36 rfl gk_10 (Nat.le_of_ble_eq_true rfl) (Nat.le_of_ble_eq_true rfl) rfl ?_
        refine z_aload1 gi_78_0 ?_
        refine z_callVi (As := []) (le := [some _]) gi_78_1 rfl (zk_shelf (by omega)) (Nat.le_of_ble_eq_true rfl) (Nat.le_of_ble_eq_true rfl) rfl ?_
        refine z_aload0 gi_69_0 ?_
        refine z_getI (v := 1) gi_69_1 (zk_shelf (by omega)) (hh) ?_
        refine z_if_neT gi_69_4 zr_1 (by decide) ?_
        refine z_aload0 gi_69_10 ?_
        refine z_callVi (As := []) (le := [some _]) gi_69_11 rfl (zk_shelf (by omega)) (Nat.le_of_ble_eq_true rfl) (Nat.le_of_ble_eq_true rfl) rfl ?_
        refine z_aload0 gi_64_0 ?_
        refine z_getI (v := 1) gi_64_1 (zk_shelf (by omega)) (hh) ?_
        refine z_pushJ gp_64_4 ?_
        refine z_icmp_neT gi_64_5 zr_1 zr_2 (by decide) ?_
        refine z_pushJ gp_64_19 ?_
        refine z_bret0 gi_64_20 gr_64 ?_
        show zW _ _ _ _ _ _ _ _ _ _
        refine z_if_eqT gi_69_14 zr_0 (by decide) ?_
        refine z_pushJ gp_69_21 ?_
        refine z_iret gi_69_23 gr_69 ?_
        show zW _ _ _ _ _ _ _ _ _ _
        refine z_istore (ls1 := [some (.ref 10), some (.ref (38 + 2 * s.toNat)), some (zi (-12)), none, none]) gi_78_4 rfl ?_
        refine z_iload2 gi_78_5 ?_
        refine z_if_geF gi_78_6 zrn_12 (by decide) ?_
        refine z_iload2 gi_78_9 ?_
        refine z_iret gi_78_10 gr_78 ?_
        show zW _ _ _ _ _ _ _ _ _ _
        refine z_istore (ls1 := [some (.ref 0), some (zi s), some (zi v), some (zi q), some (zi (-12)), none, none, none, none, none]) gi_115_39 rfl ?_
        refine z_iload4 gi_115_41 ?_
        refine z_if_geF gi_115_43 zrn_12 (by decide) ?_
        refine z_iload4 gi_115_46 ?_
        refine z_iret gi_115_48 gr_115 ?_
        refine ⟨_, rfl, ?_⟩
        show zW _ _ _ _ [some (.ref 50), some (zi s), some (zi v), some (zi q), none, none, none, none, none] _ _ _ _ _
        refine z_iload1 gi_207_0 ?_
        refine z_cS1 gi_207_1 (Nat.le_of_ble_eq_true rfl) gc_248_I ?_
        refine z_iload0 gi_248_0 ?_
        refine z_pushJ gp_248_1 ?_
        refine z_pushJ gp_248_2 ?_
        refine z_cS3 gi_248_3 (Nat.le_of_ble_eq_true rfl) gc_148_III ?_
        refine z_iload0 gi_148_0 ?_
        refine z_iload1 gi_148_1 ?_
        refine z_icmp_ltF gi_148_2 (by omega) zr_0 (by omega) ?_
        refine z_iload0 gi_148_5 ?_
        refine z_iload2 gi_148_6 ?_
        refine z_icmp_gtF gi_148_7 (by omega) zr_5 (by omega) ?_
        refine z_pushJ gp_148_10 ?_
        refine z_goto gi_148_11 ?_
        refine z_bret1 gi_148_15 gr_148 ?_
        show zW _ _ _ _ _ _ _ _ _ _
        refine z_bret1 gi_248_6 gr_248 ?_
        show zW _ _ _ _ _ _ _ _ _ _
        refine z_if_eqF gi_207_4 zr_1 (by decide) ?_
        refine z_iload2 gi_207_7 ?_
        refine z_if_ltF gi_207_8 (by omega) (by omega) ?_
        refine z_iload2 gi_207_11 ?_
        refine z_pushJ gp_207_12 ?_
        refine z_idiv (e := v / 100) gi_207_14 (by omega) (by omega) rfl ?_
        refine z_pushJ gp_207_15 ?_
        refine z_icmp_gt gi_207_18 (by omega) (by decide) (fun h4 => ?_) (fun h4 => ?_)
        · refine z_pushJ gp_207_30 ?_
          refine z_iret gi_207_31 gr_207 ?_
          refine ⟨?_, ?_⟩
          · first | rfl | exact congrArg (fun v => some (zi v)) (by omega) | (exfalso; omega)
          · exact hr
        · refine z_iload3 gi_207_21 ?_
          refine z_pushJ gp_207_22 ?_
          refine z_pushJ gp_207_23 ?_
          refine z_cS3 gi_207_24 (Nat.le_of_ble_eq_true rfl) gc_148_III ?_
          refine z_iload0 gi_148_0 ?_
          refine z_iload1 gi_148_1 ?_
          refine z_icmp_ltF gi_148_2 (by omega) zr_0 (by omega) ?_
          refine z_iload0 gi_148_5 ?_
          refine z_iload2 gi_148_6 ?_
          refine z_icmp_gtF gi_148_7 (by omega) zr_1 (by omega) ?_
          refine z_pushJ gp_148_10 ?_
          refine z_goto gi_148_11 ?_
          refine z_bret1 gi_148_15 gr_148 ?_
          show zW _ _ _ _ _ _ _ _ _ _
          refine z_if_neT gi_207_27 zr_1 (by decide) ?_
          refine z_aload0 gi_207_32 ?_
          refine z_iload1 gi_207_33 ?_
          refine z_cV1 gi_207_34 gk_50 go_192 (Nat.le_of_ble_eq_true rfl) gc_192_RI ?_
          refine z_aload0 gi_192_0 ?_
          refine z_getR (r := 83) gi_192_1 gk_50 (hRr _ rm_50_58 (by decide)) ?_
          refine z_iload1 gi_192_4 ?_
          refine z_iald (v := J (38 + 2 * s.toNat) 1) gi_192_5 gk_83 (by decide) (by omega) (e83) ?_
          refine z_pushJ gp_192_6 ?_
          refine z_icmp_ne gi_192_7 (by omega) zrn_1 (fun h5 => ?_) (fun h5 => ?_)
          · refine z_aload0 gi_192_15 ?_
            refine z_getR (r := 83) gi_192_16 gk_50 (hRr _ rm_50_58 (by decide)) ?_
            refine z_iload1 gi_192_19 ?_
            refine z_iald (v := J (38 + 2 * s.toNat) 1) gi_192_20 gk_83 (by decide) (by omega) (e83) ?_
            refine z_pushJ gp_192_21 ?_
            refine z_icmp_ne gi_192_23 (by omega) zrn_2 (fun h6 => ?_) (fun h6 => ?_)
            · refine z_pushJ gp_192_30 ?_
              refine z_iret gi_192_32 gr_192 ?_
              show zW _ _ _ _ _ _ _ _ _ _
              refine z_if_geF gi_207_37 zrn_12 (by decide) ?_
              refine z_aload0 gi_207_40 ?_
              refine z_iload1 gi_207_41 ?_
              refine z_cV1 gi_207_42 gk_50 go_192 (Nat.le_of_ble_eq_true rfl) gc_192_RI ?_
              refine z_aload0 gi_192_0 ?_
              refine z_getR (r := 83) gi_192_1 gk_50 (hRr _ rm_50_58 (by decide)) ?_
              refine z_iload1 gi_192_4 ?_
              refine z_iald (v := J (38 + 2 * s.toNat) 1) gi_192_5 gk_83 (by decide) (by omega) (e83) ?_
              refine z_pushJ gp_192_6 ?_
              refine z_icmp_ne gi_192_7 (by omega) zrn_1 (fun h7 => ?_) (fun h7 => ?_)
              · refine z_aload0 gi_192_15 ?_
                refine z_getR (r := 83) gi_192_16 gk_50 (hRr _ rm_50_58 (by decide)) ?_
                refine z_iload1 gi_192_19 ?_
                refine z_iald (v := J (38 + 2 * s.toNat) 1) gi_192_20 gk_83 (by decide) (by omega) (e83) ?_
                refine z_pushJ gp_192_21 ?_
                refine z_icmp_ne gi_192_23 (by omega) zrn_2 (fun h8 => ?_) (fun h8 => ?_)
                · refine z_pushJ gp_192_30 ?_
                  refine z_iret gi_192_32 gr_192 ?_
                  show zW _ _ _ _ _ _ _ _ _ _
                  refine z_iret gi_207_45 gr_207 ?_
                  refine ⟨?_, ?_⟩
                  · first | rfl | exact congrArg (fun v => some (zi v)) (by omega) | (exfalso; omega)
                  · exact hr
                · refine z_pushJ gp_192_26 ?_
                  refine z_goto gi_192_27 ?_
                  refine z_iret gi_192_32 gr_192 ?_
                  show zW _ _ _ _ _ _ _ _ _ _
                  refine z_iret gi_207_45 gr_207 ?_
                  refine ⟨?_, ?_⟩
                  · first | rfl | exact congrArg (fun v => some (zi v)) (by omega) | (exfalso; omega)
                  · exact hr
              · refine z_pushJ gp_192_10 ?_
                refine z_goto gi_192_12 ?_
                refine z_iret gi_192_32 gr_192 ?_
                show zW _ _ _ _ _ _ _ _ _ _
                refine z_iret gi_207_45 gr_207 ?_
                refine ⟨?_, ?_⟩
                · first | rfl | exact congrArg (fun v => some (zi v)) (by omega) | (exfalso; omega)
                · exact hr
            · refine z_pushJ gp_192_26 ?_
              refine z_goto gi_192_27 ?_
              refine z_iret gi_192_32 gr_192 ?_
              show zW _ _ _ _ _ _ _ _ _ _
              refine z_if_geT gi_207_37 zr_0 (by decide) ?_
              refine z_aload0 gi_207_46 ?_
              refine z_iload1 gi_207_47 ?_
              refine z_pushJ gp_207_48 ?_
              exfalso
              omega
          · refine z_pushJ gp_192_10 ?_
            refine z_goto gi_192_12 ?_
            refine z_iret gi_192_32 gr_192 ?_
            show zW _ _ _ _ _ _ _ _ _ _
            refine z_if_geF gi_207_37 zrn_11 (by decide) ?_
            refine z_aload0 gi_207_40 ?_
            refine z_iload1 gi_207_41 ?_
            refine z_cV1 gi_207_42 gk_50 go_192 (Nat.le_of_ble_eq_true rfl) gc_192_RI ?_
            refine z_aload0 gi_192_0 ?_
            refine z_getR (r := 83) gi_192_1 gk_50 (hRr _ rm_50_58 (by decide)) ?_
            refine z_iload1 gi_192_4 ?_
            refine z_iald (v := J (38 + 2 * s.toNat) 1) gi_192_5 gk_83 (by decide) (by omega) (e83) ?_
            refine z_pushJ gp_192_6 ?_
            refine z_icmp_neF gi_192_7 (by omega) zrn_1 (by omega) ?_
            refine z_pushJ gp_192_10 ?_
            refine z_goto gi_192_12 ?_
            refine z_iret gi_192_32 gr_192 ?_
            show zW _ _ _ _ _ _ _ _ _ _
            refine z_iret gi_207_45 gr_207 ?_
            refine ⟨?_, ?_⟩
            · first | rfl | exact congrArg (fun v => some (zi v)) (by omega) | (exfalso; omega)
            · exact hr
      · refine z_iload0 gi_146_4 ?_
        refine z_pushJ gp_146_5 ?_
        refine z_icmp_ne gi_146_6 (by omega) zr_1 (fun h4 => ?_) (fun h4 => ?_)
        · refine z_pushJ gp_146_13 ?_
          refine z_bret0 gi_146_14 gr_146 ?_
          show zW _ _ _ _ _ _ _ _ _ _
          refine z_if_neF gi_115_21 zr_0 (by decide) ?_
          refine z_pushJ gp_115_24 ?_
          refine z_iret gi_115_25 gr_115 ?_
          refine ⟨_, rfl, ?_⟩
          show zW _ _ _ _ [some (.ref 50), some (zi s), some (zi v), some (zi q), none, none, none, none, none] _ _ _ _ _
          refine z_iload1 gi_207_0 ?_
          refine z_cS1 gi_207_1 (Nat.le_of_ble_eq_true rfl) gc_248_I ?_
          refine z_iload0 gi_248_0 ?_
          refine z_pushJ gp_248_1 ?_
          refine z_pushJ gp_248_2 ?_
          refine z_cS3 gi_248_3 (Nat.le_of_ble_eq_true rfl) gc_148_III ?_
          refine z_iload0 gi_148_0 ?_
          refine z_iload1 gi_148_1 ?_
          refine z_icmp_ltF gi_148_2 (by omega) zr_0 (by omega) ?_
          refine z_iload0 gi_148_5 ?_
          refine z_iload2 gi_148_6 ?_
          refine z_icmp_gtF gi_148_7 (by omega) zr_5 (by omega) ?_
          refine z_pushJ gp_148_10 ?_
          refine z_goto gi_148_11 ?_
          refine z_bret1 gi_148_15 gr_148 ?_
          show zW _ _ _ _ _ _ _ _ _ _
          refine z_bret1 gi_248_6 gr_248 ?_
          show zW _ _ _ _ _ _ _ _ _ _
          refine z_if_eqF gi_207_4 zr_1 (by decide) ?_
          refine z_iload2 gi_207_7 ?_
          refine z_if_ltF gi_207_8 (by omega) (by omega) ?_
          refine z_iload2 gi_207_11 ?_
          refine z_pushJ gp_207_12 ?_
          refine z_idiv (e := v / 100) gi_207_14 (by omega) (by omega) rfl ?_
          refine z_pushJ gp_207_15 ?_
          refine z_icmp_gt gi_207_18 (by omega) (by decide) (fun h5 => ?_) (fun h5 => ?_)
          · refine z_pushJ gp_207_30 ?_
            refine z_iret gi_207_31 gr_207 ?_
            refine ⟨?_, ?_⟩
            · first | rfl | exact congrArg (fun v => some (zi v)) (by omega) | (exfalso; omega)
            · exact hr
          · refine z_iload3 gi_207_21 ?_
            refine z_pushJ gp_207_22 ?_
            refine z_pushJ gp_207_23 ?_
            refine z_cS3 gi_207_24 (Nat.le_of_ble_eq_true rfl) gc_148_III ?_
            refine z_iload0 gi_148_0 ?_
            refine z_iload1 gi_148_1 ?_
            refine z_icmp_lt gi_148_2 (by omega) zr_0 (fun h6 => ?_) (fun h6 => ?_)
            · refine z_pushJ gp_148_14 ?_
              refine z_bret0 gi_148_15 gr_148 ?_
              show zW _ _ _ _ _ _ _ _ _ _
              refine z_if_neF gi_207_27 zr_0 (by decide) ?_
              refine z_pushJ gp_207_30 ?_
              refine z_iret gi_207_31 gr_207 ?_
              refine ⟨?_, ?_⟩
              · first | rfl | exact congrArg (fun v => some (zi v)) (by omega) | (exfalso; omega)
              · exact hr
            · refine z_iload0 gi_148_5 ?_
              refine z_iload2 gi_148_6 ?_
              refine z_icmp_gt gi_148_7 (by omega) zr_1 (fun h7 => ?_) (fun h7 => ?_)
              · refine z_pushJ gp_148_14 ?_
                refine z_bret0 gi_148_15 gr_148 ?_
                show zW _ _ _ _ _ _ _ _ _ _
                refine z_if_neF gi_207_27 zr_0 (by decide) ?_
                refine z_pushJ gp_207_30 ?_
                refine z_iret gi_207_31 gr_207 ?_
                refine ⟨?_, ?_⟩
                · first | rfl | exact congrArg (fun v => some (zi v)) (by omega) | (exfalso; omega)
                · exact hr
              · refine z_pushJ gp_148_10 ?_
                refine z_goto gi_148_11 ?_
                refine z_bret1 gi_148_15 gr_148 ?_
                show zW _ _ _ _ _ _ _ _ _ _
                refine z_if_neT gi_207_27 zr_1 (by decide) ?_
                refine z_aload0 gi_207_32 ?_
                refine z_iload1 gi_207_33 ?_
                refine z_cV1 gi_207_34 gk_50 go_192 (Nat.le_of_ble_eq_true rfl) gc_192_RI ?_
                refine z_aload0 gi_192_0 ?_
                refine z_getR (r := 83) gi_192_1 gk_50 (hRr _ rm_50_58 (by decide)) ?_
                refine z_iload1 gi_192_4 ?_
                refine z_iald (v := J (38 + 2 * s.toNat) 1) gi_192_5 gk_83 (by decide) (by omega) (e83) ?_
                refine z_pushJ gp_192_6 ?_
                refine z_icmp_ne gi_192_7 (by omega) zrn_1 (fun h8 => ?_) (fun h8 => ?_)
                · refine z_aload0 gi_192_15 ?_
                  refine z_getR (r := 83) gi_192_16 gk_50 (hRr _ rm_50_58 (by decide)) ?_
                  refine z_iload1 gi_192_19 ?_
                  refine z_iald (v := J (38 + 2 * s.toNat) 1) gi_192_20 gk_83 (by decide) (by omega) (e83) ?_
                  refine z_pushJ gp_192_21 ?_
                  refine z_icmp_ne gi_192_23 (by omega) zrn_2 (fun h9 => ?_) (fun h9 => ?_)
                  · refine z_pushJ gp_192_30 ?_
                    refine z_iret gi_192_32 gr_192 ?_
                    show zW _ _ _ _ _ _ _ _ _ _
                    refine z_if_geF gi_207_37 zrn_12 (by decide) ?_
                    refine z_aload0 gi_207_40 ?_
                    refine z_iload1 gi_207_41 ?_
                    refine z_cV1 gi_207_42 gk_50 go_192 (Nat.le_of_ble_eq_true rfl) gc_192_RI ?_
                    refine z_aload0 gi_192_0 ?_
                    refine z_getR (r := 83) gi_192_1 gk_50 (hRr _ rm_50_58 (by decide)) ?_
                    refine z_iload1 gi_192_4 ?_
                    refine z_iald (v := J (38 + 2 * s.toNat) 1) gi_192_5 gk_83 (by decide) (by omega) (e83) ?_
                    refine z_pushJ gp_192_6 ?_
                    refine z_icmp_ne gi_192_7 (by omega) zrn_1 (fun h10 => ?_) (fun h10 => ?_)
                    · refine z_aload0 gi_192_15 ?_
                      refine z_getR (r := 83) gi_192_16 gk_50 (hRr _ rm_50_58 (by decide)) ?_
                      refine z_iload1 gi_192_19 ?_
                      refine z_iald (v := J (38 + 2 * s.toNat) 1) gi_192_20 gk_83 (by decide) (by omega) (e83) ?_
                      refine z_pushJ gp_192_21 ?_
                      refine z_icmp_ne gi_192_23 (by omega) zrn_2 (fun h11 => ?_) (fun h11 => ?_)
                      · refine z_pushJ gp_192_30 ?_
                        refine z_iret gi_192_32 gr_192 ?_
                        show zW _ _ _ _ _ _ _ _ _ _
                        refine z_iret gi_207_45 gr_207 ?_
                        refine ⟨?_, ?_⟩
                        · first | rfl | exact congrArg (fun v => some (zi v)) (by omega) | (exfalso; omega)
                        · exact hr
                      · refine z_pushJ gp_192_26 ?_
                        refine z_goto gi_192_27 ?_
                        refine z_iret gi_192_32 gr_192 ?_
                        show zW _ _ _ _ _ _ _ _ _ _
                        refine z_iret gi_207_45 gr_207 ?_
                        refine ⟨?_, ?_⟩
                        · first | rfl | exact congrArg (fun v => some (zi v)) (by omega) | (exfalso; omega)
                        · exact hr
                    · refine z_pushJ gp_192_10 ?_
                      refine z_goto gi_192_12 ?_
                      refine z_iret gi_192_32 gr_192 ?_
                      show zW _ _ _ _ _ _ _ _ _ _
                      refine z_iret gi_207_45 gr_207 ?_
                      refine ⟨?_, ?_⟩
                      · first | rfl | exact congrArg (fun v => some (zi v)) (by omega) | (exfalso; omega)
                      · exact hr
                  · refine z_pushJ gp_192_26 ?_
                    refine z_goto gi_192_27 ?_
                    refine z_iret gi_192_32 gr_192 ?_
                    show zW _ _ _ _ _ _ _ _ _ _
                    refine z_if_geT gi_207_37 zr_0 (by decide) ?_
                    refine z_aload0 gi_207_46 ?_
                    refine z_iload1 gi_207_47 ?_
                    refine z_pushJ gp_207_48 ?_
                    exfalso
                    omega
                · refine z_pushJ gp_192_10 ?_
                  refine z_goto gi_192_12 ?_
                  refine z_iret gi_192_32 gr_192 ?_
                  show zW _ _ _ _ _ _ _ _ _ _
                  refine z_if_geF gi_207_37 zrn_11 (by decide) ?_
                  refine z_aload0 gi_207_40 ?_
                  refine z_iload1 gi_207_41 ?_
                  refine z_cV1 gi_207_42 gk_50 go_192 (Nat.le_of_ble_eq_true rfl) gc_192_RI ?_
                  refine z_aload0 gi_192_0 ?_
                  refine z_getR (r := 83) gi_192_1 gk_50 (hRr _ rm_50_58 (by decide)) ?_
                  refine z_iload1 gi_192_4 ?_
                  refine z_iald (v := J (38 + 2 * s.toNat) 1) gi_192_5 gk_83 (by decide) (by omega) (e83) ?_
                  refine z_pushJ gp_192_6 ?_
                  refine z_icmp_neF gi_192_7 (by omega) zrn_1 (by omega) ?_
                  refine z_pushJ gp_192_10 ?_
                  refine z_goto gi_192_12 ?_
                  refine z_iret gi_192_32 gr_192 ?_
                  show zW _ _ _ _ _ _ _ _ _ _
                  refine z_iret gi_207_45 gr_207 ?_
                  refine ⟨?_, ?_⟩
                  · first | rfl | exact congrArg (fun v => some (zi v)) (by omega) | (exfalso; omega)
                  · exact hr
        · refine z_pushJ gp_146_9 ?_
          refine z_goto gi_146_10 ?_
          refine z_bret1 gi_146_14 gr_146 ?_
          show zW _ _ _ _ _ _ _ _ _ _
          refine z_if_neT gi_115_21 zr_1 (by decide) ?_
          refine z_aload0 gi_115_26 ?_
          refine z_getR (r := 10) gi_115_27 gk_0 (hR _ rm_0_2) ?_
          refine z_aload0 gi_115_30 ?_
          refine z_getR (r := 37) gi_115_31 gk_0 (hR _ rm_0_11) ?_
          refine z_iload1 gi_115_34 ?_
          refine z_aald (r := 38 + 2 * s.toNat) gi_115_35 rfl (by decide) (by omega) (rr_shelf hR (by omega)) ?_
          refine z_callVi (As := [_]) (le := [some _, some _, none, none, none]) gi_115_36 rfl gk_10 (Nat.le_of_ble_eq_true rfl) (Nat.le_of_ble_eq_true rfl) rfl ?_
          refine z_aload1 gi_78_0 ?_
          refine z_callVi (As := []) (le := [some _]) gi_78_1 rfl (zk_shelf (by omega)) (Nat.le_of_ble_eq_true rfl) (Nat.le_of_ble_eq_true rfl) rfl ?_
          refine z_aload0 gi_69_0 ?_
          refine z_getI (v := 1) gi_69_1 (zk_shelf (by omega)) (hh) ?_
          refine z_if_neT gi_69_4 zr_1 (by decide) ?_
          refine z_aload0 gi_69_10 ?_
          refine z_callVi (As := []) (le := [some _]) gi_69_11 rfl (zk_shelf (by omega)) (Nat.le_of_ble_eq_true rfl) (Nat.le_of_ble_eq_true rfl) rfl ?_
          refine z_aload0 gi_64_0 ?_
          refine z_getI (v := 1) gi_64_1 (zk_shelf (by omega)) (hh) ?_
          refine z_pushJ gp_64_4 ?_
          refine z_icmp_neT gi_64_5 zr_1 zr_2 (by decide) ?_
          refine z_pushJ gp_64_19 ?_
          refine z_bret0 gi_64_20 gr_64 ?_
          show zW _ _ _ _ _ _ _ _ _ _
          refine z_if_eqT gi_69_14 zr_0 (by decide) ?_
          refine z_pushJ gp_69_21 ?_
          refine z_iret gi_69_23 gr_69 ?_
          show zW _ _ _ _ _ _ _ _ _ _
          refine z_istore (ls1 := [some (.ref 10), some (.ref (38 + 2 * s.toNat)), some (zi (-12)), none, none]) gi_78_4 rfl ?_
          refine z_iload2 gi_78_5 ?_
          refine z_if_geF gi_78_6 zrn_12 (by decide) ?_
          refine z_iload2 gi_78_9 ?_
          refine z_iret gi_78_10 gr_78 ?_
          show zW _ _ _ _ _ _ _ _ _ _
          refine z_istore (ls1 := [some (.ref 0), some (zi s), some (zi v), some (zi q), some (zi (-12)), none, none, none, none, none]) gi_115_39 rfl ?_
          refine z_iload4 gi_115_41 ?_
          refine z_if_geF gi_115_43 zrn_12 (by decide) ?_
          refine z_iload4 gi_115_46 ?_
          refine z_iret gi_115_48 gr_115 ?_
          refine ⟨_, rfl, ?_⟩
          show zW _ _ _ _ [some (.ref 50), some (zi s), some (zi v), some (zi q), none, none, none, none, none] _ _ _ _ _
          refine z_iload1 gi_207_0 ?_
          refine z_cS1 gi_207_1 (Nat.le_of_ble_eq_true rfl) gc_248_I ?_
          refine z_iload0 gi_248_0 ?_
          refine z_pushJ gp_248_1 ?_
          refine z_pushJ gp_248_2 ?_
          refine z_cS3 gi_248_3 (Nat.le_of_ble_eq_true rfl) gc_148_III ?_
          refine z_iload0 gi_148_0 ?_
          refine z_iload1 gi_148_1 ?_
          refine z_icmp_ltF gi_148_2 (by omega) zr_0 (by omega) ?_
          refine z_iload0 gi_148_5 ?_
          refine z_iload2 gi_148_6 ?_
          refine z_icmp_gtF gi_148_7 (by omega) zr_5 (by omega) ?_
          refine z_pushJ gp_148_10 ?_
          refine z_goto gi_148_11 ?_
          refine z_bret1 gi_148_15 gr_148 ?_
          show zW _ _ _ _ _ _ _ _ _ _
          refine z_bret1 gi_248_6 gr_248 ?_
          show zW _ _ _ _ _ _ _ _ _ _
          refine z_if_eqF gi_207_4 zr_1 (by decide) ?_
          refine z_iload2 gi_207_7 ?_
          refine z_if_ltF gi_207_8 (by omega) (by omega) ?_
          refine z_iload2 gi_207_11 ?_
          refine z_pushJ gp_207_12 ?_
          refine z_idiv (e := v / 100) gi_207_14 (by omega) (by omega) rfl ?_
          refine z_pushJ gp_207_15 ?_
          refine z_icmp_gt gi_207_18 (by omega) (by decide) (fun h5 => ?_) (fun h5 => ?_)
          · refine z_pushJ gp_207_30 ?_
            refine z_iret gi_207_31 gr_207 ?_
            refine ⟨?_, ?_⟩
            · first | rfl | exact congrArg (fun v => some (zi v)) (by omega) | (exfalso; omega)
            · exact hr
          · refine z_iload3 gi_207_21 ?_
            refine z_pushJ gp_207_22 ?_
            refine z_pushJ gp_207_23 ?_
            refine z_cS3 gi_207_24 (Nat.le_of_ble_eq_true rfl) gc_148_III ?_
            refine z_iload0 gi_148_0 ?_
            refine z_iload1 gi_148_1 ?_
            refine z_icmp_ltF gi_148_2 (by omega) zr_0 (by omega) ?_
            refine z_iload0 gi_148_5 ?_
            refine z_iload2 gi_148_6 ?_
            refine z_icmp_gtF gi_148_7 (by omega) zr_1 (by omega) ?_
            refine z_pushJ gp_148_10 ?_
            refine z_goto gi_148_11 ?_
            refine z_bret1 gi_148_15 gr_148 ?_
            show zW _ _ _ _ _ _ _ _ _ _
            refine z_if_neT gi_207_27 zr_1 (by decide) ?_
            refine z_aload0 gi_207_32 ?_
            refine z_iload1 gi_207_33 ?_
            refine z_cV1 gi_207_34 gk_50 go_192 (Nat.le_of_ble_eq_true rfl) gc_192_RI ?_
            refine z_aload0 gi_192_0 ?_
            refine z_getR (r := 83) gi_192_1 gk_50 (hRr _ rm_50_58 (by decide)) ?_
            refine z_iload1 gi_192_4 ?_
            refine z_iald (v := J (38 + 2 * s.toNat) 1) gi_192_5 gk_83 (by decide) (by omega) (e83) ?_
            refine z_pushJ gp_192_6 ?_
            refine z_icmp_ne gi_192_7 (by omega) zrn_1 (fun h6 => ?_) (fun h6 => ?_)
            · refine z_aload0 gi_192_15 ?_
              refine z_getR (r := 83) gi_192_16 gk_50 (hRr _ rm_50_58 (by decide)) ?_
              refine z_iload1 gi_192_19 ?_
              refine z_iald (v := J (38 + 2 * s.toNat) 1) gi_192_20 gk_83 (by decide) (by omega) (e83) ?_
              refine z_pushJ gp_192_21 ?_
              refine z_icmp_ne gi_192_23 (by omega) zrn_2 (fun h7 => ?_) (fun h7 => ?_)
              · refine z_pushJ gp_192_30 ?_
                refine z_iret gi_192_32 gr_192 ?_
                show zW _ _ _ _ _ _ _ _ _ _
                refine z_if_geF gi_207_37 zrn_12 (by decide) ?_
                refine z_aload0 gi_207_40 ?_
                refine z_iload1 gi_207_41 ?_
                refine z_cV1 gi_207_42 gk_50 go_192 (Nat.le_of_ble_eq_true rfl) gc_192_RI ?_
                refine z_aload0 gi_192_0 ?_
                refine z_getR (r := 83) gi_192_1 gk_50 (hRr _ rm_50_58 (by decide)) ?_
                refine z_iload1 gi_192_4 ?_
                refine z_iald (v := J (38 + 2 * s.toNat) 1) gi_192_5 gk_83 (by decide) (by omega) (e83) ?_
                refine z_pushJ gp_192_6 ?_
                refine z_icmp_ne gi_192_7 (by omega) zrn_1 (fun h8 => ?_) (fun h8 => ?_)
                · refine z_aload0 gi_192_15 ?_
                  refine z_getR (r := 83) gi_192_16 gk_50 (hRr _ rm_50_58 (by decide)) ?_
                  refine z_iload1 gi_192_19 ?_
                  refine z_iald (v := J (38 + 2 * s.toNat) 1) gi_192_20 gk_83 (by decide) (by omega) (e83) ?_
                  refine z_pushJ gp_192_21 ?_
                  refine z_icmp_ne gi_192_23 (by omega) zrn_2 (fun h9 => ?_) (fun h9 => ?_)
                  · refine z_pushJ gp_192_30 ?_
                    refine z_iret gi_192_32 gr_192 ?_
                    show zW _ _ _ _ _ _ _ _ _ _
                    refine z_iret gi_207_45 gr_207 ?_
                    refine ⟨?_, ?_⟩
                    · first | rfl | exact congrArg (fun v => some (zi v)) (by omega) | (exfalso; omega)
                    · exact hr
                  · refine z_pushJ gp_192_26 ?_
                    refine z_goto gi_192_27 ?_
                    refine z_iret gi_192_32 gr_192 ?_
                    show zW _ _ _ _ _ _ _ _ _ _
                    refine z_iret gi_207_45 gr_207 ?_
                    refine ⟨?_, ?_⟩
                    · first | rfl | exact congrArg (fun v => some (zi v)) (by omega) | (exfalso; omega)
                    · exact hr
                · refine z_pushJ gp_192_10 ?_
                  refine z_goto gi_192_12 ?_
                  refine z_iret gi_192_32 gr_192 ?_
                  show zW _ _ _ _ _ _ _ _ _ _
                  refine z_iret gi_207_45 gr_207 ?_
                  refine ⟨?_, ?_⟩
                  · first | rfl | exact congrArg (fun v => some (zi v)) (by omega) | (exfalso; omega)
                  · exact hr
              · refine z_pushJ gp_192_26 ?_
                refine z_goto gi_192_27 ?_
                refine z_iret gi_192_32 gr_192 ?_
                show zW _ _ _ _ _ _ _ _ _ _
                refine z_if_geT gi_207_37 zr_0 (by decide) ?_
                refine z_aload0 gi_207_46 ?_
                refine z_iload1 gi_207_47 ?_
                refine z_pushJ gp_207_48 ?_
                exfalso
                omega
            · refine z_pushJ gp_192_10 ?_
              refine z_goto gi_192_12 ?_
              refine z_iret gi_192_32 gr_192 ?_
              show zW _ _ _ _ _ _ _ _ _ _
              refine z_if_geF gi_207_37 zrn_11 (by decide) ?_
              refine z_aload0 gi_207_40 ?_
              refine z_iload1 gi_207_41 ?_
              refine z_cV1 gi_207_42 gk_50 go_192 (Nat.le_of_ble_eq_true rfl) gc_192_RI ?_
              refine z_aload0 gi_192_0 ?_
              refine z_getR (r := 83) gi_192_1 gk_50 (hRr _ rm_50_58 (by decide)) ?_
              refine z_iload1 gi_192_4 ?_
              refine z_iald (v := J (38 + 2 * s.toNat) 1) gi_192_5 gk_83 (by decide) (by omega) (e83) ?_
              refine z_pushJ gp_192_6 ?_
              refine z_icmp_neF gi_192_7 (by omega) zrn_1 (by omega) ?_
              refine z_pushJ gp_192_10 ?_
              refine z_goto gi_192_12 ?_
              refine z_iret gi_192_32 gr_192 ?_
              show zW _ _ _ _ _ _ _ _ _ _
              refine z_iret gi_207_45 gr_207 ?_
              refine ⟨?_, ?_⟩
              · first | rfl | exact congrArg (fun v => some (zi v)) (by omega) | (exfalso; omega)
              · exact hr
theorem st_giveUp_2 {X : Nat × (Nat → Int32)} {d : Nat} {J M : zA} {R : zR} {s v q : Int} (hr : Rel X J M R) (hs : -2147483648 ≤ s ∧ s < 2147483648) (hv : -2147483648 ≤ v ∧ v < 2147483648) (hq : -2147483648 ≤ q ∧ q < 2147483648) (hs6 : 0 ≤ s ∧ s < 6) (hh : J (38 + 2 * s.toNat) 0 = 2) (hso : ¬ J (38 + 2 * s.toNat) 2 = 0) : zW X (d + 20) 115 0 (gEn 115 [(.ref 0), (zi s), (zi v), (zi q)]) [] J M R (stP X (d + 20) 207 [(zi s), (zi v), (zi q)]) := by
  have hr0 := hr
  obtain ⟨hR, hG, hY, hD, hP, hC, hAc, hS, hTp, hX, hW⟩ := hr0
  have hRr : zRoR R := zRoR_of hR
  have hY0 := hY
  obtain ⟨y1, y2, y3⟩ := hY0
  have yn := zNn y3
  have hA0 := hAc
  obtain ⟨a1, a2, a3, a4, a5, a6⟩ := hA0
  have e83 : J 83 s = -2 - J (38 + 2 * s.toNat) 2 := (hS s hs6.1 hs6.2).1.symm.trans (cH_2 hh)
  have s3 : 0 ≤ J (38 + 2 * s.toNat) 2 ∧ J (38 + 2 * s.toNat) 2 ≤ 4 := (hS s hs6.1 hs6.2).2.2.1
  have s4 : 0 ≤ J (38 + 2 * s.toNat) 3 ∧ J (38 + 2 * s.toNat) 3 ≤ 60 := (hS s hs6.1 hs6.2).2.2.2.1
  have s6 := (hS s hs6.1 hs6.2).2.2.2.2.2 hh
  have s7 : J 84 s = J (38 + 2 * s.toNat) 3 := s6.1.symm
  have s8 : ∀ i, 0 ≤ i → i < J (38 + 2 * s.toNat) 3 → M (39 + 2 * s.toNat) i = M 85 (60 * s + i) := s6.2.1
  show zW _ _ _ _ [some (.ref 0), some (zi s), some (zi v), some (zi q), none, none, none, none, none, none] _ _ _ _ _
  refine z_iload1 gi_115_0 ?_
  refine z_cS1 gi_115_1 (Nat.le_of_ble_eq_true rfl) gc_143_I ?_
  refine z_iload0 gi_143_0 ?_
  refine z_if_ltF gi_143_1 (by omega) (by omega) ?_
  refine z_iload0 gi_143_4 ?_
  refine z_pushJ gp_143_5 ?_
  refine z_icmp_geF gi_143_7 (by omega) zr_6 (by omega) ?_
  refine z_pushJ gp_143_10 ?_
  refine z_goto gi_143_11 ?_
  refine z_bret1 gi_143_15 gr_143 ?_
  show zW _ _ _ _ _ _ _ _ _ _
  refine z_if_eqF gi_115_4 zr_1 (by decide) ?_
  refine z_iload2 gi_115_7 ?_
  refine z_if_lt gi_115_8 (by omega) (fun h1 => ?_) (fun h1 => ?_)
  · refine z_pushJ gp_115_24 ?_
    refine z_iret gi_115_25 gr_115 ?_
    refine ⟨_, rfl, ?_⟩
    show zW _ _ _ _ [some (.ref 50), some (zi s), some (zi v), some (zi q), none, none, none, none, none] _ _ _ _ _
    refine z_iload1 gi_207_0 ?_
    refine z_cS1 gi_207_1 (Nat.le_of_ble_eq_true rfl) gc_248_I ?_
    refine z_iload0 gi_248_0 ?_
    refine z_pushJ gp_248_1 ?_
    refine z_pushJ gp_248_2 ?_
    refine z_cS3 gi_248_3 (Nat.le_of_ble_eq_true rfl) gc_148_III ?_
    refine z_iload0 gi_148_0 ?_
    refine z_iload1 gi_148_1 ?_
    refine z_icmp_ltF gi_148_2 (by omega) zr_0 (by omega) ?_
    refine z_iload0 gi_148_5 ?_
    refine z_iload2 gi_148_6 ?_
    refine z_icmp_gtF gi_148_7 (by omega) zr_5 (by omega) ?_
    refine z_pushJ gp_148_10 ?_
    refine z_goto gi_148_11 ?_
    refine z_bret1 gi_148_15 gr_148 ?_
    show zW _ _ _ _ _ _ _ _ _ _
    refine z_bret1 gi_248_6 gr_248 ?_
    show zW _ _ _ _ _ _ _ _ _ _
    refine z_if_eqF gi_207_4 zr_1 (by decide) ?_
    refine z_iload2 gi_207_7 ?_
    refine z_if_ltT gi_207_8 (by omega) (by omega) ?_
    refine z_pushJ gp_207_30 ?_
    refine z_iret gi_207_31 gr_207 ?_
    refine ⟨?_, ?_⟩
    · first | rfl | exact congrArg (fun v => some (zi v)) (by omega) | (exfalso; omega)
    · exact hr
  · refine z_iload2 gi_115_11 ?_
    refine z_pushJ gp_115_12 ?_
    refine z_icmp_ge gi_115_14 (by omega) (by decide) (fun h2 => ?_) (fun h2 => ?_)
    · refine z_pushJ gp_115_24 ?_
      refine z_iret gi_115_25 gr_115 ?_
      refine ⟨_, rfl, ?_⟩
      show zW _ _ _ _ [some (.ref 50), some (zi s), some (zi v), some (zi q), none, none, none, none, none] _ _ _ _ _
      refine z_iload1 gi_207_0 ?_
      refine z_cS1 gi_207_1 (Nat.le_of_ble_eq_true rfl) gc_248_I ?_
      refine z_iload0 gi_248_0 ?_
      refine z_pushJ gp_248_1 ?_
      refine z_pushJ gp_248_2 ?_
      refine z_cS3 gi_248_3 (Nat.le_of_ble_eq_true rfl) gc_148_III ?_
      refine z_iload0 gi_148_0 ?_
      refine z_iload1 gi_148_1 ?_
      refine z_icmp_ltF gi_148_2 (by omega) zr_0 (by omega) ?_
      refine z_iload0 gi_148_5 ?_
      refine z_iload2 gi_148_6 ?_
      refine z_icmp_gtF gi_148_7 (by omega) zr_5 (by omega) ?_
      refine z_pushJ gp_148_10 ?_
      refine z_goto gi_148_11 ?_
      refine z_bret1 gi_148_15 gr_148 ?_
      show zW _ _ _ _ _ _ _ _ _ _
      refine z_bret1 gi_248_6 gr_248 ?_
      show zW _ _ _ _ _ _ _ _ _ _
      refine z_if_eqF gi_207_4 zr_1 (by decide) ?_
      refine z_iload2 gi_207_7 ?_
      refine z_if_ltF gi_207_8 (by omega) (by omega) ?_
      refine z_iload2 gi_207_11 ?_
      refine z_pushJ gp_207_12 ?_
      refine z_idiv (e := v / 100) gi_207_14 (by omega) (by omega) rfl ?_
      refine z_pushJ gp_207_15 ?_
      refine z_icmp_gt gi_207_18 (by omega) (by decide) (fun h3 => ?_) (fun h3 => ?_)
      · refine z_pushJ gp_207_30 ?_
        refine z_iret gi_207_31 gr_207 ?_
        refine ⟨?_, ?_⟩
        · first | rfl | exact congrArg (fun v => some (zi v)) (by omega) | (exfalso; omega)
        · exact hr
      · refine z_iload3 gi_207_21 ?_
        refine z_pushJ gp_207_22 ?_
        refine z_pushJ gp_207_23 ?_
        refine z_cS3 gi_207_24 (Nat.le_of_ble_eq_true rfl) gc_148_III ?_
        refine z_iload0 gi_148_0 ?_
        refine z_iload1 gi_148_1 ?_
        refine z_icmp_lt gi_148_2 (by omega) zr_0 (fun h4 => ?_) (fun h4 => ?_)
        · refine z_pushJ gp_148_14 ?_
          refine z_bret0 gi_148_15 gr_148 ?_
          show zW _ _ _ _ _ _ _ _ _ _
          refine z_if_neF gi_207_27 zr_0 (by decide) ?_
          refine z_pushJ gp_207_30 ?_
          refine z_iret gi_207_31 gr_207 ?_
          refine ⟨?_, ?_⟩
          · first | rfl | exact congrArg (fun v => some (zi v)) (by omega) | (exfalso; omega)
          · exact hr
        · refine z_iload0 gi_148_5 ?_
          refine z_iload2 gi_148_6 ?_
          refine z_icmp_gt gi_148_7 (by omega) zr_1 (fun h5 => ?_) (fun h5 => ?_)
          · refine z_pushJ gp_148_14 ?_
            refine z_bret0 gi_148_15 gr_148 ?_
            show zW _ _ _ _ _ _ _ _ _ _
            refine z_if_neF gi_207_27 zr_0 (by decide) ?_
            refine z_pushJ gp_207_30 ?_
            refine z_iret gi_207_31 gr_207 ?_
            refine ⟨?_, ?_⟩
            · first | rfl | exact congrArg (fun v => some (zi v)) (by omega) | (exfalso; omega)
            · exact hr
          · refine z_pushJ gp_148_10 ?_
            refine z_goto gi_148_11 ?_
            refine z_bret1 gi_148_15 gr_148 ?_
            show zW _ _ _ _ _ _ _ _ _ _
            refine z_if_neT gi_207_27 zr_1 (by decide) ?_
            refine z_aload0 gi_207_32 ?_
            refine z_iload1 gi_207_33 ?_
            refine z_cV1 gi_207_34 gk_50 go_192 (Nat.le_of_ble_eq_true rfl) gc_192_RI ?_
            refine z_aload0 gi_192_0 ?_
            refine z_getR (r := 83) gi_192_1 gk_50 (hRr _ rm_50_58 (by decide)) ?_
            refine z_iload1 gi_192_4 ?_
            refine z_iald (v := (-2) - (J (38 + 2 * s.toNat) 2)) gi_192_5 gk_83 (by decide) (by omega) (e83) ?_
            refine z_pushJ gp_192_6 ?_
            refine z_icmp_neT gi_192_7 (by omega) zrn_1 (by omega) ?_
            refine z_aload0 gi_192_15 ?_
            refine z_getR (r := 83) gi_192_16 gk_50 (hRr _ rm_50_58 (by decide)) ?_
            refine z_iload1 gi_192_19 ?_
            refine z_iald (v := (-2) - (J (38 + 2 * s.toNat) 2)) gi_192_20 gk_83 (by decide) (by omega) (e83) ?_
            refine z_pushJ gp_192_21 ?_
            refine z_icmp_neT gi_192_23 (by omega) zrn_2 (by omega) ?_
            refine z_pushJ gp_192_30 ?_
            refine z_iret gi_192_32 gr_192 ?_
            show zW _ _ _ _ _ _ _ _ _ _
            refine z_if_geF gi_207_37 zrn_12 (by decide) ?_
            refine z_aload0 gi_207_40 ?_
            refine z_iload1 gi_207_41 ?_
            refine z_cV1 gi_207_42 gk_50 go_192 (Nat.le_of_ble_eq_true rfl) gc_192_RI ?_
            refine z_aload0 gi_192_0 ?_
            refine z_getR (r := 83) gi_192_1 gk_50 (hRr _ rm_50_58 (by decide)) ?_
            refine z_iload1 gi_192_4 ?_
            refine z_iald (v := (-2) - (J (38 + 2 * s.toNat) 2)) gi_192_5 gk_83 (by decide) (by omega) (e83) ?_
            refine z_pushJ gp_192_6 ?_
            refine z_icmp_neT gi_192_7 (by omega) zrn_1 (by omega) ?_
            refine z_aload0 gi_192_15 ?_
            refine z_getR (r := 83) gi_192_16 gk_50 (hRr _ rm_50_58 (by decide)) ?_
            refine z_iload1 gi_192_19 ?_
            refine z_iald (v := (-2) - (J (38 + 2 * s.toNat) 2)) gi_192_20 gk_83 (by decide) (by omega) (e83) ?_
            refine z_pushJ gp_192_21 ?_
            refine z_icmp_neT gi_192_23 (by omega) zrn_2 (by omega) ?_
            refine z_pushJ gp_192_30 ?_
            refine z_iret gi_192_32 gr_192 ?_
            show zW _ _ _ _ _ _ _ _ _ _
            refine z_iret gi_207_45 gr_207 ?_
            refine ⟨?_, ?_⟩
            · first | rfl | exact congrArg (fun v => some (zi v)) (by omega) | (exfalso; omega)
            · exact hr
    · refine z_iload3 gi_115_17 ?_
      refine z_cS1 gi_115_18 (Nat.le_of_ble_eq_true rfl) gc_146_I ?_
      refine z_iload0 gi_146_0 ?_
      refine z_if_eq gi_146_1 (by omega) (fun h3 => ?_) (fun h3 => ?_)
      · refine z_pushJ gp_146_9 ?_
        refine z_goto gi_146_10 ?_
        refine z_bret1 gi_146_14 gr_146 ?_
        show zW _ _ _ _ _ _ _ _ _ _
        refine z_if_neT gi_115_21 zr_1 (by decide) ?_
        refine z_aload0 gi_115_26 ?_
        refine z_getR (r := 10) gi_115_27 gk_0 (hR _ rm_0_2) ?_
        refine z_aload0 gi_115_30 ?_
        refine z_getR (r := 37) gi_115_31 gk_0 (hR _ rm_0_11) ?_
        refine z_iload1 gi_115_34 ?_
        refine z_aald (r := 38 + 2 * s.toNat) gi_115_35 rfl (by decide) (by omega) (rr_shelf hR (by omega)) ?_
        refine z_callVi (As := [_]) (le := [some _, some _, none, none, none]) gi_115_36 rfl gk_10 (Nat.le_of_ble_eq_true rfl) (Nat.le_of_ble_eq_true rfl) rfl ?_
        refine z_aload1 gi_78_0 ?_
        refine z_callVi (As := []) (le := [some _]) gi_78_1 rfl (zk_shelf (by omega)) (Nat.le_of_ble_eq_true rfl) (Nat.le_of_ble_eq_true rfl) rfl ?_
        refine z_aload0 gi_69_0 ?_
        refine z_getI (v := 2) gi_69_1 (zk_shelf (by omega)) (hh) ?_
        refine z_if_neT gi_69_4 zr_2 (by decide) ?_
        refine z_aload0 gi_69_10 ?_
        refine z_callVi (As := []) (le := [some _]) gi_69_11 rfl (zk_shelf (by omega)) (Nat.le_of_ble_eq_true rfl) (Nat.le_of_ble_eq_true rfl) rfl ?_
        refine z_aload0 gi_64_0 ?_
        refine z_getI (v := 2) gi_64_1 (zk_shelf (by omega)) (hh) ?_
        refine z_pushJ gp_64_4 ?_
        refine z_icmp_neF gi_64_5 zr_2 zr_2 (by decide) ?_
        refine z_aload0 gi_64_8 ?_
        refine z_getI (v := J (38 + 2 * s.toNat) 2) gi_64_9 (zk_shelf (by omega)) (rfl) ?_
        refine z_if_neT gi_64_12 (by omega) (by omega) ?_
        refine z_pushJ gp_64_19 ?_
        refine z_bret0 gi_64_20 gr_64 ?_
        show zW _ _ _ _ _ _ _ _ _ _
        refine z_if_eqT gi_69_14 zr_0 (by decide) ?_
        refine z_pushJ gp_69_21 ?_
        refine z_iret gi_69_23 gr_69 ?_
        show zW _ _ _ _ _ _ _ _ _ _
        refine z_istore (ls1 := [some (.ref 10), some (.ref (38 + 2 * s.toNat)), some (zi (-12)), none, none]) gi_78_4 rfl ?_
        refine z_iload2 gi_78_5 ?_
        refine z_if_geF gi_78_6 zrn_12 (by decide) ?_
        refine z_iload2 gi_78_9 ?_
        refine z_iret gi_78_10 gr_78 ?_
        show zW _ _ _ _ _ _ _ _ _ _
        refine z_istore (ls1 := [some (.ref 0), some (zi s), some (zi v), some (zi q), some (zi (-12)), none, none, none, none, none]) gi_115_39 rfl ?_
        refine z_iload4 gi_115_41 ?_
        refine z_if_geF gi_115_43 zrn_12 (by decide) ?_
        refine z_iload4 gi_115_46 ?_
        refine z_iret gi_115_48 gr_115 ?_
        refine ⟨_, rfl, ?_⟩
        show zW _ _ _ _ [some (.ref 50), some (zi s), some (zi v), some (zi q), none, none, none, none, none] _ _ _ _ _
        refine z_iload1 gi_207_0 ?_
        refine z_cS1 gi_207_1 (Nat.le_of_ble_eq_true rfl) gc_248_I ?_
        refine z_iload0 gi_248_0 ?_
        refine z_pushJ gp_248_1 ?_
        refine z_pushJ gp_248_2 ?_
        refine z_cS3 gi_248_3 (Nat.le_of_ble_eq_true rfl) gc_148_III ?_
        refine z_iload0 gi_148_0 ?_
        refine z_iload1 gi_148_1 ?_
        refine z_icmp_ltF gi_148_2 (by omega) zr_0 (by omega) ?_
        refine z_iload0 gi_148_5 ?_
        refine z_iload2 gi_148_6 ?_
        refine z_icmp_gtF gi_148_7 (by omega) zr_5 (by omega) ?_
        refine z_pushJ gp_148_10 ?_
        refine z_goto gi_148_11 ?_
        refine z_bret1 gi_148_15 gr_148 ?_
        show zW _ _ _ _ _ _ _ _ _ _
        refine z_bret1 gi_248_6 gr_248 ?_
        show zW _ _ _ _ _ _ _ _ _ _
        refine z_if_eqF gi_207_4 zr_1 (by decide) ?_
        refine z_iload2 gi_207_7 ?_
        refine z_if_ltF gi_207_8 (by omega) (by omega) ?_
        refine z_iload2 gi_207_11 ?_
        refine z_pushJ gp_207_12 ?_
        refine z_idiv (e := v / 100) gi_207_14 (by omega) (by omega) rfl ?_
        refine z_pushJ gp_207_15 ?_
        refine z_icmp_gt gi_207_18 (by omega) (by decide) (fun h4 => ?_) (fun h4 => ?_)
        · refine z_pushJ gp_207_30 ?_
          refine z_iret gi_207_31 gr_207 ?_
          refine ⟨?_, ?_⟩
          · first | rfl | exact congrArg (fun v => some (zi v)) (by omega) | (exfalso; omega)
          · exact hr
        · refine z_iload3 gi_207_21 ?_
          refine z_pushJ gp_207_22 ?_
          refine z_pushJ gp_207_23 ?_
          refine z_cS3 gi_207_24 (Nat.le_of_ble_eq_true rfl) gc_148_III ?_
          refine z_iload0 gi_148_0 ?_
          refine z_iload1 gi_148_1 ?_
          refine z_icmp_ltF gi_148_2 (by omega) zr_0 (by omega) ?_
          refine z_iload0 gi_148_5 ?_
          refine z_iload2 gi_148_6 ?_
          refine z_icmp_gtF gi_148_7 (by omega) zr_1 (by omega) ?_
          refine z_pushJ gp_148_10 ?_
          refine z_goto gi_148_11 ?_
          refine z_bret1 gi_148_15 gr_148 ?_
          show zW _ _ _ _ _ _ _ _ _ _
          refine z_if_neT gi_207_27 zr_1 (by decide) ?_
          refine z_aload0 gi_207_32 ?_
          refine z_iload1 gi_207_33 ?_
          refine z_cV1 gi_207_34 gk_50 go_192 (Nat.le_of_ble_eq_true rfl) gc_192_RI ?_
          refine z_aload0 gi_192_0 ?_
          refine z_getR (r := 83) gi_192_1 gk_50 (hRr _ rm_50_58 (by decide)) ?_
          refine z_iload1 gi_192_4 ?_
          refine z_iald (v := (-2) - (J (38 + 2 * s.toNat) 2)) gi_192_5 gk_83 (by decide) (by omega) (e83) ?_
          refine z_pushJ gp_192_6 ?_
          refine z_icmp_neT gi_192_7 (by omega) zrn_1 (by omega) ?_
          refine z_aload0 gi_192_15 ?_
          refine z_getR (r := 83) gi_192_16 gk_50 (hRr _ rm_50_58 (by decide)) ?_
          refine z_iload1 gi_192_19 ?_
          refine z_iald (v := (-2) - (J (38 + 2 * s.toNat) 2)) gi_192_20 gk_83 (by decide) (by omega) (e83) ?_
          refine z_pushJ gp_192_21 ?_
          refine z_icmp_neT gi_192_23 (by omega) zrn_2 (by omega) ?_
          refine z_pushJ gp_192_30 ?_
          refine z_iret gi_192_32 gr_192 ?_
          show zW _ _ _ _ _ _ _ _ _ _
          refine z_if_geF gi_207_37 zrn_12 (by decide) ?_
          refine z_aload0 gi_207_40 ?_
          refine z_iload1 gi_207_41 ?_
          refine z_cV1 gi_207_42 gk_50 go_192 (Nat.le_of_ble_eq_true rfl) gc_192_RI ?_
          refine z_aload0 gi_192_0 ?_
          refine z_getR (r := 83) gi_192_1 gk_50 (hRr _ rm_50_58 (by decide)) ?_
          refine z_iload1 gi_192_4 ?_
          refine z_iald (v := (-2) - (J (38 + 2 * s.toNat) 2)) gi_192_5 gk_83 (by decide) (by omega) (e83) ?_
          refine z_pushJ gp_192_6 ?_
          refine z_icmp_neT gi_192_7 (by omega) zrn_1 (by omega) ?_
          refine z_aload0 gi_192_15 ?_
          refine z_getR (r := 83) gi_192_16 gk_50 (hRr _ rm_50_58 (by decide)) ?_
          refine z_iload1 gi_192_19 ?_
          refine z_iald (v := (-2) - (J (38 + 2 * s.toNat) 2)) gi_192_20 gk_83 (by decide) (by omega) (e83) ?_
          refine z_pushJ gp_192_21 ?_
          refine z_icmp_neT gi_192_23 (by omega) zrn_2 (by omega) ?_
          refine z_pushJ gp_192_30 ?_
          refine z_iret gi_192_32 gr_192 ?_
          show zW _ _ _ _ _ _ _ _ _ _
          refine z_iret gi_207_45 gr_207 ?_
          refine ⟨?_, ?_⟩
          · first | rfl | exact congrArg (fun v => some (zi v)) (by omega) | (exfalso; omega)
          · exact hr
      · refine z_iload0 gi_146_4 ?_
        refine z_pushJ gp_146_5 ?_
        refine z_icmp_ne gi_146_6 (by omega) zr_1 (fun h4 => ?_) (fun h4 => ?_)
        · refine z_pushJ gp_146_13 ?_
          refine z_bret0 gi_146_14 gr_146 ?_
          show zW _ _ _ _ _ _ _ _ _ _
          refine z_if_neF gi_115_21 zr_0 (by decide) ?_
          refine z_pushJ gp_115_24 ?_
          refine z_iret gi_115_25 gr_115 ?_
          refine ⟨_, rfl, ?_⟩
          show zW _ _ _ _ [some (.ref 50), some (zi s), some (zi v), some (zi q), none, none, none, none, none] _ _ _ _ _
          refine z_iload1 gi_207_0 ?_
          refine z_cS1 gi_207_1 (Nat.le_of_ble_eq_true rfl) gc_248_I ?_
          refine z_iload0 gi_248_0 ?_
          refine z_pushJ gp_248_1 ?_
          refine z_pushJ gp_248_2 ?_
          refine z_cS3 gi_248_3 (Nat.le_of_ble_eq_true rfl) gc_148_III ?_
          refine z_iload0 gi_148_0 ?_
          refine z_iload1 gi_148_1 ?_
          refine z_icmp_ltF gi_148_2 (by omega) zr_0 (by omega) ?_
          refine z_iload0 gi_148_5 ?_
          refine z_iload2 gi_148_6 ?_
          refine z_icmp_gtF gi_148_7 (by omega) zr_5 (by omega) ?_
          refine z_pushJ gp_148_10 ?_
          refine z_goto gi_148_11 ?_
          refine z_bret1 gi_148_15 gr_148 ?_
          show zW _ _ _ _ _ _ _ _ _ _
          refine z_bret1 gi_248_6 gr_248 ?_
          show zW _ _ _ _ _ _ _ _ _ _
          refine z_if_eqF gi_207_4 zr_1 (by decide) ?_
          refine z_iload2 gi_207_7 ?_
          refine z_if_ltF gi_207_8 (by omega) (by omega) ?_
          refine z_iload2 gi_207_11 ?_
          refine z_pushJ gp_207_12 ?_
          refine z_idiv (e := v / 100) gi_207_14 (by omega) (by omega) rfl ?_
          refine z_pushJ gp_207_15 ?_
          refine z_icmp_gt gi_207_18 (by omega) (by decide) (fun h5 => ?_) (fun h5 => ?_)
          · refine z_pushJ gp_207_30 ?_
            refine z_iret gi_207_31 gr_207 ?_
            refine ⟨?_, ?_⟩
            · first | rfl | exact congrArg (fun v => some (zi v)) (by omega) | (exfalso; omega)
            · exact hr
          · refine z_iload3 gi_207_21 ?_
            refine z_pushJ gp_207_22 ?_
            refine z_pushJ gp_207_23 ?_
            refine z_cS3 gi_207_24 (Nat.le_of_ble_eq_true rfl) gc_148_III ?_
            refine z_iload0 gi_148_0 ?_
            refine z_iload1 gi_148_1 ?_
            refine z_icmp_lt gi_148_2 (by omega) zr_0 (fun h6 => ?_) (fun h6 => ?_)
            · refine z_pushJ gp_148_14 ?_
              refine z_bret0 gi_148_15 gr_148 ?_
              show zW _ _ _ _ _ _ _ _ _ _
              refine z_if_neF gi_207_27 zr_0 (by decide) ?_
              refine z_pushJ gp_207_30 ?_
              refine z_iret gi_207_31 gr_207 ?_
              refine ⟨?_, ?_⟩
              · first | rfl | exact congrArg (fun v => some (zi v)) (by omega) | (exfalso; omega)
              · exact hr
            · refine z_iload0 gi_148_5 ?_
              refine z_iload2 gi_148_6 ?_
              refine z_icmp_gt gi_148_7 (by omega) zr_1 (fun h7 => ?_) (fun h7 => ?_)
              · refine z_pushJ gp_148_14 ?_
                refine z_bret0 gi_148_15 gr_148 ?_
                show zW _ _ _ _ _ _ _ _ _ _
                refine z_if_neF gi_207_27 zr_0 (by decide) ?_
                refine z_pushJ gp_207_30 ?_
                refine z_iret gi_207_31 gr_207 ?_
                refine ⟨?_, ?_⟩
                · first | rfl | exact congrArg (fun v => some (zi v)) (by omega) | (exfalso; omega)
                · exact hr
              · refine z_pushJ gp_148_10 ?_
                refine z_goto gi_148_11 ?_
                refine z_bret1 gi_148_15 gr_148 ?_
                show zW _ _ _ _ _ _ _ _ _ _
                refine z_if_neT gi_207_27 zr_1 (by decide) ?_
                refine z_aload0 gi_207_32 ?_
                refine z_iload1 gi_207_33 ?_
                refine z_cV1 gi_207_34 gk_50 go_192 (Nat.le_of_ble_eq_true rfl) gc_192_RI ?_
                refine z_aload0 gi_192_0 ?_
                refine z_getR (r := 83) gi_192_1 gk_50 (hRr _ rm_50_58 (by decide)) ?_
                refine z_iload1 gi_192_4 ?_
                refine z_iald (v := (-2) - (J (38 + 2 * s.toNat) 2)) gi_192_5 gk_83 (by decide) (by omega) (e83) ?_
                refine z_pushJ gp_192_6 ?_
                refine z_icmp_neT gi_192_7 (by omega) zrn_1 (by omega) ?_
                refine z_aload0 gi_192_15 ?_
                refine z_getR (r := 83) gi_192_16 gk_50 (hRr _ rm_50_58 (by decide)) ?_
                refine z_iload1 gi_192_19 ?_
                refine z_iald (v := (-2) - (J (38 + 2 * s.toNat) 2)) gi_192_20 gk_83 (by decide) (by omega) (e83) ?_
                refine z_pushJ gp_192_21 ?_
                refine z_icmp_neT gi_192_23 (by omega) zrn_2 (by omega) ?_
                refine z_pushJ gp_192_30 ?_
                refine z_iret gi_192_32 gr_192 ?_
                show zW _ _ _ _ _ _ _ _ _ _
                refine z_if_geF gi_207_37 zrn_12 (by decide) ?_
                refine z_aload0 gi_207_40 ?_
                refine z_iload1 gi_207_41 ?_
                refine z_cV1 gi_207_42 gk_50 go_192 (Nat.le_of_ble_eq_true rfl) gc_192_RI ?_
                refine z_aload0 gi_192_0 ?_
                refine z_getR (r := 83) gi_192_1 gk_50 (hRr _ rm_50_58 (by decide)) ?_
                refine z_iload1 gi_192_4 ?_
                refine z_iald (v := (-2) - (J (38 + 2 * s.toNat) 2)) gi_192_5 gk_83 (by decide) (by omega) (e83) ?_
                refine z_pushJ gp_192_6 ?_
                refine z_icmp_neT gi_192_7 (by omega) zrn_1 (by omega) ?_
                refine z_aload0 gi_192_15 ?_
                refine z_getR (r := 83) gi_192_16 gk_50 (hRr _ rm_50_58 (by decide)) ?_
                refine z_iload1 gi_192_19 ?_
                refine z_iald (v := (-2) - (J (38 + 2 * s.toNat) 2)) gi_192_20 gk_83 (by decide) (by omega) (e83) ?_
                refine z_pushJ gp_192_21 ?_
                refine z_icmp_neT gi_192_23 (by omega) zrn_2 (by omega) ?_
                refine z_pushJ gp_192_30 ?_
                refine z_iret gi_192_32 gr_192 ?_
                show zW _ _ _ _ _ _ _ _ _ _
                refine z_iret gi_207_45 gr_207 ?_
                refine ⟨?_, ?_⟩
                · first | rfl | exact congrArg (fun v => some (zi v)) (by omega) | (exfalso; omega)
                · exact hr
        · refine z_pushJ gp_146_9 ?_
          refine z_goto gi_146_10 ?_
          refine z_bret1 gi_146_14 gr_146 ?_
          show zW _ _ _ _ _ _ _ _ _ _
          refine z_if_neT gi_115_21 zr_1 (by decide) ?_
          refine z_aload0 gi_115_26 ?_
          refine z_getR (r := 10) gi_115_27 gk_0 (hR _ rm_0_2) ?_
          refine z_aload0 gi_115_30 ?_
          refine z_getR (r := 37) gi_115_31 gk_0 (hR _ rm_0_11) ?_
          refine z_iload1 gi_115_34 ?_
          refine z_aald (r := 38 + 2 * s.toNat) gi_115_35 rfl (by decide) (by omega) (rr_shelf hR (by omega)) ?_
          refine z_callVi (As := [_]) (le := [some _, some _, none, none, none]) gi_115_36 rfl gk_10 (Nat.le_of_ble_eq_true rfl) (Nat.le_of_ble_eq_true rfl) rfl ?_
          refine z_aload1 gi_78_0 ?_
          refine z_callVi (As := []) (le := [some _]) gi_78_1 rfl (zk_shelf (by omega)) (Nat.le_of_ble_eq_true rfl) (Nat.le_of_ble_eq_true rfl) rfl ?_
          refine z_aload0 gi_69_0 ?_
          refine z_getI (v := 2) gi_69_1 (zk_shelf (by omega)) (hh) ?_
          refine z_if_neT gi_69_4 zr_2 (by decide) ?_
          refine z_aload0 gi_69_10 ?_
          refine z_callVi (As := []) (le := [some _]) gi_69_11 rfl (zk_shelf (by omega)) (Nat.le_of_ble_eq_true rfl) (Nat.le_of_ble_eq_true rfl) rfl ?_
          refine z_aload0 gi_64_0 ?_
          refine z_getI (v := 2) gi_64_1 (zk_shelf (by omega)) (hh) ?_
          refine z_pushJ gp_64_4 ?_
          refine z_icmp_neF gi_64_5 zr_2 zr_2 (by decide) ?_
          refine z_aload0 gi_64_8 ?_
          refine z_getI (v := J (38 + 2 * s.toNat) 2) gi_64_9 (zk_shelf (by omega)) (rfl) ?_
          refine z_if_neT gi_64_12 (by omega) (by omega) ?_
          refine z_pushJ gp_64_19 ?_
          refine z_bret0 gi_64_20 gr_64 ?_
          show zW _ _ _ _ _ _ _ _ _ _
          refine z_if_eqT gi_69_14 zr_0 (by decide) ?_
          refine z_pushJ gp_69_21 ?_
          refine z_iret gi_69_23 gr_69 ?_
          show zW _ _ _ _ _ _ _ _ _ _
          refine z_istore (ls1 := [some (.ref 10), some (.ref (38 + 2 * s.toNat)), some (zi (-12)), none, none]) gi_78_4 rfl ?_
          refine z_iload2 gi_78_5 ?_
          refine z_if_geF gi_78_6 zrn_12 (by decide) ?_
          refine z_iload2 gi_78_9 ?_
          refine z_iret gi_78_10 gr_78 ?_
          show zW _ _ _ _ _ _ _ _ _ _
          refine z_istore (ls1 := [some (.ref 0), some (zi s), some (zi v), some (zi q), some (zi (-12)), none, none, none, none, none]) gi_115_39 rfl ?_
          refine z_iload4 gi_115_41 ?_
          refine z_if_geF gi_115_43 zrn_12 (by decide) ?_
          refine z_iload4 gi_115_46 ?_
          refine z_iret gi_115_48 gr_115 ?_
          refine ⟨_, rfl, ?_⟩
          show zW _ _ _ _ [some (.ref 50), some (zi s), some (zi v), some (zi q), none, none, none, none, none] _ _ _ _ _
          refine z_iload1 gi_207_0 ?_
          refine z_cS1 gi_207_1 (Nat.le_of_ble_eq_true rfl) gc_248_I ?_
          refine z_iload0 gi_248_0 ?_
          refine z_pushJ gp_248_1 ?_
          refine z_pushJ gp_248_2 ?_
          refine z_cS3 gi_248_3 (Nat.le_of_ble_eq_true rfl) gc_148_III ?_
          refine z_iload0 gi_148_0 ?_
          refine z_iload1 gi_148_1 ?_
          refine z_icmp_ltF gi_148_2 (by omega) zr_0 (by omega) ?_
          refine z_iload0 gi_148_5 ?_
          refine z_iload2 gi_148_6 ?_
          refine z_icmp_gtF gi_148_7 (by omega) zr_5 (by omega) ?_
          refine z_pushJ gp_148_10 ?_
          refine z_goto gi_148_11 ?_
          refine z_bret1 gi_148_15 gr_148 ?_
          show zW _ _ _ _ _ _ _ _ _ _
          refine z_bret1 gi_248_6 gr_248 ?_
          show zW _ _ _ _ _ _ _ _ _ _
          refine z_if_eqF gi_207_4 zr_1 (by decide) ?_
          refine z_iload2 gi_207_7 ?_
          refine z_if_ltF gi_207_8 (by omega) (by omega) ?_
          refine z_iload2 gi_207_11 ?_
          refine z_pushJ gp_207_12 ?_
          refine z_idiv (e := v / 100) gi_207_14 (by omega) (by omega) rfl ?_
          refine z_pushJ gp_207_15 ?_
          refine z_icmp_gt gi_207_18 (by omega) (by decide) (fun h5 => ?_) (fun h5 => ?_)
          · refine z_pushJ gp_207_30 ?_
            refine z_iret gi_207_31 gr_207 ?_
            refine ⟨?_, ?_⟩
            · first | rfl | exact congrArg (fun v => some (zi v)) (by omega) | (exfalso; omega)
            · exact hr
          · refine z_iload3 gi_207_21 ?_
            refine z_pushJ gp_207_22 ?_
            refine z_pushJ gp_207_23 ?_
            refine z_cS3 gi_207_24 (Nat.le_of_ble_eq_true rfl) gc_148_III ?_
            refine z_iload0 gi_148_0 ?_
            refine z_iload1 gi_148_1 ?_
            refine z_icmp_ltF gi_148_2 (by omega) zr_0 (by omega) ?_
            refine z_iload0 gi_148_5 ?_
            refine z_iload2 gi_148_6 ?_
            refine z_icmp_gtF gi_148_7 (by omega) zr_1 (by omega) ?_
            refine z_pushJ gp_148_10 ?_
            refine z_goto gi_148_11 ?_
            refine z_bret1 gi_148_15 gr_148 ?_
            show zW _ _ _ _ _ _ _ _ _ _
            refine z_if_neT gi_207_27 zr_1 (by decide) ?_
            refine z_aload0 gi_207_32 ?_
            refine z_iload1 gi_207_33 ?_
            refine z_cV1 gi_207_34 gk_50 go_192 (Nat.le_of_ble_eq_true rfl) gc_192_RI ?_
            refine z_aload0 gi_192_0 ?_
            refine z_getR (r := 83) gi_192_1 gk_50 (hRr _ rm_50_58 (by decide)) ?_
            refine z_iload1 gi_192_4 ?_
            refine z_iald (v := (-2) - (J (38 + 2 * s.toNat) 2)) gi_192_5 gk_83 (by decide) (by omega) (e83) ?_
            refine z_pushJ gp_192_6 ?_
            refine z_icmp_neT gi_192_7 (by omega) zrn_1 (by omega) ?_
            refine z_aload0 gi_192_15 ?_
            refine z_getR (r := 83) gi_192_16 gk_50 (hRr _ rm_50_58 (by decide)) ?_
            refine z_iload1 gi_192_19 ?_
            refine z_iald (v := (-2) - (J (38 + 2 * s.toNat) 2)) gi_192_20 gk_83 (by decide) (by omega) (e83) ?_
            refine z_pushJ gp_192_21 ?_
            refine z_icmp_neT gi_192_23 (by omega) zrn_2 (by omega) ?_
            refine z_pushJ gp_192_30 ?_
            refine z_iret gi_192_32 gr_192 ?_
            show zW _ _ _ _ _ _ _ _ _ _
            refine z_if_geF gi_207_37 zrn_12 (by decide) ?_
            refine z_aload0 gi_207_40 ?_
            refine z_iload1 gi_207_41 ?_
            refine z_cV1 gi_207_42 gk_50 go_192 (Nat.le_of_ble_eq_true rfl) gc_192_RI ?_
            refine z_aload0 gi_192_0 ?_
            refine z_getR (r := 83) gi_192_1 gk_50 (hRr _ rm_50_58 (by decide)) ?_
            refine z_iload1 gi_192_4 ?_
            refine z_iald (v := (-2) - (J (38 + 2 * s.toNat) 2)) gi_192_5 gk_83 (by decide) (by omega) (e83) ?_
            refine z_pushJ gp_192_6 ?_
            refine z_icmp_neT gi_192_7 (by omega) zrn_1 (by omega) ?_
            refine z_aload0 gi_192_15 ?_
            refine z_getR (r := 83) gi_192_16 gk_50 (hRr _ rm_50_58 (by decide)) ?_
            refine z_iload1 gi_192_19 ?_
            refine z_iald (v := (-2) - (J (38 + 2 * s.toNat) 2)) gi_192_20 gk_83 (by decide) (by omega) (e83) ?_
            refine z_pushJ gp_192_21 ?_
            refine z_icmp_neT gi_192_23 (by omega) zrn_2 (by omega) ?_
            refine z_pushJ gp_192_30 ?_
            refine z_iret gi_192_32 gr_192 ?_
            show zW _ _ _ _ _ _ _ _ _ _
            refine z_iret gi_207_45 gr_207 ?_
            refine ⟨?_, ?_⟩
            · first | rfl | exact congrArg (fun v => some (zi v)) (by omega) | (exfalso; omega)
            · exact hr
theorem st_giveUp_m {X : Nat × (Nat → Int32)} {d : Nat} {J M : zA} {R : zR} {s v q : Int} (hr : Rel X J M R) (hs : -2147483648 ≤ s ∧ s < 2147483648) (hv : -2147483648 ≤ v ∧ v < 2147483648) (hq : -2147483648 ≤ q ∧ q < 2147483648) (hs6 : 0 ≤ s ∧ s < 6) (hh : J (38 + 2 * s.toNat) 0 = 2) (hso : J (38 + 2 * s.toNat) 2 = 0) : zW X (d + 20) 115 0 (gEn 115 [(.ref 0), (zi s), (zi v), (zi q)]) [] J M R (stP X (d + 20) 207 [(zi s), (zi v), (zi q)]) := by
  have hr0 := hr
  obtain ⟨hR, hG, hY, hD, hP, hC, hAc, hS, hTp, hX, hW⟩ := hr0
  have hRr : zRoR R := zRoR_of hR
  have hY0 := hY
  obtain ⟨y1, y2, y3⟩ := hY0
  have yn := zNn y3
  have e83 : J 83 s = -2 - J (38 + 2 * s.toNat) 2 := (hS s hs6.1 hs6.2).1.symm.trans (cH_2 hh)
  have s3 : 0 ≤ J (38 + 2 * s.toNat) 2 ∧ J (38 + 2 * s.toNat) 2 ≤ 4 := (hS s hs6.1 hs6.2).2.2.1
  have s4 : 0 ≤ J (38 + 2 * s.toNat) 3 ∧ J (38 + 2 * s.toNat) 3 ≤ 60 := (hS s hs6.1 hs6.2).2.2.2.1
  have s6 := (hS s hs6.1 hs6.2).2.2.2.2.2 hh
  have s7 : J 84 s = J (38 + 2 * s.toNat) 3 := s6.1.symm
  have s8 : ∀ i, 0 ≤ i → i < J (38 + 2 * s.toNat) 3 → M (39 + 2 * s.toNat) i = M 85 (60 * s + i) := s6.2.1
  have e83n : J 83 s = -2 := e83.trans (by omega)
  have hbr := s6.2.2 hso
  have hX0 := hX
  obtain ⟨T, t1, t2, t3⟩ := hX0
  show zW _ _ _ _ [some (.ref 0), some (zi s), some (zi v), some (zi q), none, none, none, none, none, none] _ _ _ _ _
  refine z_iload1 gi_115_0 ?_
  refine z_cS1 gi_115_1 (Nat.le_of_ble_eq_true rfl) gc_143_I ?_
  refine z_iload0 gi_143_0 ?_
  refine z_if_ltF gi_143_1 (by omega) (by omega) ?_
  refine z_iload0 gi_143_4 ?_
  refine z_pushJ gp_143_5 ?_
  refine z_icmp_geF gi_143_7 (by omega) zr_6 (by omega) ?_
  refine z_pushJ gp_143_10 ?_
  refine z_goto gi_143_11 ?_
  refine z_bret1 gi_143_15 gr_143 ?_
  show zW _ _ _ _ _ _ _ _ _ _
  refine z_if_eqF gi_115_4 zr_1 (by decide) ?_
  refine z_iload2 gi_115_7 ?_
  refine z_if_lt gi_115_8 (by omega) (fun h1 => ?_) (fun h1 => ?_)
  · refine z_pushJ gp_115_24 ?_
    refine z_iret gi_115_25 gr_115 ?_
    refine ⟨_, rfl, ?_⟩
    show zW _ _ _ _ [some (.ref 50), some (zi s), some (zi v), some (zi q), none, none, none, none, none] _ _ _ _ _
    refine z_iload1 gi_207_0 ?_
    refine z_cS1 gi_207_1 (Nat.le_of_ble_eq_true rfl) gc_248_I ?_
    refine z_iload0 gi_248_0 ?_
    refine z_pushJ gp_248_1 ?_
    refine z_pushJ gp_248_2 ?_
    refine z_cS3 gi_248_3 (Nat.le_of_ble_eq_true rfl) gc_148_III ?_
    refine z_iload0 gi_148_0 ?_
    refine z_iload1 gi_148_1 ?_
    refine z_icmp_ltF gi_148_2 (by omega) zr_0 (by omega) ?_
    refine z_iload0 gi_148_5 ?_
    refine z_iload2 gi_148_6 ?_
    refine z_icmp_gtF gi_148_7 (by omega) zr_5 (by omega) ?_
    refine z_pushJ gp_148_10 ?_
    refine z_goto gi_148_11 ?_
    refine z_bret1 gi_148_15 gr_148 ?_
    show zW _ _ _ _ _ _ _ _ _ _
    refine z_bret1 gi_248_6 gr_248 ?_
    show zW _ _ _ _ _ _ _ _ _ _
    refine z_if_eqF gi_207_4 zr_1 (by decide) ?_
    refine z_iload2 gi_207_7 ?_
    refine z_if_ltT gi_207_8 (by omega) (by omega) ?_
    refine z_pushJ gp_207_30 ?_
    refine z_iret gi_207_31 gr_207 ?_
    refine ⟨?_, ?_⟩
    · first | rfl | exact congrArg (fun v => some (zi v)) (by omega) | (exfalso; omega)
    · exact hr
  · refine z_iload2 gi_115_11 ?_
    refine z_pushJ gp_115_12 ?_
    refine z_icmp_ge gi_115_14 (by omega) (by decide) (fun h2 => ?_) (fun h2 => ?_)
    · refine z_pushJ gp_115_24 ?_
      refine z_iret gi_115_25 gr_115 ?_
      refine ⟨_, rfl, ?_⟩
      show zW _ _ _ _ [some (.ref 50), some (zi s), some (zi v), some (zi q), none, none, none, none, none] _ _ _ _ _
      refine z_iload1 gi_207_0 ?_
      refine z_cS1 gi_207_1 (Nat.le_of_ble_eq_true rfl) gc_248_I ?_
      refine z_iload0 gi_248_0 ?_
      refine z_pushJ gp_248_1 ?_
      refine z_pushJ gp_248_2 ?_
      refine z_cS3 gi_248_3 (Nat.le_of_ble_eq_true rfl) gc_148_III ?_
      refine z_iload0 gi_148_0 ?_
      refine z_iload1 gi_148_1 ?_
      refine z_icmp_ltF gi_148_2 (by omega) zr_0 (by omega) ?_
      refine z_iload0 gi_148_5 ?_
      refine z_iload2 gi_148_6 ?_
      refine z_icmp_gtF gi_148_7 (by omega) zr_5 (by omega) ?_
      refine z_pushJ gp_148_10 ?_
      refine z_goto gi_148_11 ?_
      refine z_bret1 gi_148_15 gr_148 ?_
      show zW _ _ _ _ _ _ _ _ _ _
      refine z_bret1 gi_248_6 gr_248 ?_
      show zW _ _ _ _ _ _ _ _ _ _
      refine z_if_eqF gi_207_4 zr_1 (by decide) ?_
      refine z_iload2 gi_207_7 ?_
      refine z_if_ltF gi_207_8 (by omega) (by omega) ?_
      refine z_iload2 gi_207_11 ?_
      refine z_pushJ gp_207_12 ?_
      refine z_idiv (e := v / 100) gi_207_14 (by omega) (by omega) rfl ?_
      refine z_pushJ gp_207_15 ?_
      refine z_icmp_gt gi_207_18 (by omega) (by decide) (fun h3 => ?_) (fun h3 => ?_)
      · refine z_pushJ gp_207_30 ?_
        refine z_iret gi_207_31 gr_207 ?_
        refine ⟨?_, ?_⟩
        · first | rfl | exact congrArg (fun v => some (zi v)) (by omega) | (exfalso; omega)
        · exact hr
      · refine z_iload3 gi_207_21 ?_
        refine z_pushJ gp_207_22 ?_
        refine z_pushJ gp_207_23 ?_
        refine z_cS3 gi_207_24 (Nat.le_of_ble_eq_true rfl) gc_148_III ?_
        refine z_iload0 gi_148_0 ?_
        refine z_iload1 gi_148_1 ?_
        refine z_icmp_lt gi_148_2 (by omega) zr_0 (fun h4 => ?_) (fun h4 => ?_)
        · refine z_pushJ gp_148_14 ?_
          refine z_bret0 gi_148_15 gr_148 ?_
          show zW _ _ _ _ _ _ _ _ _ _
          refine z_if_neF gi_207_27 zr_0 (by decide) ?_
          refine z_pushJ gp_207_30 ?_
          refine z_iret gi_207_31 gr_207 ?_
          refine ⟨?_, ?_⟩
          · first | rfl | exact congrArg (fun v => some (zi v)) (by omega) | (exfalso; omega)
          · exact hr
        · refine z_iload0 gi_148_5 ?_
          refine z_iload2 gi_148_6 ?_
          refine z_icmp_gt gi_148_7 (by omega) zr_1 (fun h5 => ?_) (fun h5 => ?_)
          · refine z_pushJ gp_148_14 ?_
            refine z_bret0 gi_148_15 gr_148 ?_
            show zW _ _ _ _ _ _ _ _ _ _
            refine z_if_neF gi_207_27 zr_0 (by decide) ?_
            refine z_pushJ gp_207_30 ?_
            refine z_iret gi_207_31 gr_207 ?_
            refine ⟨?_, ?_⟩
            · first | rfl | exact congrArg (fun v => some (zi v)) (by omega) | (exfalso; omega)
            · exact hr
          · refine z_pushJ gp_148_10 ?_
            refine z_goto gi_148_11 ?_
            refine z_bret1 gi_148_15 gr_148 ?_
            show zW _ _ _ _ _ _ _ _ _ _
            refine z_if_neT gi_207_27 zr_1 (by decide) ?_
            refine z_aload0 gi_207_32 ?_
            refine z_iload1 gi_207_33 ?_
            refine z_cV1 gi_207_34 gk_50 go_192 (Nat.le_of_ble_eq_true rfl) gc_192_RI ?_
            refine z_aload0 gi_192_0 ?_
            refine z_getR (r := 83) gi_192_1 gk_50 (hRr _ rm_50_58 (by decide)) ?_
            refine z_iload1 gi_192_4 ?_
            refine z_iald (v := (-2)) gi_192_5 gk_83 (by decide) (by omega) (e83n) ?_
            refine z_pushJ gp_192_6 ?_
            refine z_icmp_neT gi_192_7 zrn_2 zrn_1 (by decide) ?_
            refine z_aload0 gi_192_15 ?_
            refine z_getR (r := 83) gi_192_16 gk_50 (hRr _ rm_50_58 (by decide)) ?_
            refine z_iload1 gi_192_19 ?_
            refine z_iald (v := (-2)) gi_192_20 gk_83 (by decide) (by omega) (e83n) ?_
            refine z_pushJ gp_192_21 ?_
            refine z_icmp_neF gi_192_23 zrn_2 zrn_2 (by decide) ?_
            refine z_pushJ gp_192_26 ?_
            refine z_goto gi_192_27 ?_
            refine z_iret gi_192_32 gr_192 ?_
            show zW _ _ _ _ _ _ _ _ _ _
            refine z_if_geT gi_207_37 zr_0 (by decide) ?_
            refine z_aload0 gi_207_46 ?_
            refine z_iload1 gi_207_47 ?_
            refine z_pushJ gp_207_48 ?_
            exfalso
            omega
    · refine z_iload3 gi_115_17 ?_
      refine z_cS1 gi_115_18 (Nat.le_of_ble_eq_true rfl) gc_146_I ?_
      refine z_iload0 gi_146_0 ?_
      refine z_if_eq gi_146_1 (by omega) (fun h3 => ?_) (fun h3 => ?_)
      · refine z_pushJ gp_146_9 ?_
        refine z_goto gi_146_10 ?_
        refine z_bret1 gi_146_14 gr_146 ?_
        show zW _ _ _ _ _ _ _ _ _ _
        refine z_if_neT gi_115_21 zr_1 (by decide) ?_
        refine z_aload0 gi_115_26 ?_
        refine z_getR (r := 10) gi_115_27 gk_0 (hR _ rm_0_2) ?_
        refine z_aload0 gi_115_30 ?_
        refine z_getR (r := 37) gi_115_31 gk_0 (hR _ rm_0_11) ?_
        refine z_iload1 gi_115_34 ?_
        refine z_aald (r := 38 + 2 * s.toNat) gi_115_35 rfl (by decide) (by omega) (rr_shelf hR (by omega)) ?_
        have hk1 : zK kP J J := zK_r
        refine z_callV (As := [_]) _ gi_115_36 rfl rfl (Nat.le_of_ble_eq_true rfl) (Nat.le_of_ble_eq_true rfl) (follow_k (J := J) (N := (cN J)) (n := J 8 2) (T := T) (s := s) (w := J 10 12) (z := (J (38 + 2 * s.toNat) 3)) (b := (fun i => M (39 + 2 * s.toNat) i)) hR (cN_P hk1) (hk1 8 2 rfl) y3 (LawC_P t2 hk1) t1 hs6 (fun _ _ _ => rfl) hbr (hk1 _ 3 (kP_b (by omega))) s4 ((hk1 _ 0 (kP_b (by omega))).trans hh) ((hk1 _ 2 (kP_b (by omega))).trans hso) rfl hW.1) (fun r J2 M2 R2 hr2 => ?_)
        obtain ⟨rfl, K, hE, hK30, hk3, hc2, hw2, eM, eR⟩ := hr2
        obtain rfl : M = M2 := eM.symm
        obtain rfl : R = R2 := eR.symm
        show zW _ _ _ _ _ (_ :: _) _ _ _ _
        have hk2 := zK_t hk1 hk3
        have hn2 : J2 8 2 = J 8 2 := hk2 8 2 rfl
        have hks : zK kS J J2 := kS_Pw hk3 (hc2.2.2.2.2.1.trans (Eq.symm rfl))
        obtain ⟨S, eS⟩ : ∃ S, S = tS T (cN J) (J 8 2) (fun i => M (39 + 2 * s.toNat) i) (J 10 12) K := ⟨_, rfl⟩
        have hi0 := (tS_r y3 K hE.1).1
        have hz0 := tS_z K hE.1
        rw [← eS] at hc2 hi0 hz0
        have hi := tI_30 hi0 (by omega)
        have qi := hi.2.2
        have hfc : ∀ p, 0 ≤ p → p < 8 → J2 11 p = tsh S p := fun p q1 q2 => hc2.2.2.2.2.2.2.1 p q1 q2
        refine z_istore (ls1 := [some (.ref 0), some (zi s), some (zi v), some (zi q), some (zi 0), none, none, none, none, none]) gi_115_39 rfl ?_
        refine z_iload4 gi_115_41 ?_
        refine z_if_geT gi_115_43 zr_0 (by decide) ?_
        refine z_pushJ gp_115_49 ?_
        refine z_istore (ls1 := [some (.ref 0), some (zi s), some (zi v), some (zi q), some (zi 0), some (zi 0), none, none, none, none]) gi_115_50 rfl ?_
        refine z_pushJ gp_115_52 ?_
        refine z_istore (ls1 := [some (.ref 0), some (zi s), some (zi v), some (zi q), some (zi 0), some (zi 0), some (zi 0), none, none, none]) gi_115_53 rfl ?_
        refine z_pushJ gp_115_55 ?_
        refine z_istore (ls1 := [some (.ref 0), some (zi s), some (zi v), some (zi q), some (zi 0), some (zi 0), some (zi 0), some (zi 0), none, none]) gi_115_56 rfl ?_
        show zW _ _ _ _ [some (.ref 0), some (zi s), some (zi v), some (zi q), some (zi 0), some (zi 0), some (zi 0), some (zi 0), none, none] [] _ _ _ _
        refine giveC_z (wp := v) hR y3 hc2.1 hw2 hK30 (by omega) hE.1 (fun e8 e9 => ?_) K 0 none none (by omega)
        refine z_iload3 gi_115_148 ?_
        refine z_if_neF gi_115_149 (by omega) (by omega) ?_
        refine z_iload5 rfl ?_
        refine z_goto rfl ?_
        refine z_iret gi_115_159 gr_115 ?_
        refine ⟨_, rfl, ?_⟩
        show zW _ _ _ _ [some (.ref 50), some (zi s), some (zi v), some (zi q), none, none, none, none, none] _ _ _ _ _
        refine z_iload1 gi_207_0 ?_
        refine z_cS1 gi_207_1 (Nat.le_of_ble_eq_true rfl) gc_248_I ?_
        refine z_iload0 gi_248_0 ?_
        refine z_pushJ gp_248_1 ?_
        refine z_pushJ gp_248_2 ?_
        refine z_cS3 gi_248_3 (Nat.le_of_ble_eq_true rfl) gc_148_III ?_
        refine z_iload0 gi_148_0 ?_
        refine z_iload1 gi_148_1 ?_
        refine z_icmp_ltF gi_148_2 (by omega) zr_0 (by omega) ?_
        refine z_iload0 gi_148_5 ?_
        refine z_iload2 gi_148_6 ?_
        refine z_icmp_gtF gi_148_7 (by omega) zr_5 (by omega) ?_
        refine z_pushJ gp_148_10 ?_
        refine z_goto gi_148_11 ?_
        refine z_bret1 gi_148_15 gr_148 ?_
        show zW _ _ _ _ _ _ _ _ _ _
        refine z_bret1 gi_248_6 gr_248 ?_
        show zW _ _ _ _ _ _ _ _ _ _
        refine z_if_eqF gi_207_4 zr_1 (by decide) ?_
        refine z_iload2 gi_207_7 ?_
        refine z_if_ltF gi_207_8 (by omega) (by omega) ?_
        refine z_iload2 gi_207_11 ?_
        refine z_pushJ gp_207_12 ?_
        refine z_idiv (e := v / 100) gi_207_14 (by omega) (by omega) rfl ?_
        refine z_pushJ gp_207_15 ?_
        refine z_icmp_gt gi_207_18 (by omega) (by decide) (fun h4 => ?_) (fun h4 => ?_)
        · refine z_pushJ gp_207_30 ?_
          refine z_iret gi_207_31 gr_207 ?_
          refine ⟨?_, ?_⟩
          · first | rfl | exact congrArg (fun v => some (zi v)) (by omega) | (exfalso; omega)
          · exact Rel_S hks zK_r hr
        · refine z_iload3 gi_207_21 ?_
          refine z_pushJ gp_207_22 ?_
          refine z_pushJ gp_207_23 ?_
          refine z_cS3 gi_207_24 (Nat.le_of_ble_eq_true rfl) gc_148_III ?_
          refine z_iload0 gi_148_0 ?_
          refine z_iload1 gi_148_1 ?_
          refine z_icmp_ltF gi_148_2 (by omega) zr_0 (by omega) ?_
          refine z_iload0 gi_148_5 ?_
          refine z_iload2 gi_148_6 ?_
          refine z_icmp_gtF gi_148_7 (by omega) zr_1 (by omega) ?_
          refine z_pushJ gp_148_10 ?_
          refine z_goto gi_148_11 ?_
          refine z_bret1 gi_148_15 gr_148 ?_
          show zW _ _ _ _ _ _ _ _ _ _
          refine z_if_neT gi_207_27 zr_1 (by decide) ?_
          refine z_aload0 gi_207_32 ?_
          refine z_iload1 gi_207_33 ?_
          refine z_cV1 gi_207_34 gk_50 go_192 (Nat.le_of_ble_eq_true rfl) gc_192_RI ?_
          refine z_aload0 gi_192_0 ?_
          refine z_getR (r := 83) gi_192_1 gk_50 (hRr _ rm_50_58 (by decide)) ?_
          refine z_iload1 gi_192_4 ?_
          refine z_iald (v := (-2)) gi_192_5 gk_83 (by decide) (by omega) ((hks 83 _ rfl).trans e83n) ?_
          refine z_pushJ gp_192_6 ?_
          refine z_icmp_neT gi_192_7 zrn_2 zrn_1 (by decide) ?_
          refine z_aload0 gi_192_15 ?_
          refine z_getR (r := 83) gi_192_16 gk_50 (hRr _ rm_50_58 (by decide)) ?_
          refine z_iload1 gi_192_19 ?_
          refine z_iald (v := (-2)) gi_192_20 gk_83 (by decide) (by omega) ((hks 83 _ rfl).trans e83n) ?_
          refine z_pushJ gp_192_21 ?_
          refine z_icmp_neF gi_192_23 zrn_2 zrn_2 (by decide) ?_
          refine z_pushJ gp_192_26 ?_
          refine z_goto gi_192_27 ?_
          refine z_iret gi_192_32 gr_192 ?_
          show zW _ _ _ _ _ _ _ _ _ _
          refine z_if_geT gi_207_37 zr_0 (by decide) ?_
          refine z_aload0 gi_207_46 ?_
          refine z_iload1 gi_207_47 ?_
          refine z_pushJ gp_207_48 ?_
          have hV := zK_m hks kV_S
          refine z_callV (As := [_, _]) _ gi_207_50 rfl rfl (Nat.le_of_ble_eq_true rfl) (Nat.le_of_ble_eq_true rfl) (goRound_k (N := (cN J)) (n := J 8 2) (T := T) (s := s) (z := (J (38 + 2 * s.toNat) 3)) (b := (fun i => M (39 + 2 * s.toNat) i)) (w := 0) (most := 60) hRr ((rN_V hV).trans y1.symm) ((hks 50 1 rfl).trans y2.symm) y3 (LawR_V t3 hV) t1 hs6 (fun i i1 i2 => (s8 i i1 i2).symm) hbr ((hks 84 _ rfl).trans s7) s4 (by decide) ((hks 50 35 rfl).trans hW.2) (by decide)) (fun r J4 M4 R4 hr4 => ?_)
          obtain ⟨K2, rfl, hO, hOr, hK2, hq4, hr4, eM, eR⟩ := hr4
          obtain rfl : M = M4 := eM.symm
          obtain rfl : R = R4 := eR.symm
          show zW _ _ _ _ _ (_ :: _) _ _ _ _
          have eK : K2 = K := tEnd_w ⟨hO, (by rcases hOr with h | h; (exfalso; omega); exact h)⟩ hE
          rw [eK] at hr4
          have hg : rTg J4 (J 8 2) S (sGone (cN J) (J 8 2)) := rT_w eS hr4
          have hs4 := zK_t hks (zK_m hq4 kS_Q)
          have hn4 : J4 50 1 = J 8 2 := (hs4 50 1 rfl).trans y2.symm
          have hfr : ∀ p, 0 ≤ p → p < J 8 2 → J4 69 p = tsh S p := fun p q1 q2 => hg.2.2.2.2.1 p q1 q2
          refine z_istore (ls1 := [some (.ref 50), some (zi s), some (zi v), some (zi q), some (zi (K2 : Int)), none, none, none, none]) gi_207_53 rfl ?_
          refine z_pushJ gp_207_55 ?_
          refine z_istore (ls1 := [some (.ref 50), some (zi s), some (zi v), some (zi q), some (zi (K2 : Int)), some (zi 0), none, none, none]) gi_207_56 rfl ?_
          refine z_pushJ gp_207_58 ?_
          refine z_istore (ls1 := [some (.ref 50), some (zi s), some (zi v), some (zi q), some (zi (K2 : Int)), some (zi 0), some (zi 0), none, none]) gi_207_59 rfl ?_
          refine z_pushJ gp_207_61 ?_
          refine z_istore (ls1 := [some (.ref 50), some (zi s), some (zi v), some (zi q), some (zi (K2 : Int)), some (zi 0), some (zi 0), some (zi 1), none]) gi_207_62 rfl ?_
          show zW _ _ _ _ [some (.ref 50), some (zi s), some (zi v), some (zi q), some (zi (K2 : Int)), some (zi 0), some (zi 0), some (zi 1), none] [] _ _ _ _
          have hV4 := zK_m hs4 kV_S
          rw [eK]
          refine giveR_z (w := J 10 12) (wp := v) (A := J4) (n := J 8 2) (d := d + 11) y3 hRr ((rN_V hV4).trans y1.symm) hn4 (LawR_V t3 hV4) t1 hs6 (z := (J (38 + 2 * s.toNat) 3)) (b := (fun i => M (39 + 2 * s.toNat) i)) (fun i i1 i2 => (s8 i i1 i2).symm) hbr ((hs4 84 _ rfl).trans s7) s4 ((hs4 50 35 rfl).trans hW.2) hK30 (by omega) hE.1 (fun e8 J5 hJ5 => ?_) K 0 none J4 zK_r (by omega)
          have hs5 := zK_t hs4 hJ5
          refine z_iload3 gi_207_131 ?_
          refine z_if_neF gi_207_132 (by omega) (by omega) ?_
          refine z_iload5 rfl ?_
          refine z_goto rfl ?_
          refine z_iret gi_207_142 gr_207 ?_
          refine ⟨?_, ?_⟩
          · first | rfl | exact congrArg (fun v => some (zi v)) (by omega) | (exfalso; omega)
          · exact Rel_S hs5 zK_r hr
      · refine z_iload0 gi_146_4 ?_
        refine z_pushJ gp_146_5 ?_
        refine z_icmp_ne gi_146_6 (by omega) zr_1 (fun h4 => ?_) (fun h4 => ?_)
        · refine z_pushJ gp_146_13 ?_
          refine z_bret0 gi_146_14 gr_146 ?_
          show zW _ _ _ _ _ _ _ _ _ _
          refine z_if_neF gi_115_21 zr_0 (by decide) ?_
          refine z_pushJ gp_115_24 ?_
          refine z_iret gi_115_25 gr_115 ?_
          refine ⟨_, rfl, ?_⟩
          show zW _ _ _ _ [some (.ref 50), some (zi s), some (zi v), some (zi q), none, none, none, none, none] _ _ _ _ _
          refine z_iload1 gi_207_0 ?_
          refine z_cS1 gi_207_1 (Nat.le_of_ble_eq_true rfl) gc_248_I ?_
          refine z_iload0 gi_248_0 ?_
          refine z_pushJ gp_248_1 ?_
          refine z_pushJ gp_248_2 ?_
          refine z_cS3 gi_248_3 (Nat.le_of_ble_eq_true rfl) gc_148_III ?_
          refine z_iload0 gi_148_0 ?_
          refine z_iload1 gi_148_1 ?_
          refine z_icmp_ltF gi_148_2 (by omega) zr_0 (by omega) ?_
          refine z_iload0 gi_148_5 ?_
          refine z_iload2 gi_148_6 ?_
          refine z_icmp_gtF gi_148_7 (by omega) zr_5 (by omega) ?_
          refine z_pushJ gp_148_10 ?_
          refine z_goto gi_148_11 ?_
          refine z_bret1 gi_148_15 gr_148 ?_
          show zW _ _ _ _ _ _ _ _ _ _
          refine z_bret1 gi_248_6 gr_248 ?_
          show zW _ _ _ _ _ _ _ _ _ _
          refine z_if_eqF gi_207_4 zr_1 (by decide) ?_
          refine z_iload2 gi_207_7 ?_
          refine z_if_ltF gi_207_8 (by omega) (by omega) ?_
          refine z_iload2 gi_207_11 ?_
          refine z_pushJ gp_207_12 ?_
          refine z_idiv (e := v / 100) gi_207_14 (by omega) (by omega) rfl ?_
          refine z_pushJ gp_207_15 ?_
          refine z_icmp_gt gi_207_18 (by omega) (by decide) (fun h5 => ?_) (fun h5 => ?_)
          · refine z_pushJ gp_207_30 ?_
            refine z_iret gi_207_31 gr_207 ?_
            refine ⟨?_, ?_⟩
            · first | rfl | exact congrArg (fun v => some (zi v)) (by omega) | (exfalso; omega)
            · exact hr
          · refine z_iload3 gi_207_21 ?_
            refine z_pushJ gp_207_22 ?_
            refine z_pushJ gp_207_23 ?_
            refine z_cS3 gi_207_24 (Nat.le_of_ble_eq_true rfl) gc_148_III ?_
            refine z_iload0 gi_148_0 ?_
            refine z_iload1 gi_148_1 ?_
            refine z_icmp_lt gi_148_2 (by omega) zr_0 (fun h6 => ?_) (fun h6 => ?_)
            · refine z_pushJ gp_148_14 ?_
              refine z_bret0 gi_148_15 gr_148 ?_
              show zW _ _ _ _ _ _ _ _ _ _
              refine z_if_neF gi_207_27 zr_0 (by decide) ?_
              refine z_pushJ gp_207_30 ?_
              refine z_iret gi_207_31 gr_207 ?_
              refine ⟨?_, ?_⟩
              · first | rfl | exact congrArg (fun v => some (zi v)) (by omega) | (exfalso; omega)
              · exact hr
            · refine z_iload0 gi_148_5 ?_
              refine z_iload2 gi_148_6 ?_
              refine z_icmp_gt gi_148_7 (by omega) zr_1 (fun h7 => ?_) (fun h7 => ?_)
              · refine z_pushJ gp_148_14 ?_
                refine z_bret0 gi_148_15 gr_148 ?_
                show zW _ _ _ _ _ _ _ _ _ _
                refine z_if_neF gi_207_27 zr_0 (by decide) ?_
                refine z_pushJ gp_207_30 ?_
                refine z_iret gi_207_31 gr_207 ?_
                refine ⟨?_, ?_⟩
                · first | rfl | exact congrArg (fun v => some (zi v)) (by omega) | (exfalso; omega)
                · exact hr
              · refine z_pushJ gp_148_10 ?_
                refine z_goto gi_148_11 ?_
                refine z_bret1 gi_148_15 gr_148 ?_
                show zW _ _ _ _ _ _ _ _ _ _
                refine z_if_neT gi_207_27 zr_1 (by decide) ?_
                refine z_aload0 gi_207_32 ?_
                refine z_iload1 gi_207_33 ?_
                refine z_cV1 gi_207_34 gk_50 go_192 (Nat.le_of_ble_eq_true rfl) gc_192_RI ?_
                refine z_aload0 gi_192_0 ?_
                refine z_getR (r := 83) gi_192_1 gk_50 (hRr _ rm_50_58 (by decide)) ?_
                refine z_iload1 gi_192_4 ?_
                refine z_iald (v := (-2)) gi_192_5 gk_83 (by decide) (by omega) (e83n) ?_
                refine z_pushJ gp_192_6 ?_
                refine z_icmp_neT gi_192_7 zrn_2 zrn_1 (by decide) ?_
                refine z_aload0 gi_192_15 ?_
                refine z_getR (r := 83) gi_192_16 gk_50 (hRr _ rm_50_58 (by decide)) ?_
                refine z_iload1 gi_192_19 ?_
                refine z_iald (v := (-2)) gi_192_20 gk_83 (by decide) (by omega) (e83n) ?_
                refine z_pushJ gp_192_21 ?_
                refine z_icmp_neF gi_192_23 zrn_2 zrn_2 (by decide) ?_
                refine z_pushJ gp_192_26 ?_
                refine z_goto gi_192_27 ?_
                refine z_iret gi_192_32 gr_192 ?_
                show zW _ _ _ _ _ _ _ _ _ _
                refine z_if_geT gi_207_37 zr_0 (by decide) ?_
                refine z_aload0 gi_207_46 ?_
                refine z_iload1 gi_207_47 ?_
                refine z_pushJ gp_207_48 ?_
                exfalso
                omega
        · refine z_pushJ gp_146_9 ?_
          refine z_goto gi_146_10 ?_
          refine z_bret1 gi_146_14 gr_146 ?_
          show zW _ _ _ _ _ _ _ _ _ _
          refine z_if_neT gi_115_21 zr_1 (by decide) ?_
          refine z_aload0 gi_115_26 ?_
          refine z_getR (r := 10) gi_115_27 gk_0 (hR _ rm_0_2) ?_
          refine z_aload0 gi_115_30 ?_
          refine z_getR (r := 37) gi_115_31 gk_0 (hR _ rm_0_11) ?_
          refine z_iload1 gi_115_34 ?_
          refine z_aald (r := 38 + 2 * s.toNat) gi_115_35 rfl (by decide) (by omega) (rr_shelf hR (by omega)) ?_
          have hk1 : zK kP J J := zK_r
          refine z_callV (As := [_]) _ gi_115_36 rfl rfl (Nat.le_of_ble_eq_true rfl) (Nat.le_of_ble_eq_true rfl) (follow_k (J := J) (N := (cN J)) (n := J 8 2) (T := T) (s := s) (w := J 10 12) (z := (J (38 + 2 * s.toNat) 3)) (b := (fun i => M (39 + 2 * s.toNat) i)) hR (cN_P hk1) (hk1 8 2 rfl) y3 (LawC_P t2 hk1) t1 hs6 (fun _ _ _ => rfl) hbr (hk1 _ 3 (kP_b (by omega))) s4 ((hk1 _ 0 (kP_b (by omega))).trans hh) ((hk1 _ 2 (kP_b (by omega))).trans hso) rfl hW.1) (fun r J2 M2 R2 hr2 => ?_)
          obtain ⟨rfl, K, hE, hK30, hk3, hc2, hw2, eM, eR⟩ := hr2
          obtain rfl : M = M2 := eM.symm
          obtain rfl : R = R2 := eR.symm
          show zW _ _ _ _ _ (_ :: _) _ _ _ _
          have hk2 := zK_t hk1 hk3
          have hn2 : J2 8 2 = J 8 2 := hk2 8 2 rfl
          have hks : zK kS J J2 := kS_Pw hk3 (hc2.2.2.2.2.1.trans (Eq.symm rfl))
          obtain ⟨S, eS⟩ : ∃ S, S = tS T (cN J) (J 8 2) (fun i => M (39 + 2 * s.toNat) i) (J 10 12) K := ⟨_, rfl⟩
          have hi0 := (tS_r y3 K hE.1).1
          have hz0 := tS_z K hE.1
          rw [← eS] at hc2 hi0 hz0
          have hi := tI_30 hi0 (by omega)
          have qi := hi.2.2
          have hfc : ∀ p, 0 ≤ p → p < 8 → J2 11 p = tsh S p := fun p q1 q2 => hc2.2.2.2.2.2.2.1 p q1 q2
          refine z_istore (ls1 := [some (.ref 0), some (zi s), some (zi v), some (zi q), some (zi 0), none, none, none, none, none]) gi_115_39 rfl ?_
          refine z_iload4 gi_115_41 ?_
          refine z_if_geT gi_115_43 zr_0 (by decide) ?_
          refine z_pushJ gp_115_49 ?_
          refine z_istore (ls1 := [some (.ref 0), some (zi s), some (zi v), some (zi q), some (zi 0), some (zi 0), none, none, none, none]) gi_115_50 rfl ?_
          refine z_pushJ gp_115_52 ?_
          refine z_istore (ls1 := [some (.ref 0), some (zi s), some (zi v), some (zi q), some (zi 0), some (zi 0), some (zi 0), none, none, none]) gi_115_53 rfl ?_
          refine z_pushJ gp_115_55 ?_
          refine z_istore (ls1 := [some (.ref 0), some (zi s), some (zi v), some (zi q), some (zi 0), some (zi 0), some (zi 0), some (zi 0), none, none]) gi_115_56 rfl ?_
          show zW _ _ _ _ [some (.ref 0), some (zi s), some (zi v), some (zi q), some (zi 0), some (zi 0), some (zi 0), some (zi 0), none, none] [] _ _ _ _
          refine giveC_z (wp := v) hR y3 hc2.1 hw2 hK30 (by omega) hE.1 (fun e8 e9 => ?_) K 0 none none (by omega)
          refine z_iload3 gi_115_148 ?_
          refine z_if_neT gi_115_149 (by omega) (by omega) ?_
          refine z_iload6 rfl ?_
          refine z_iret gi_115_159 gr_115 ?_
          refine ⟨_, rfl, ?_⟩
          show zW _ _ _ _ [some (.ref 50), some (zi s), some (zi v), some (zi q), none, none, none, none, none] _ _ _ _ _
          refine z_iload1 gi_207_0 ?_
          refine z_cS1 gi_207_1 (Nat.le_of_ble_eq_true rfl) gc_248_I ?_
          refine z_iload0 gi_248_0 ?_
          refine z_pushJ gp_248_1 ?_
          refine z_pushJ gp_248_2 ?_
          refine z_cS3 gi_248_3 (Nat.le_of_ble_eq_true rfl) gc_148_III ?_
          refine z_iload0 gi_148_0 ?_
          refine z_iload1 gi_148_1 ?_
          refine z_icmp_ltF gi_148_2 (by omega) zr_0 (by omega) ?_
          refine z_iload0 gi_148_5 ?_
          refine z_iload2 gi_148_6 ?_
          refine z_icmp_gtF gi_148_7 (by omega) zr_5 (by omega) ?_
          refine z_pushJ gp_148_10 ?_
          refine z_goto gi_148_11 ?_
          refine z_bret1 gi_148_15 gr_148 ?_
          show zW _ _ _ _ _ _ _ _ _ _
          refine z_bret1 gi_248_6 gr_248 ?_
          show zW _ _ _ _ _ _ _ _ _ _
          refine z_if_eqF gi_207_4 zr_1 (by decide) ?_
          refine z_iload2 gi_207_7 ?_
          refine z_if_ltF gi_207_8 (by omega) (by omega) ?_
          refine z_iload2 gi_207_11 ?_
          refine z_pushJ gp_207_12 ?_
          refine z_idiv (e := v / 100) gi_207_14 (by omega) (by omega) rfl ?_
          refine z_pushJ gp_207_15 ?_
          refine z_icmp_gt gi_207_18 (by omega) (by decide) (fun h5 => ?_) (fun h5 => ?_)
          · refine z_pushJ gp_207_30 ?_
            refine z_iret gi_207_31 gr_207 ?_
            refine ⟨?_, ?_⟩
            · first | rfl | exact congrArg (fun v => some (zi v)) (by omega) | (exfalso; omega)
            · exact Rel_S hks zK_r hr
          · refine z_iload3 gi_207_21 ?_
            refine z_pushJ gp_207_22 ?_
            refine z_pushJ gp_207_23 ?_
            refine z_cS3 gi_207_24 (Nat.le_of_ble_eq_true rfl) gc_148_III ?_
            refine z_iload0 gi_148_0 ?_
            refine z_iload1 gi_148_1 ?_
            refine z_icmp_ltF gi_148_2 (by omega) zr_0 (by omega) ?_
            refine z_iload0 gi_148_5 ?_
            refine z_iload2 gi_148_6 ?_
            refine z_icmp_gtF gi_148_7 (by omega) zr_1 (by omega) ?_
            refine z_pushJ gp_148_10 ?_
            refine z_goto gi_148_11 ?_
            refine z_bret1 gi_148_15 gr_148 ?_
            show zW _ _ _ _ _ _ _ _ _ _
            refine z_if_neT gi_207_27 zr_1 (by decide) ?_
            refine z_aload0 gi_207_32 ?_
            refine z_iload1 gi_207_33 ?_
            refine z_cV1 gi_207_34 gk_50 go_192 (Nat.le_of_ble_eq_true rfl) gc_192_RI ?_
            refine z_aload0 gi_192_0 ?_
            refine z_getR (r := 83) gi_192_1 gk_50 (hRr _ rm_50_58 (by decide)) ?_
            refine z_iload1 gi_192_4 ?_
            refine z_iald (v := (-2)) gi_192_5 gk_83 (by decide) (by omega) ((hks 83 _ rfl).trans e83n) ?_
            refine z_pushJ gp_192_6 ?_
            refine z_icmp_neT gi_192_7 zrn_2 zrn_1 (by decide) ?_
            refine z_aload0 gi_192_15 ?_
            refine z_getR (r := 83) gi_192_16 gk_50 (hRr _ rm_50_58 (by decide)) ?_
            refine z_iload1 gi_192_19 ?_
            refine z_iald (v := (-2)) gi_192_20 gk_83 (by decide) (by omega) ((hks 83 _ rfl).trans e83n) ?_
            refine z_pushJ gp_192_21 ?_
            refine z_icmp_neF gi_192_23 zrn_2 zrn_2 (by decide) ?_
            refine z_pushJ gp_192_26 ?_
            refine z_goto gi_192_27 ?_
            refine z_iret gi_192_32 gr_192 ?_
            show zW _ _ _ _ _ _ _ _ _ _
            refine z_if_geT gi_207_37 zr_0 (by decide) ?_
            refine z_aload0 gi_207_46 ?_
            refine z_iload1 gi_207_47 ?_
            refine z_pushJ gp_207_48 ?_
            have hV := zK_m hks kV_S
            refine z_callV (As := [_, _]) _ gi_207_50 rfl rfl (Nat.le_of_ble_eq_true rfl) (Nat.le_of_ble_eq_true rfl) (goRound_k (N := (cN J)) (n := J 8 2) (T := T) (s := s) (z := (J (38 + 2 * s.toNat) 3)) (b := (fun i => M (39 + 2 * s.toNat) i)) (w := 0) (most := 60) hRr ((rN_V hV).trans y1.symm) ((hks 50 1 rfl).trans y2.symm) y3 (LawR_V t3 hV) t1 hs6 (fun i i1 i2 => (s8 i i1 i2).symm) hbr ((hks 84 _ rfl).trans s7) s4 (by decide) ((hks 50 35 rfl).trans hW.2) (by decide)) (fun r J4 M4 R4 hr4 => ?_)
            obtain ⟨K2, rfl, hO, hOr, hK2, hq4, hr4, eM, eR⟩ := hr4
            obtain rfl : M = M4 := eM.symm
            obtain rfl : R = R4 := eR.symm
            show zW _ _ _ _ _ (_ :: _) _ _ _ _
            have eK : K2 = K := tEnd_w ⟨hO, (by rcases hOr with h | h; (exfalso; omega); exact h)⟩ hE
            rw [eK] at hr4
            have hg : rTg J4 (J 8 2) S (sGone (cN J) (J 8 2)) := rT_w eS hr4
            have hs4 := zK_t hks (zK_m hq4 kS_Q)
            have hn4 : J4 50 1 = J 8 2 := (hs4 50 1 rfl).trans y2.symm
            have hfr : ∀ p, 0 ≤ p → p < J 8 2 → J4 69 p = tsh S p := fun p q1 q2 => hg.2.2.2.2.1 p q1 q2
            refine z_istore (ls1 := [some (.ref 50), some (zi s), some (zi v), some (zi q), some (zi (K2 : Int)), none, none, none, none]) gi_207_53 rfl ?_
            refine z_pushJ gp_207_55 ?_
            refine z_istore (ls1 := [some (.ref 50), some (zi s), some (zi v), some (zi q), some (zi (K2 : Int)), some (zi 0), none, none, none]) gi_207_56 rfl ?_
            refine z_pushJ gp_207_58 ?_
            refine z_istore (ls1 := [some (.ref 50), some (zi s), some (zi v), some (zi q), some (zi (K2 : Int)), some (zi 0), some (zi 0), none, none]) gi_207_59 rfl ?_
            refine z_pushJ gp_207_61 ?_
            refine z_istore (ls1 := [some (.ref 50), some (zi s), some (zi v), some (zi q), some (zi (K2 : Int)), some (zi 0), some (zi 0), some (zi 1), none]) gi_207_62 rfl ?_
            show zW _ _ _ _ [some (.ref 50), some (zi s), some (zi v), some (zi q), some (zi (K2 : Int)), some (zi 0), some (zi 0), some (zi 1), none] [] _ _ _ _
            have hV4 := zK_m hs4 kV_S
            rw [eK]
            refine giveR_z (w := J 10 12) (wp := v) (A := J4) (n := J 8 2) (d := d + 11) y3 hRr ((rN_V hV4).trans y1.symm) hn4 (LawR_V t3 hV4) t1 hs6 (z := (J (38 + 2 * s.toNat) 3)) (b := (fun i => M (39 + 2 * s.toNat) i)) (fun i i1 i2 => (s8 i i1 i2).symm) hbr ((hs4 84 _ rfl).trans s7) s4 ((hs4 50 35 rfl).trans hW.2) hK30 (by omega) hE.1 (fun e8 J5 hJ5 => ?_) K 0 none J4 zK_r (by omega)
            have hs5 := zK_t hs4 hJ5
            refine z_iload3 gi_207_131 ?_
            refine z_if_neT gi_207_132 (by omega) (by omega) ?_
            refine z_iload6 rfl ?_
            refine z_iret gi_207_142 gr_207 ?_
            refine ⟨?_, ?_⟩
            · first | rfl | exact congrArg (fun v => some (zi v)) (by omega) | (exfalso; omega)
            · exact Rel_S hs5 zK_r hr
theorem st_giveUp {X : Nat × (Nat → Int32)} {d : Nat} {J M : zA} {R : zR} {s v q : Int} (hr : Rel X J M R) (hs : -2147483648 ≤ s ∧ s < 2147483648) (hv : -2147483648 ≤ v ∧ v < 2147483648) (hq : -2147483648 ≤ q ∧ q < 2147483648) : zW X (d + 20) 115 0 (gEn 115 [(.ref 0), (zi s), (zi v), (zi q)]) [] J M R (stP X (d + 20) 207 [(zi s), (zi v), (zi q)]) := by
  by_cases hs6 : 0 ≤ s ∧ s < 6
  · have hS : RelS J M := hr.2.2.2.2.2.2.2.1
    have h2 := (hS s hs6.1 hs6.2).2.1
    have h4 : J (38 + 2 * s.toNat) 0 = 0 ∨ J (38 + 2 * s.toNat) 0 = 1 ∨ J (38 + 2 * s.toNat) 0 = 2 := by omega
    rcases h4 with hh | hh | hh
    · exact st_giveUp_0 hr hs hv hq hs6 hh
    · exact st_giveUp_1 hr hs hv hq hs6 hh
    · by_cases hso : J (38 + 2 * s.toNat) 2 = 0
      · exact st_giveUp_m hr hs hv hq hs6 hh hso
      · exact st_giveUp_2 hr hs hv hq hs6 hh hso
  · exact st_giveUp_n hr hs hv hq hs6
theorem st_by_n {X : Nat × (Nat → Int32)} {d : Nat} {J M : zA} {R : zR} {s v : Int} (hr : Rel X J M R) (hs : -2147483648 ≤ s ∧ s < 2147483648) (hv : -2147483648 ≤ v ∧ v < 2147483648) (hs6 : ¬ (0 ≤ s ∧ s < 6)) : zW X (d + 20) 111 0 (gEn 111 [(.ref 0), (zi s), (zi v)]) [] J M R (stP X (d + 20) 200 [(zi s), (zi v)]) := by
  have hr0 := hr
  obtain ⟨hR, hG, hY, hD, hP, hC, hAc, hS, hTp, hX, hW⟩ := hr0
  have hRr : zRoR R := zRoR_of hR
  have hY0 := hY
  obtain ⟨y1, y2, y3⟩ := hY0
  have yn := zNn y3
  show zW _ _ _ _ [some (.ref 0), some (zi s), some (zi v), none] _ _ _ _ _
  refine z_iload1 gi_111_0 ?_
  refine z_cS1 gi_111_1 (Nat.le_of_ble_eq_true rfl) gc_143_I ?_
  refine z_iload0 gi_143_0 ?_
  refine z_if_lt gi_143_1 (by omega) (fun h1 => ?_) (fun h1 => ?_)
  · refine z_pushJ gp_143_14 ?_
    refine z_bret0 gi_143_15 gr_143 ?_
    show zW _ _ _ _ _ _ _ _ _ _
    refine z_if_eqT gi_111_4 zr_0 (by decide) ?_
    refine z_pushJ gp_111_17 ?_
    refine z_iret gi_111_18 gr_111 ?_
    refine ⟨_, rfl, ?_⟩
    show zW _ _ _ _ [some (.ref 50), some (zi s), some (zi v)] _ _ _ _ _
    refine z_iload1 gi_200_0 ?_
    refine z_cS1 gi_200_1 (Nat.le_of_ble_eq_true rfl) gc_248_I ?_
    refine z_iload0 gi_248_0 ?_
    refine z_pushJ gp_248_1 ?_
    refine z_pushJ gp_248_2 ?_
    refine z_cS3 gi_248_3 (Nat.le_of_ble_eq_true rfl) gc_148_III ?_
    refine z_iload0 gi_148_0 ?_
    refine z_iload1 gi_148_1 ?_
    refine z_icmp_ltT gi_148_2 (by omega) zr_0 (by omega) ?_
    refine z_pushJ gp_148_14 ?_
    refine z_bret0 gi_148_15 gr_148 ?_
    show zW _ _ _ _ _ _ _ _ _ _
    refine z_bret0 gi_248_6 gr_248 ?_
    show zW _ _ _ _ _ _ _ _ _ _
    refine z_if_eqT gi_200_4 zr_0 (by decide) ?_
    refine z_pushJ gp_200_17 ?_
    refine z_iret gi_200_18 gr_200 ?_
    refine ⟨?_, ?_⟩
    · first | rfl | exact congrArg (fun v => some (zi v)) (by omega) | (exfalso; omega)
    · exact hr
  · refine z_iload0 gi_143_4 ?_
    refine z_pushJ gp_143_5 ?_
    refine z_icmp_geT gi_143_7 (by omega) zr_6 (by omega) ?_
    refine z_pushJ gp_143_14 ?_
    refine z_bret0 gi_143_15 gr_143 ?_
    show zW _ _ _ _ _ _ _ _ _ _
    refine z_if_eqT gi_111_4 zr_0 (by decide) ?_
    refine z_pushJ gp_111_17 ?_
    refine z_iret gi_111_18 gr_111 ?_
    refine ⟨_, rfl, ?_⟩
    show zW _ _ _ _ [some (.ref 50), some (zi s), some (zi v)] _ _ _ _ _
    refine z_iload1 gi_200_0 ?_
    refine z_cS1 gi_200_1 (Nat.le_of_ble_eq_true rfl) gc_248_I ?_
    refine z_iload0 gi_248_0 ?_
    refine z_pushJ gp_248_1 ?_
    refine z_pushJ gp_248_2 ?_
    refine z_cS3 gi_248_3 (Nat.le_of_ble_eq_true rfl) gc_148_III ?_
    refine z_iload0 gi_148_0 ?_
    refine z_iload1 gi_148_1 ?_
    refine z_icmp_ltF gi_148_2 (by omega) zr_0 (by omega) ?_
    refine z_iload0 gi_148_5 ?_
    refine z_iload2 gi_148_6 ?_
    refine z_icmp_gtT gi_148_7 (by omega) zr_5 (by omega) ?_
    refine z_pushJ gp_148_14 ?_
    refine z_bret0 gi_148_15 gr_148 ?_
    show zW _ _ _ _ _ _ _ _ _ _
    refine z_bret0 gi_248_6 gr_248 ?_
    show zW _ _ _ _ _ _ _ _ _ _
    refine z_if_eqT gi_200_4 zr_0 (by decide) ?_
    refine z_pushJ gp_200_17 ?_
    refine z_iret gi_200_18 gr_200 ?_
    refine ⟨?_, ?_⟩
    · first | rfl | exact congrArg (fun v => some (zi v)) (by omega) | (exfalso; omega)
    · exact hr
theorem st_by_0 {X : Nat × (Nat → Int32)} {d : Nat} {J M : zA} {R : zR} {s v : Int} (hr : Rel X J M R) (hs : -2147483648 ≤ s ∧ s < 2147483648) (hv : -2147483648 ≤ v ∧ v < 2147483648) (hs6 : 0 ≤ s ∧ s < 6) (hh : J (38 + 2 * s.toNat) 0 = 0) : zW X (d + 20) 111 0 (gEn 111 [(.ref 0), (zi s), (zi v)]) [] J M R (stP X (d + 20) 200 [(zi s), (zi v)]) := by
  have hr0 := hr
  obtain ⟨hR, hG, hY, hD, hP, hC, hAc, hS, hTp, hX, hW⟩ := hr0
  have hRr : zRoR R := zRoR_of hR
  have hY0 := hY
  obtain ⟨y1, y2, y3⟩ := hY0
  have yn := zNn y3
  have hA0 := hAc
  obtain ⟨a1, a2, a3, a4, a5, a6⟩ := hA0
  have e83 : J 83 s = -1 := (hS s hs6.1 hs6.2).1.symm.trans (cH_0 hh)
  have s3 : 0 ≤ J (38 + 2 * s.toNat) 2 ∧ J (38 + 2 * s.toNat) 2 ≤ 4 := (hS s hs6.1 hs6.2).2.2.1
  have s4 : 0 ≤ J (38 + 2 * s.toNat) 3 ∧ J (38 + 2 * s.toNat) 3 ≤ 60 := (hS s hs6.1 hs6.2).2.2.2.1
  show zW _ _ _ _ [some (.ref 0), some (zi s), some (zi v), none] _ _ _ _ _
  refine z_iload1 gi_111_0 ?_
  refine z_cS1 gi_111_1 (Nat.le_of_ble_eq_true rfl) gc_143_I ?_
  refine z_iload0 gi_143_0 ?_
  refine z_if_ltF gi_143_1 (by omega) (by omega) ?_
  refine z_iload0 gi_143_4 ?_
  refine z_pushJ gp_143_5 ?_
  refine z_icmp_geF gi_143_7 (by omega) zr_6 (by omega) ?_
  refine z_pushJ gp_143_10 ?_
  refine z_goto gi_143_11 ?_
  refine z_bret1 gi_143_15 gr_143 ?_
  show zW _ _ _ _ _ _ _ _ _ _
  refine z_if_eqF gi_111_4 zr_1 (by decide) ?_
  refine z_iload2 gi_111_7 ?_
  refine z_if_lt gi_111_8 (by omega) (fun h1 => ?_) (fun h1 => ?_)
  · refine z_pushJ gp_111_17 ?_
    refine z_iret gi_111_18 gr_111 ?_
    refine ⟨_, rfl, ?_⟩
    show zW _ _ _ _ [some (.ref 50), some (zi s), some (zi v)] _ _ _ _ _
    refine z_iload1 gi_200_0 ?_
    refine z_cS1 gi_200_1 (Nat.le_of_ble_eq_true rfl) gc_248_I ?_
    refine z_iload0 gi_248_0 ?_
    refine z_pushJ gp_248_1 ?_
    refine z_pushJ gp_248_2 ?_
    refine z_cS3 gi_248_3 (Nat.le_of_ble_eq_true rfl) gc_148_III ?_
    refine z_iload0 gi_148_0 ?_
    refine z_iload1 gi_148_1 ?_
    refine z_icmp_ltF gi_148_2 (by omega) zr_0 (by omega) ?_
    refine z_iload0 gi_148_5 ?_
    refine z_iload2 gi_148_6 ?_
    refine z_icmp_gtF gi_148_7 (by omega) zr_5 (by omega) ?_
    refine z_pushJ gp_148_10 ?_
    refine z_goto gi_148_11 ?_
    refine z_bret1 gi_148_15 gr_148 ?_
    show zW _ _ _ _ _ _ _ _ _ _
    refine z_bret1 gi_248_6 gr_248 ?_
    show zW _ _ _ _ _ _ _ _ _ _
    refine z_if_eqF gi_200_4 zr_1 (by decide) ?_
    refine z_iload2 gi_200_7 ?_
    refine z_pushJ gp_200_8 ?_
    refine z_pushJ gp_200_9 ?_
    refine z_cS3 gi_200_11 (Nat.le_of_ble_eq_true rfl) gc_148_III ?_
    refine z_iload0 gi_148_0 ?_
    refine z_iload1 gi_148_1 ?_
    refine z_icmp_ltT gi_148_2 (by omega) zr_0 (by omega) ?_
    refine z_pushJ gp_148_14 ?_
    refine z_bret0 gi_148_15 gr_148 ?_
    show zW _ _ _ _ _ _ _ _ _ _
    refine z_if_neF gi_200_14 zr_0 (by decide) ?_
    refine z_pushJ gp_200_17 ?_
    refine z_iret gi_200_18 gr_200 ?_
    refine ⟨?_, ?_⟩
    · first | rfl | exact congrArg (fun v => some (zi v)) (by omega) | (exfalso; omega)
    · exact hr
  · refine z_iload2 gi_111_11 ?_
    refine z_pushJ gp_111_12 ?_
    refine z_icmp_le gi_111_14 (by omega) (by decide) (fun h2 => ?_) (fun h2 => ?_)
    · refine z_aload0 gi_111_19 ?_
      refine z_getR (r := 10) gi_111_20 gk_0 (hR _ rm_0_2) ?_
      refine z_iload2 gi_111_23 ?_
      refine z_cV1 gi_111_24 gk_10 go_77 (Nat.le_of_ble_eq_true rfl) gc_77_RI ?_
      refine z_aload0 gi_77_0 ?_
      refine z_iload1 gi_77_1 ?_
      refine z_putI (y := 12) gi_77_2 rfl gk_10 ?_
      refine z_vret gi_77_5 gr_77 ?_
      show zW _ _ _ _ _ _ _ _ _ _
      refine z_aload0 gi_111_27 ?_
      refine z_getR (r := 10) gi_111_28 gk_0 (hR _ rm_0_2) ?_
      refine z_aload0 gi_111_31 ?_
      refine z_getR (r := 37) gi_111_32 gk_0 (hR _ rm_0_11) ?_
      refine z_iload1 gi_111_35 ?_
      refine z_aald (r := 38 + 2 * s.toNat) gi_111_36 rfl (by decide) (by omega) (rr_shelf hR (by omega)) ?_
      refine z_callVi (As := [_]) (le := [some _, some _, none, none, none]) gi_111_37 rfl gk_10 (Nat.le_of_ble_eq_true rfl) (Nat.le_of_ble_eq_true rfl) rfl ?_
      refine z_aload1 gi_78_0 ?_
      refine z_callVi (As := []) (le := [some _]) gi_78_1 rfl (zk_shelf (by omega)) (Nat.le_of_ble_eq_true rfl) (Nat.le_of_ble_eq_true rfl) rfl ?_
      refine z_aload0 gi_69_0 ?_
      refine z_getI (v := 0) gi_69_1 (zk_shelf (by omega)) ((zU_n (by omega)).trans (hh)) ?_
      refine z_if_neF gi_69_4 zr_0 (by decide) ?_
      refine z_pushJ gp_69_7 ?_
      refine z_iret gi_69_9 gr_69 ?_
      show zW _ _ _ _ _ _ _ _ _ _
      refine z_istore (ls1 := [some (.ref 10), some (.ref (38 + 2 * s.toNat)), some (zi (-11)), none, none]) gi_78_4 rfl ?_
      refine z_iload2 gi_78_5 ?_
      refine z_if_geF gi_78_6 zrn_11 (by decide) ?_
      refine z_iload2 gi_78_9 ?_
      refine z_iret gi_78_10 gr_78 ?_
      show zW _ _ _ _ _ _ _ _ _ _
      refine z_istore (ls1 := [some (.ref 0), some (zi s), some (zi v), some (zi (-11))]) gi_111_40 rfl ?_
      refine z_iload3 gi_111_41 ?_
      refine z_if_geF gi_111_42 zrn_11 (by decide) ?_
      refine z_iload3 gi_111_45 ?_
      refine z_goto gi_111_46 ?_
      refine z_iret gi_111_56 gr_111 ?_
      refine ⟨_, rfl, ?_⟩
      show zW _ _ _ _ [some (.ref 50), some (zi s), some (zi v)] _ _ _ _ _
      refine z_iload1 gi_200_0 ?_
      refine z_cS1 gi_200_1 (Nat.le_of_ble_eq_true rfl) gc_248_I ?_
      refine z_iload0 gi_248_0 ?_
      refine z_pushJ gp_248_1 ?_
      refine z_pushJ gp_248_2 ?_
      refine z_cS3 gi_248_3 (Nat.le_of_ble_eq_true rfl) gc_148_III ?_
      refine z_iload0 gi_148_0 ?_
      refine z_iload1 gi_148_1 ?_
      refine z_icmp_ltF gi_148_2 (by omega) zr_0 (by omega) ?_
      refine z_iload0 gi_148_5 ?_
      refine z_iload2 gi_148_6 ?_
      refine z_icmp_gtF gi_148_7 (by omega) zr_5 (by omega) ?_
      refine z_pushJ gp_148_10 ?_
      refine z_goto gi_148_11 ?_
      refine z_bret1 gi_148_15 gr_148 ?_
      show zW _ _ _ _ _ _ _ _ _ _
      refine z_bret1 gi_248_6 gr_248 ?_
      show zW _ _ _ _ _ _ _ _ _ _
      refine z_if_eqF gi_200_4 zr_1 (by decide) ?_
      refine z_iload2 gi_200_7 ?_
      refine z_pushJ gp_200_8 ?_
      refine z_pushJ gp_200_9 ?_
      refine z_cS3 gi_200_11 (Nat.le_of_ble_eq_true rfl) gc_148_III ?_
      refine z_iload0 gi_148_0 ?_
      refine z_iload1 gi_148_1 ?_
      refine z_icmp_ltF gi_148_2 (by omega) zr_0 (by omega) ?_
      refine z_iload0 gi_148_5 ?_
      refine z_iload2 gi_148_6 ?_
      refine z_icmp_gtF gi_148_7 (by omega) (by decide) (by omega) ?_
      refine z_pushJ gp_148_10 ?_
      refine z_goto gi_148_11 ?_
      refine z_bret1 gi_148_15 gr_148 ?_
      show zW _ _ _ _ _ _ _ _ _ _
      refine z_if_neT gi_200_14 zr_1 (by decide) ?_
      refine z_aload0 gi_200_19 ?_
      refine z_iload1 gi_200_20 ?_
      refine z_cV1 gi_200_21 gk_50 go_192 (Nat.le_of_ble_eq_true rfl) gc_192_RI ?_
      refine z_aload0 gi_192_0 ?_
      refine z_getR (r := 83) gi_192_1 gk_50 (hRr _ rm_50_58 (by decide)) ?_
      refine z_iload1 gi_192_4 ?_
      refine z_iald (v := (-1)) gi_192_5 gk_83 (by decide) (by omega) ((zU_n (by decide)).trans (e83)) ?_
      refine z_pushJ gp_192_6 ?_
      refine z_icmp_neF gi_192_7 zrn_1 zrn_1 (by decide) ?_
      refine z_pushJ gp_192_10 ?_
      refine z_goto gi_192_12 ?_
      refine z_iret gi_192_32 gr_192 ?_
      show zW _ _ _ _ _ _ _ _ _ _
      refine z_if_geF gi_200_24 zrn_11 (by decide) ?_
      refine z_aload0 gi_200_27 ?_
      refine z_iload1 gi_200_28 ?_
      refine z_cV1 gi_200_29 gk_50 go_192 (Nat.le_of_ble_eq_true rfl) gc_192_RI ?_
      refine z_aload0 gi_192_0 ?_
      refine z_getR (r := 83) gi_192_1 gk_50 (hRr _ rm_50_58 (by decide)) ?_
      refine z_iload1 gi_192_4 ?_
      refine z_iald (v := (-1)) gi_192_5 gk_83 (by decide) (by omega) ((zU_n (by decide)).trans (e83)) ?_
      refine z_pushJ gp_192_6 ?_
      refine z_icmp_neF gi_192_7 zrn_1 zrn_1 (by decide) ?_
      refine z_pushJ gp_192_10 ?_
      refine z_goto gi_192_12 ?_
      refine z_iret gi_192_32 gr_192 ?_
      show zW _ _ _ _ _ _ _ _ _ _
      refine z_iret gi_200_32 gr_200 ?_
      refine ⟨?_, ?_⟩
      · first | rfl | exact congrArg (fun v => some (zi v)) (by omega) | (exfalso; omega)
      · have hk := (zK_x (a := 10) (x := 12) (v := v) (zK_r (k := (kL [] [(10, 12)])) (A := J)) rfl)
        exact ⟨hR, hG, RelY_k hk (by repeat' constructor) (fun p => by repeat' constructor) hY, RelD_k hk (by repeat' constructor) (fun p => by repeat' constructor) hD, RelP_k hk (by repeat' constructor) (fun p => by repeat' constructor) hP, RelC_k hk (by repeat' constructor) (fun p => by repeat' constructor) hC, RelA_k hk (by repeat' constructor) (fun p => by repeat' constructor) hAc, RelS_k hk (zK_r (k := kM)) (fun x j a b => ⟨kL_38 (by decide) (by decide) x j a b, kM_38 x j a b⟩) (fun p => ⟨rfl, rfl, rfl⟩) rfl hS, RelT_k hk (by repeat' constructor) (fun p => by repeat' constructor) hTp, RelX_k hk (by repeat' constructor) (fun p => by repeat' constructor) hX, ⟨(show 0 ≤ v ∧ v ≤ 1000000 from by omega), hW.2⟩⟩
    · refine z_pushJ gp_111_17 ?_
      refine z_iret gi_111_18 gr_111 ?_
      refine ⟨_, rfl, ?_⟩
      show zW _ _ _ _ [some (.ref 50), some (zi s), some (zi v)] _ _ _ _ _
      refine z_iload1 gi_200_0 ?_
      refine z_cS1 gi_200_1 (Nat.le_of_ble_eq_true rfl) gc_248_I ?_
      refine z_iload0 gi_248_0 ?_
      refine z_pushJ gp_248_1 ?_
      refine z_pushJ gp_248_2 ?_
      refine z_cS3 gi_248_3 (Nat.le_of_ble_eq_true rfl) gc_148_III ?_
      refine z_iload0 gi_148_0 ?_
      refine z_iload1 gi_148_1 ?_
      refine z_icmp_ltF gi_148_2 (by omega) zr_0 (by omega) ?_
      refine z_iload0 gi_148_5 ?_
      refine z_iload2 gi_148_6 ?_
      refine z_icmp_gtF gi_148_7 (by omega) zr_5 (by omega) ?_
      refine z_pushJ gp_148_10 ?_
      refine z_goto gi_148_11 ?_
      refine z_bret1 gi_148_15 gr_148 ?_
      show zW _ _ _ _ _ _ _ _ _ _
      refine z_bret1 gi_248_6 gr_248 ?_
      show zW _ _ _ _ _ _ _ _ _ _
      refine z_if_eqF gi_200_4 zr_1 (by decide) ?_
      refine z_iload2 gi_200_7 ?_
      refine z_pushJ gp_200_8 ?_
      refine z_pushJ gp_200_9 ?_
      refine z_cS3 gi_200_11 (Nat.le_of_ble_eq_true rfl) gc_148_III ?_
      refine z_iload0 gi_148_0 ?_
      refine z_iload1 gi_148_1 ?_
      refine z_icmp_ltF gi_148_2 (by omega) zr_0 (by omega) ?_
      refine z_iload0 gi_148_5 ?_
      refine z_iload2 gi_148_6 ?_
      refine z_icmp_gtT gi_148_7 (by omega) (by decide) (by omega) ?_
      refine z_pushJ gp_148_14 ?_
      refine z_bret0 gi_148_15 gr_148 ?_
      show zW _ _ _ _ _ _ _ _ _ _
      refine z_if_neF gi_200_14 zr_0 (by decide) ?_
      refine z_pushJ gp_200_17 ?_
      refine z_iret gi_200_18 gr_200 ?_
      refine ⟨?_, ?_⟩
      · first | rfl | exact congrArg (fun v => some (zi v)) (by omega) | (exfalso; omega)
      · exact hr
theorem st_by_1 {X : Nat × (Nat → Int32)} {d : Nat} {J M : zA} {R : zR} {s v : Int} (hr : Rel X J M R) (hs : -2147483648 ≤ s ∧ s < 2147483648) (hv : -2147483648 ≤ v ∧ v < 2147483648) (hs6 : 0 ≤ s ∧ s < 6) (hh : J (38 + 2 * s.toNat) 0 = 1) : zW X (d + 20) 111 0 (gEn 111 [(.ref 0), (zi s), (zi v)]) [] J M R (stP X (d + 20) 200 [(zi s), (zi v)]) := by
  have hr0 := hr
  obtain ⟨hR, hG, hY, hD, hP, hC, hAc, hS, hTp, hX, hW⟩ := hr0
  have hRr : zRoR R := zRoR_of hR
  have hY0 := hY
  obtain ⟨y1, y2, y3⟩ := hY0
  have yn := zNn y3
  have hA0 := hAc
  obtain ⟨a1, a2, a3, a4, a5, a6⟩ := hA0
  have e83 : J 83 s = J (38 + 2 * s.toNat) 1 := (hS s hs6.1 hs6.2).1.symm.trans (cH_1 hh)
  have s3 : 0 ≤ J (38 + 2 * s.toNat) 2 ∧ J (38 + 2 * s.toNat) 2 ≤ 4 := (hS s hs6.1 hs6.2).2.2.1
  have s4 : 0 ≤ J (38 + 2 * s.toNat) 3 ∧ J (38 + 2 * s.toNat) 3 ≤ 60 := (hS s hs6.1 hs6.2).2.2.2.1
  have s5 : 0 ≤ J (38 + 2 * s.toNat) 1 ∧ J (38 + 2 * s.toNat) 1 < J 34 1 := (hS s hs6.1 hs6.2).2.2.2.2.1 hh
  show zW _ _ _ _ [some (.ref 0), some (zi s), some (zi v), none] _ _ _ _ _
  refine z_iload1 gi_111_0 ?_
  refine z_cS1 gi_111_1 (Nat.le_of_ble_eq_true rfl) gc_143_I ?_
  refine z_iload0 gi_143_0 ?_
  refine z_if_ltF gi_143_1 (by omega) (by omega) ?_
  refine z_iload0 gi_143_4 ?_
  refine z_pushJ gp_143_5 ?_
  refine z_icmp_geF gi_143_7 (by omega) zr_6 (by omega) ?_
  refine z_pushJ gp_143_10 ?_
  refine z_goto gi_143_11 ?_
  refine z_bret1 gi_143_15 gr_143 ?_
  show zW _ _ _ _ _ _ _ _ _ _
  refine z_if_eqF gi_111_4 zr_1 (by decide) ?_
  refine z_iload2 gi_111_7 ?_
  refine z_if_lt gi_111_8 (by omega) (fun h1 => ?_) (fun h1 => ?_)
  · refine z_pushJ gp_111_17 ?_
    refine z_iret gi_111_18 gr_111 ?_
    refine ⟨_, rfl, ?_⟩
    show zW _ _ _ _ [some (.ref 50), some (zi s), some (zi v)] _ _ _ _ _
    refine z_iload1 gi_200_0 ?_
    refine z_cS1 gi_200_1 (Nat.le_of_ble_eq_true rfl) gc_248_I ?_
    refine z_iload0 gi_248_0 ?_
    refine z_pushJ gp_248_1 ?_
    refine z_pushJ gp_248_2 ?_
    refine z_cS3 gi_248_3 (Nat.le_of_ble_eq_true rfl) gc_148_III ?_
    refine z_iload0 gi_148_0 ?_
    refine z_iload1 gi_148_1 ?_
    refine z_icmp_ltF gi_148_2 (by omega) zr_0 (by omega) ?_
    refine z_iload0 gi_148_5 ?_
    refine z_iload2 gi_148_6 ?_
    refine z_icmp_gtF gi_148_7 (by omega) zr_5 (by omega) ?_
    refine z_pushJ gp_148_10 ?_
    refine z_goto gi_148_11 ?_
    refine z_bret1 gi_148_15 gr_148 ?_
    show zW _ _ _ _ _ _ _ _ _ _
    refine z_bret1 gi_248_6 gr_248 ?_
    show zW _ _ _ _ _ _ _ _ _ _
    refine z_if_eqF gi_200_4 zr_1 (by decide) ?_
    refine z_iload2 gi_200_7 ?_
    refine z_pushJ gp_200_8 ?_
    refine z_pushJ gp_200_9 ?_
    refine z_cS3 gi_200_11 (Nat.le_of_ble_eq_true rfl) gc_148_III ?_
    refine z_iload0 gi_148_0 ?_
    refine z_iload1 gi_148_1 ?_
    refine z_icmp_ltT gi_148_2 (by omega) zr_0 (by omega) ?_
    refine z_pushJ gp_148_14 ?_
    refine z_bret0 gi_148_15 gr_148 ?_
    show zW _ _ _ _ _ _ _ _ _ _
    refine z_if_neF gi_200_14 zr_0 (by decide) ?_
    refine z_pushJ gp_200_17 ?_
    refine z_iret gi_200_18 gr_200 ?_
    refine ⟨?_, ?_⟩
    · first | rfl | exact congrArg (fun v => some (zi v)) (by omega) | (exfalso; omega)
    · exact hr
  · refine z_iload2 gi_111_11 ?_
    refine z_pushJ gp_111_12 ?_
    refine z_icmp_le gi_111_14 (by omega) (by decide) (fun h2 => ?_) (fun h2 => ?_)
    · refine z_aload0 gi_111_19 ?_
      refine z_getR (r := 10) gi_111_20 gk_0 (hR _ rm_0_2) ?_
      refine z_iload2 gi_111_23 ?_
      refine z_cV1 gi_111_24 gk_10 go_77 (Nat.le_of_ble_eq_true rfl) gc_77_RI ?_
      refine z_aload0 gi_77_0 ?_
      refine z_iload1 gi_77_1 ?_
      refine z_putI (y := 12) gi_77_2 rfl gk_10 ?_
      refine z_vret gi_77_5 gr_77 ?_
      show zW _ _ _ _ _ _ _ _ _ _
      refine z_aload0 gi_111_27 ?_
      refine z_getR (r := 10) gi_111_28 gk_0 (hR _ rm_0_2) ?_
      refine z_aload0 gi_111_31 ?_
      refine z_getR (r := 37) gi_111_32 gk_0 (hR _ rm_0_11) ?_
      refine z_iload1 gi_111_35 ?_
      refine z_aald (r := 38 + 2 * s.toNat) gi_111_36 rfl (by decide) (by omega) (rr_shelf hR (by omega)) ?_
      refine z_callVi (As := [_]) (le := [some _, some _, none, none, none]) gi_111_37 rfl gk_10 (Nat.le_of_ble_eq_true rfl) (Nat.le_of_ble_eq_true rfl) rfl ?_
      refine z_aload1 gi_78_0 ?_
      refine z_callVi (As := []) (le := [some _]) gi_78_1 rfl (zk_shelf (by omega)) (Nat.le_of_ble_eq_true rfl) (Nat.le_of_ble_eq_true rfl) rfl ?_
      refine z_aload0 gi_69_0 ?_
      refine z_getI (v := 1) gi_69_1 (zk_shelf (by omega)) ((zU_n (by omega)).trans (hh)) ?_
      refine z_if_neT gi_69_4 zr_1 (by decide) ?_
      refine z_aload0 gi_69_10 ?_
      refine z_callVi (As := []) (le := [some _]) gi_69_11 rfl (zk_shelf (by omega)) (Nat.le_of_ble_eq_true rfl) (Nat.le_of_ble_eq_true rfl) rfl ?_
      refine z_aload0 gi_64_0 ?_
      refine z_getI (v := 1) gi_64_1 (zk_shelf (by omega)) ((zU_n (by omega)).trans (hh)) ?_
      refine z_pushJ gp_64_4 ?_
      refine z_icmp_neT gi_64_5 zr_1 zr_2 (by decide) ?_
      refine z_pushJ gp_64_19 ?_
      refine z_bret0 gi_64_20 gr_64 ?_
      show zW _ _ _ _ _ _ _ _ _ _
      refine z_if_eqT gi_69_14 zr_0 (by decide) ?_
      refine z_pushJ gp_69_21 ?_
      refine z_iret gi_69_23 gr_69 ?_
      show zW _ _ _ _ _ _ _ _ _ _
      refine z_istore (ls1 := [some (.ref 10), some (.ref (38 + 2 * s.toNat)), some (zi (-12)), none, none]) gi_78_4 rfl ?_
      refine z_iload2 gi_78_5 ?_
      refine z_if_geF gi_78_6 zrn_12 (by decide) ?_
      refine z_iload2 gi_78_9 ?_
      refine z_iret gi_78_10 gr_78 ?_
      show zW _ _ _ _ _ _ _ _ _ _
      refine z_istore (ls1 := [some (.ref 0), some (zi s), some (zi v), some (zi (-12))]) gi_111_40 rfl ?_
      refine z_iload3 gi_111_41 ?_
      refine z_if_geF gi_111_42 zrn_12 (by decide) ?_
      refine z_iload3 gi_111_45 ?_
      refine z_goto gi_111_46 ?_
      refine z_iret gi_111_56 gr_111 ?_
      refine ⟨_, rfl, ?_⟩
      show zW _ _ _ _ [some (.ref 50), some (zi s), some (zi v)] _ _ _ _ _
      refine z_iload1 gi_200_0 ?_
      refine z_cS1 gi_200_1 (Nat.le_of_ble_eq_true rfl) gc_248_I ?_
      refine z_iload0 gi_248_0 ?_
      refine z_pushJ gp_248_1 ?_
      refine z_pushJ gp_248_2 ?_
      refine z_cS3 gi_248_3 (Nat.le_of_ble_eq_true rfl) gc_148_III ?_
      refine z_iload0 gi_148_0 ?_
      refine z_iload1 gi_148_1 ?_
      refine z_icmp_ltF gi_148_2 (by omega) zr_0 (by omega) ?_
      refine z_iload0 gi_148_5 ?_
      refine z_iload2 gi_148_6 ?_
      refine z_icmp_gtF gi_148_7 (by omega) zr_5 (by omega) ?_
      refine z_pushJ gp_148_10 ?_
      refine z_goto gi_148_11 ?_
      refine z_bret1 gi_148_15 gr_148 ?_
      show zW _ _ _ _ _ _ _ _ _ _
      refine z_bret1 gi_248_6 gr_248 ?_
      show zW _ _ _ _ _ _ _ _ _ _
      refine z_if_eqF gi_200_4 zr_1 (by decide) ?_
      refine z_iload2 gi_200_7 ?_
      refine z_pushJ gp_200_8 ?_
      refine z_pushJ gp_200_9 ?_
      refine z_cS3 gi_200_11 (Nat.le_of_ble_eq_true rfl) gc_148_III ?_
      refine z_iload0 gi_148_0 ?_
      refine z_iload1 gi_148_1 ?_
      refine z_icmp_ltF gi_148_2 (by omega) zr_0 (by omega) ?_
      refine z_iload0 gi_148_5 ?_
      refine z_iload2 gi_148_6 ?_
      refine z_icmp_gtF gi_148_7 (by omega) (by decide) (by omega) ?_
      refine z_pushJ gp_148_10 ?_
      refine z_goto gi_148_11 ?_
      refine z_bret1 gi_148_15 gr_148 ?_
      show zW _ _ _ _ _ _ _ _ _ _
      refine z_if_neT gi_200_14 zr_1 (by decide) ?_
      refine z_aload0 gi_200_19 ?_
      refine z_iload1 gi_200_20 ?_
      refine z_cV1 gi_200_21 gk_50 go_192 (Nat.le_of_ble_eq_true rfl) gc_192_RI ?_
      refine z_aload0 gi_192_0 ?_
      refine z_getR (r := 83) gi_192_1 gk_50 (hRr _ rm_50_58 (by decide)) ?_
      refine z_iload1 gi_192_4 ?_
      refine z_iald (v := J (38 + 2 * s.toNat) 1) gi_192_5 gk_83 (by decide) (by omega) ((zU_n (by decide)).trans (e83)) ?_
      refine z_pushJ gp_192_6 ?_
      refine z_icmp_ne gi_192_7 (by omega) zrn_1 (fun h3 => ?_) (fun h3 => ?_)
      · refine z_aload0 gi_192_15 ?_
        refine z_getR (r := 83) gi_192_16 gk_50 (hRr _ rm_50_58 (by decide)) ?_
        refine z_iload1 gi_192_19 ?_
        refine z_iald (v := J (38 + 2 * s.toNat) 1) gi_192_20 gk_83 (by decide) (by omega) ((zU_n (by decide)).trans (e83)) ?_
        refine z_pushJ gp_192_21 ?_
        refine z_icmp_ne gi_192_23 (by omega) zrn_2 (fun h4 => ?_) (fun h4 => ?_)
        · refine z_pushJ gp_192_30 ?_
          refine z_iret gi_192_32 gr_192 ?_
          show zW _ _ _ _ _ _ _ _ _ _
          refine z_if_geF gi_200_24 zrn_12 (by decide) ?_
          refine z_aload0 gi_200_27 ?_
          refine z_iload1 gi_200_28 ?_
          refine z_cV1 gi_200_29 gk_50 go_192 (Nat.le_of_ble_eq_true rfl) gc_192_RI ?_
          refine z_aload0 gi_192_0 ?_
          refine z_getR (r := 83) gi_192_1 gk_50 (hRr _ rm_50_58 (by decide)) ?_
          refine z_iload1 gi_192_4 ?_
          refine z_iald (v := J (38 + 2 * s.toNat) 1) gi_192_5 gk_83 (by decide) (by omega) ((zU_n (by decide)).trans (e83)) ?_
          refine z_pushJ gp_192_6 ?_
          refine z_icmp_ne gi_192_7 (by omega) zrn_1 (fun h5 => ?_) (fun h5 => ?_)
          · refine z_aload0 gi_192_15 ?_
            refine z_getR (r := 83) gi_192_16 gk_50 (hRr _ rm_50_58 (by decide)) ?_
            refine z_iload1 gi_192_19 ?_
            refine z_iald (v := J (38 + 2 * s.toNat) 1) gi_192_20 gk_83 (by decide) (by omega) ((zU_n (by decide)).trans (e83)) ?_
            refine z_pushJ gp_192_21 ?_
            refine z_icmp_ne gi_192_23 (by omega) zrn_2 (fun h6 => ?_) (fun h6 => ?_)
            · refine z_pushJ gp_192_30 ?_
              refine z_iret gi_192_32 gr_192 ?_
              show zW _ _ _ _ _ _ _ _ _ _
              refine z_iret gi_200_32 gr_200 ?_
              refine ⟨?_, ?_⟩
              · first | rfl | exact congrArg (fun v => some (zi v)) (by omega) | (exfalso; omega)
              · have hk := (zK_x (a := 10) (x := 12) (v := v) (zK_r (k := (kL [] [(10, 12)])) (A := J)) rfl)
                exact ⟨hR, hG, RelY_k hk (by repeat' constructor) (fun p => by repeat' constructor) hY, RelD_k hk (by repeat' constructor) (fun p => by repeat' constructor) hD, RelP_k hk (by repeat' constructor) (fun p => by repeat' constructor) hP, RelC_k hk (by repeat' constructor) (fun p => by repeat' constructor) hC, RelA_k hk (by repeat' constructor) (fun p => by repeat' constructor) hAc, RelS_k hk (zK_r (k := kM)) (fun x j a b => ⟨kL_38 (by decide) (by decide) x j a b, kM_38 x j a b⟩) (fun p => ⟨rfl, rfl, rfl⟩) rfl hS, RelT_k hk (by repeat' constructor) (fun p => by repeat' constructor) hTp, RelX_k hk (by repeat' constructor) (fun p => by repeat' constructor) hX, ⟨(show 0 ≤ v ∧ v ≤ 1000000 from by omega), hW.2⟩⟩
            · refine z_pushJ gp_192_26 ?_
              refine z_goto gi_192_27 ?_
              refine z_iret gi_192_32 gr_192 ?_
              show zW _ _ _ _ _ _ _ _ _ _
              refine z_iret gi_200_32 gr_200 ?_
              refine ⟨?_, ?_⟩
              · first | rfl | exact congrArg (fun v => some (zi v)) (by omega) | (exfalso; omega)
              · have hk := (zK_x (a := 10) (x := 12) (v := v) (zK_r (k := (kL [] [(10, 12)])) (A := J)) rfl)
                exact ⟨hR, hG, RelY_k hk (by repeat' constructor) (fun p => by repeat' constructor) hY, RelD_k hk (by repeat' constructor) (fun p => by repeat' constructor) hD, RelP_k hk (by repeat' constructor) (fun p => by repeat' constructor) hP, RelC_k hk (by repeat' constructor) (fun p => by repeat' constructor) hC, RelA_k hk (by repeat' constructor) (fun p => by repeat' constructor) hAc, RelS_k hk (zK_r (k := kM)) (fun x j a b => ⟨kL_38 (by decide) (by decide) x j a b, kM_38 x j a b⟩) (fun p => ⟨rfl, rfl, rfl⟩) rfl hS, RelT_k hk (by repeat' constructor) (fun p => by repeat' constructor) hTp, RelX_k hk (by repeat' constructor) (fun p => by repeat' constructor) hX, ⟨(show 0 ≤ v ∧ v ≤ 1000000 from by omega), hW.2⟩⟩
          · refine z_pushJ gp_192_10 ?_
            refine z_goto gi_192_12 ?_
            refine z_iret gi_192_32 gr_192 ?_
            show zW _ _ _ _ _ _ _ _ _ _
            refine z_iret gi_200_32 gr_200 ?_
            refine ⟨?_, ?_⟩
            · first | rfl | exact congrArg (fun v => some (zi v)) (by omega) | (exfalso; omega)
            · have hk := (zK_x (a := 10) (x := 12) (v := v) (zK_r (k := (kL [] [(10, 12)])) (A := J)) rfl)
              exact ⟨hR, hG, RelY_k hk (by repeat' constructor) (fun p => by repeat' constructor) hY, RelD_k hk (by repeat' constructor) (fun p => by repeat' constructor) hD, RelP_k hk (by repeat' constructor) (fun p => by repeat' constructor) hP, RelC_k hk (by repeat' constructor) (fun p => by repeat' constructor) hC, RelA_k hk (by repeat' constructor) (fun p => by repeat' constructor) hAc, RelS_k hk (zK_r (k := kM)) (fun x j a b => ⟨kL_38 (by decide) (by decide) x j a b, kM_38 x j a b⟩) (fun p => ⟨rfl, rfl, rfl⟩) rfl hS, RelT_k hk (by repeat' constructor) (fun p => by repeat' constructor) hTp, RelX_k hk (by repeat' constructor) (fun p => by repeat' constructor) hX, ⟨(show 0 ≤ v ∧ v ≤ 1000000 from by omega), hW.2⟩⟩
        · refine z_pushJ gp_192_26 ?_
          refine z_goto gi_192_27 ?_
          refine z_iret gi_192_32 gr_192 ?_
          show zW _ _ _ _ _ _ _ _ _ _
          refine z_if_geT gi_200_24 zr_0 (by decide) ?_
          refine z_aload0 gi_200_33 ?_
          refine z_iload2 gi_200_34 ?_
          refine z_putI (y := 35) gi_200_35 rfl gk_50 ?_
          refine z_aload0 gi_200_38 ?_
          refine z_iload1 gi_200_39 ?_
          refine z_pushJ gp_200_40 ?_
          exfalso
          omega
      · refine z_pushJ gp_192_10 ?_
        refine z_goto gi_192_12 ?_
        refine z_iret gi_192_32 gr_192 ?_
        show zW _ _ _ _ _ _ _ _ _ _
        refine z_if_geF gi_200_24 zrn_11 (by decide) ?_
        refine z_aload0 gi_200_27 ?_
        refine z_iload1 gi_200_28 ?_
        refine z_cV1 gi_200_29 gk_50 go_192 (Nat.le_of_ble_eq_true rfl) gc_192_RI ?_
        refine z_aload0 gi_192_0 ?_
        refine z_getR (r := 83) gi_192_1 gk_50 (hRr _ rm_50_58 (by decide)) ?_
        refine z_iload1 gi_192_4 ?_
        refine z_iald (v := J (38 + 2 * s.toNat) 1) gi_192_5 gk_83 (by decide) (by omega) ((zU_n (by decide)).trans (e83)) ?_
        refine z_pushJ gp_192_6 ?_
        refine z_icmp_neF gi_192_7 (by omega) zrn_1 (by omega) ?_
        refine z_pushJ gp_192_10 ?_
        refine z_goto gi_192_12 ?_
        refine z_iret gi_192_32 gr_192 ?_
        show zW _ _ _ _ _ _ _ _ _ _
        refine z_iret gi_200_32 gr_200 ?_
        refine ⟨?_, ?_⟩
        · first | rfl | exact congrArg (fun v => some (zi v)) (by omega) | (exfalso; omega)
        · have hk := (zK_x (a := 10) (x := 12) (v := v) (zK_r (k := (kL [] [(10, 12)])) (A := J)) rfl)
          exact ⟨hR, hG, RelY_k hk (by repeat' constructor) (fun p => by repeat' constructor) hY, RelD_k hk (by repeat' constructor) (fun p => by repeat' constructor) hD, RelP_k hk (by repeat' constructor) (fun p => by repeat' constructor) hP, RelC_k hk (by repeat' constructor) (fun p => by repeat' constructor) hC, RelA_k hk (by repeat' constructor) (fun p => by repeat' constructor) hAc, RelS_k hk (zK_r (k := kM)) (fun x j a b => ⟨kL_38 (by decide) (by decide) x j a b, kM_38 x j a b⟩) (fun p => ⟨rfl, rfl, rfl⟩) rfl hS, RelT_k hk (by repeat' constructor) (fun p => by repeat' constructor) hTp, RelX_k hk (by repeat' constructor) (fun p => by repeat' constructor) hX, ⟨(show 0 ≤ v ∧ v ≤ 1000000 from by omega), hW.2⟩⟩
    · refine z_pushJ gp_111_17 ?_
      refine z_iret gi_111_18 gr_111 ?_
      refine ⟨_, rfl, ?_⟩
      show zW _ _ _ _ [some (.ref 50), some (zi s), some (zi v)] _ _ _ _ _
      refine z_iload1 gi_200_0 ?_
      refine z_cS1 gi_200_1 (Nat.le_of_ble_eq_true rfl) gc_248_I ?_
      refine z_iload0 gi_248_0 ?_
      refine z_pushJ gp_248_1 ?_
      refine z_pushJ gp_248_2 ?_
      refine z_cS3 gi_248_3 (Nat.le_of_ble_eq_true rfl) gc_148_III ?_
      refine z_iload0 gi_148_0 ?_
      refine z_iload1 gi_148_1 ?_
      refine z_icmp_ltF gi_148_2 (by omega) zr_0 (by omega) ?_
      refine z_iload0 gi_148_5 ?_
      refine z_iload2 gi_148_6 ?_
      refine z_icmp_gtF gi_148_7 (by omega) zr_5 (by omega) ?_
      refine z_pushJ gp_148_10 ?_
      refine z_goto gi_148_11 ?_
      refine z_bret1 gi_148_15 gr_148 ?_
      show zW _ _ _ _ _ _ _ _ _ _
      refine z_bret1 gi_248_6 gr_248 ?_
      show zW _ _ _ _ _ _ _ _ _ _
      refine z_if_eqF gi_200_4 zr_1 (by decide) ?_
      refine z_iload2 gi_200_7 ?_
      refine z_pushJ gp_200_8 ?_
      refine z_pushJ gp_200_9 ?_
      refine z_cS3 gi_200_11 (Nat.le_of_ble_eq_true rfl) gc_148_III ?_
      refine z_iload0 gi_148_0 ?_
      refine z_iload1 gi_148_1 ?_
      refine z_icmp_ltF gi_148_2 (by omega) zr_0 (by omega) ?_
      refine z_iload0 gi_148_5 ?_
      refine z_iload2 gi_148_6 ?_
      refine z_icmp_gtT gi_148_7 (by omega) (by decide) (by omega) ?_
      refine z_pushJ gp_148_14 ?_
      refine z_bret0 gi_148_15 gr_148 ?_
      show zW _ _ _ _ _ _ _ _ _ _
      refine z_if_neF gi_200_14 zr_0 (by decide) ?_
      refine z_pushJ gp_200_17 ?_
      refine z_iret gi_200_18 gr_200 ?_
      refine ⟨?_, ?_⟩
      · first | rfl | exact congrArg (fun v => some (zi v)) (by omega) | (exfalso; omega)
      · exact hr
theorem st_by_2 {X : Nat × (Nat → Int32)} {d : Nat} {J M : zA} {R : zR} {s v : Int} (hr : Rel X J M R) (hs : -2147483648 ≤ s ∧ s < 2147483648) (hv : -2147483648 ≤ v ∧ v < 2147483648) (hs6 : 0 ≤ s ∧ s < 6) (hh : J (38 + 2 * s.toNat) 0 = 2) (hso : ¬ J (38 + 2 * s.toNat) 2 = 0) : zW X (d + 20) 111 0 (gEn 111 [(.ref 0), (zi s), (zi v)]) [] J M R (stP X (d + 20) 200 [(zi s), (zi v)]) := by
  have hr0 := hr
  obtain ⟨hR, hG, hY, hD, hP, hC, hAc, hS, hTp, hX, hW⟩ := hr0
  have hRr : zRoR R := zRoR_of hR
  have hY0 := hY
  obtain ⟨y1, y2, y3⟩ := hY0
  have yn := zNn y3
  have hA0 := hAc
  obtain ⟨a1, a2, a3, a4, a5, a6⟩ := hA0
  have e83 : J 83 s = -2 - J (38 + 2 * s.toNat) 2 := (hS s hs6.1 hs6.2).1.symm.trans (cH_2 hh)
  have s3 : 0 ≤ J (38 + 2 * s.toNat) 2 ∧ J (38 + 2 * s.toNat) 2 ≤ 4 := (hS s hs6.1 hs6.2).2.2.1
  have s4 : 0 ≤ J (38 + 2 * s.toNat) 3 ∧ J (38 + 2 * s.toNat) 3 ≤ 60 := (hS s hs6.1 hs6.2).2.2.2.1
  have s6 := (hS s hs6.1 hs6.2).2.2.2.2.2 hh
  have s7 : J 84 s = J (38 + 2 * s.toNat) 3 := s6.1.symm
  have s8 : ∀ i, 0 ≤ i → i < J (38 + 2 * s.toNat) 3 → M (39 + 2 * s.toNat) i = M 85 (60 * s + i) := s6.2.1
  show zW _ _ _ _ [some (.ref 0), some (zi s), some (zi v), none] _ _ _ _ _
  refine z_iload1 gi_111_0 ?_
  refine z_cS1 gi_111_1 (Nat.le_of_ble_eq_true rfl) gc_143_I ?_
  refine z_iload0 gi_143_0 ?_
  refine z_if_ltF gi_143_1 (by omega) (by omega) ?_
  refine z_iload0 gi_143_4 ?_
  refine z_pushJ gp_143_5 ?_
  refine z_icmp_geF gi_143_7 (by omega) zr_6 (by omega) ?_
  refine z_pushJ gp_143_10 ?_
  refine z_goto gi_143_11 ?_
  refine z_bret1 gi_143_15 gr_143 ?_
  show zW _ _ _ _ _ _ _ _ _ _
  refine z_if_eqF gi_111_4 zr_1 (by decide) ?_
  refine z_iload2 gi_111_7 ?_
  refine z_if_lt gi_111_8 (by omega) (fun h1 => ?_) (fun h1 => ?_)
  · refine z_pushJ gp_111_17 ?_
    refine z_iret gi_111_18 gr_111 ?_
    refine ⟨_, rfl, ?_⟩
    show zW _ _ _ _ [some (.ref 50), some (zi s), some (zi v)] _ _ _ _ _
    refine z_iload1 gi_200_0 ?_
    refine z_cS1 gi_200_1 (Nat.le_of_ble_eq_true rfl) gc_248_I ?_
    refine z_iload0 gi_248_0 ?_
    refine z_pushJ gp_248_1 ?_
    refine z_pushJ gp_248_2 ?_
    refine z_cS3 gi_248_3 (Nat.le_of_ble_eq_true rfl) gc_148_III ?_
    refine z_iload0 gi_148_0 ?_
    refine z_iload1 gi_148_1 ?_
    refine z_icmp_ltF gi_148_2 (by omega) zr_0 (by omega) ?_
    refine z_iload0 gi_148_5 ?_
    refine z_iload2 gi_148_6 ?_
    refine z_icmp_gtF gi_148_7 (by omega) zr_5 (by omega) ?_
    refine z_pushJ gp_148_10 ?_
    refine z_goto gi_148_11 ?_
    refine z_bret1 gi_148_15 gr_148 ?_
    show zW _ _ _ _ _ _ _ _ _ _
    refine z_bret1 gi_248_6 gr_248 ?_
    show zW _ _ _ _ _ _ _ _ _ _
    refine z_if_eqF gi_200_4 zr_1 (by decide) ?_
    refine z_iload2 gi_200_7 ?_
    refine z_pushJ gp_200_8 ?_
    refine z_pushJ gp_200_9 ?_
    refine z_cS3 gi_200_11 (Nat.le_of_ble_eq_true rfl) gc_148_III ?_
    refine z_iload0 gi_148_0 ?_
    refine z_iload1 gi_148_1 ?_
    refine z_icmp_ltT gi_148_2 (by omega) zr_0 (by omega) ?_
    refine z_pushJ gp_148_14 ?_
    refine z_bret0 gi_148_15 gr_148 ?_
    show zW _ _ _ _ _ _ _ _ _ _
    refine z_if_neF gi_200_14 zr_0 (by decide) ?_
    refine z_pushJ gp_200_17 ?_
    refine z_iret gi_200_18 gr_200 ?_
    refine ⟨?_, ?_⟩
    · first | rfl | exact congrArg (fun v => some (zi v)) (by omega) | (exfalso; omega)
    · exact hr
  · refine z_iload2 gi_111_11 ?_
    refine z_pushJ gp_111_12 ?_
    refine z_icmp_le gi_111_14 (by omega) (by decide) (fun h2 => ?_) (fun h2 => ?_)
    · refine z_aload0 gi_111_19 ?_
      refine z_getR (r := 10) gi_111_20 gk_0 (hR _ rm_0_2) ?_
      refine z_iload2 gi_111_23 ?_
      refine z_cV1 gi_111_24 gk_10 go_77 (Nat.le_of_ble_eq_true rfl) gc_77_RI ?_
      refine z_aload0 gi_77_0 ?_
      refine z_iload1 gi_77_1 ?_
      refine z_putI (y := 12) gi_77_2 rfl gk_10 ?_
      refine z_vret gi_77_5 gr_77 ?_
      show zW _ _ _ _ _ _ _ _ _ _
      refine z_aload0 gi_111_27 ?_
      refine z_getR (r := 10) gi_111_28 gk_0 (hR _ rm_0_2) ?_
      refine z_aload0 gi_111_31 ?_
      refine z_getR (r := 37) gi_111_32 gk_0 (hR _ rm_0_11) ?_
      refine z_iload1 gi_111_35 ?_
      refine z_aald (r := 38 + 2 * s.toNat) gi_111_36 rfl (by decide) (by omega) (rr_shelf hR (by omega)) ?_
      refine z_callVi (As := [_]) (le := [some _, some _, none, none, none]) gi_111_37 rfl gk_10 (Nat.le_of_ble_eq_true rfl) (Nat.le_of_ble_eq_true rfl) rfl ?_
      refine z_aload1 gi_78_0 ?_
      refine z_callVi (As := []) (le := [some _]) gi_78_1 rfl (zk_shelf (by omega)) (Nat.le_of_ble_eq_true rfl) (Nat.le_of_ble_eq_true rfl) rfl ?_
      refine z_aload0 gi_69_0 ?_
      refine z_getI (v := 2) gi_69_1 (zk_shelf (by omega)) ((zU_n (by omega)).trans (hh)) ?_
      refine z_if_neT gi_69_4 zr_2 (by decide) ?_
      refine z_aload0 gi_69_10 ?_
      refine z_callVi (As := []) (le := [some _]) gi_69_11 rfl (zk_shelf (by omega)) (Nat.le_of_ble_eq_true rfl) (Nat.le_of_ble_eq_true rfl) rfl ?_
      refine z_aload0 gi_64_0 ?_
      refine z_getI (v := 2) gi_64_1 (zk_shelf (by omega)) ((zU_n (by omega)).trans (hh)) ?_
      refine z_pushJ gp_64_4 ?_
      refine z_icmp_neF gi_64_5 zr_2 zr_2 (by decide) ?_
      refine z_aload0 gi_64_8 ?_
      refine z_getI (v := J (38 + 2 * s.toNat) 2) gi_64_9 (zk_shelf (by omega)) ((zU_n (by omega)).trans (rfl)) ?_
      refine z_if_neT gi_64_12 (by omega) (by omega) ?_
      refine z_pushJ gp_64_19 ?_
      refine z_bret0 gi_64_20 gr_64 ?_
      show zW _ _ _ _ _ _ _ _ _ _
      refine z_if_eqT gi_69_14 zr_0 (by decide) ?_
      refine z_pushJ gp_69_21 ?_
      refine z_iret gi_69_23 gr_69 ?_
      show zW _ _ _ _ _ _ _ _ _ _
      refine z_istore (ls1 := [some (.ref 10), some (.ref (38 + 2 * s.toNat)), some (zi (-12)), none, none]) gi_78_4 rfl ?_
      refine z_iload2 gi_78_5 ?_
      refine z_if_geF gi_78_6 zrn_12 (by decide) ?_
      refine z_iload2 gi_78_9 ?_
      refine z_iret gi_78_10 gr_78 ?_
      show zW _ _ _ _ _ _ _ _ _ _
      refine z_istore (ls1 := [some (.ref 0), some (zi s), some (zi v), some (zi (-12))]) gi_111_40 rfl ?_
      refine z_iload3 gi_111_41 ?_
      refine z_if_geF gi_111_42 zrn_12 (by decide) ?_
      refine z_iload3 gi_111_45 ?_
      refine z_goto gi_111_46 ?_
      refine z_iret gi_111_56 gr_111 ?_
      refine ⟨_, rfl, ?_⟩
      show zW _ _ _ _ [some (.ref 50), some (zi s), some (zi v)] _ _ _ _ _
      refine z_iload1 gi_200_0 ?_
      refine z_cS1 gi_200_1 (Nat.le_of_ble_eq_true rfl) gc_248_I ?_
      refine z_iload0 gi_248_0 ?_
      refine z_pushJ gp_248_1 ?_
      refine z_pushJ gp_248_2 ?_
      refine z_cS3 gi_248_3 (Nat.le_of_ble_eq_true rfl) gc_148_III ?_
      refine z_iload0 gi_148_0 ?_
      refine z_iload1 gi_148_1 ?_
      refine z_icmp_ltF gi_148_2 (by omega) zr_0 (by omega) ?_
      refine z_iload0 gi_148_5 ?_
      refine z_iload2 gi_148_6 ?_
      refine z_icmp_gtF gi_148_7 (by omega) zr_5 (by omega) ?_
      refine z_pushJ gp_148_10 ?_
      refine z_goto gi_148_11 ?_
      refine z_bret1 gi_148_15 gr_148 ?_
      show zW _ _ _ _ _ _ _ _ _ _
      refine z_bret1 gi_248_6 gr_248 ?_
      show zW _ _ _ _ _ _ _ _ _ _
      refine z_if_eqF gi_200_4 zr_1 (by decide) ?_
      refine z_iload2 gi_200_7 ?_
      refine z_pushJ gp_200_8 ?_
      refine z_pushJ gp_200_9 ?_
      refine z_cS3 gi_200_11 (Nat.le_of_ble_eq_true rfl) gc_148_III ?_
      refine z_iload0 gi_148_0 ?_
      refine z_iload1 gi_148_1 ?_
      refine z_icmp_ltF gi_148_2 (by omega) zr_0 (by omega) ?_
      refine z_iload0 gi_148_5 ?_
      refine z_iload2 gi_148_6 ?_
      refine z_icmp_gtF gi_148_7 (by omega) (by decide) (by omega) ?_
      refine z_pushJ gp_148_10 ?_
      refine z_goto gi_148_11 ?_
      refine z_bret1 gi_148_15 gr_148 ?_
      show zW _ _ _ _ _ _ _ _ _ _
      refine z_if_neT gi_200_14 zr_1 (by decide) ?_
      refine z_aload0 gi_200_19 ?_
      refine z_iload1 gi_200_20 ?_
      refine z_cV1 gi_200_21 gk_50 go_192 (Nat.le_of_ble_eq_true rfl) gc_192_RI ?_
      refine z_aload0 gi_192_0 ?_
      refine z_getR (r := 83) gi_192_1 gk_50 (hRr _ rm_50_58 (by decide)) ?_
      refine z_iload1 gi_192_4 ?_
      refine z_iald (v := (-2) - (J (38 + 2 * s.toNat) 2)) gi_192_5 gk_83 (by decide) (by omega) ((zU_n (by decide)).trans (e83)) ?_
      refine z_pushJ gp_192_6 ?_
      refine z_icmp_neT gi_192_7 (by omega) zrn_1 (by omega) ?_
      refine z_aload0 gi_192_15 ?_
      refine z_getR (r := 83) gi_192_16 gk_50 (hRr _ rm_50_58 (by decide)) ?_
      refine z_iload1 gi_192_19 ?_
      refine z_iald (v := (-2) - (J (38 + 2 * s.toNat) 2)) gi_192_20 gk_83 (by decide) (by omega) ((zU_n (by decide)).trans (e83)) ?_
      refine z_pushJ gp_192_21 ?_
      refine z_icmp_neT gi_192_23 (by omega) zrn_2 (by omega) ?_
      refine z_pushJ gp_192_30 ?_
      refine z_iret gi_192_32 gr_192 ?_
      show zW _ _ _ _ _ _ _ _ _ _
      refine z_if_geF gi_200_24 zrn_12 (by decide) ?_
      refine z_aload0 gi_200_27 ?_
      refine z_iload1 gi_200_28 ?_
      refine z_cV1 gi_200_29 gk_50 go_192 (Nat.le_of_ble_eq_true rfl) gc_192_RI ?_
      refine z_aload0 gi_192_0 ?_
      refine z_getR (r := 83) gi_192_1 gk_50 (hRr _ rm_50_58 (by decide)) ?_
      refine z_iload1 gi_192_4 ?_
      refine z_iald (v := (-2) - (J (38 + 2 * s.toNat) 2)) gi_192_5 gk_83 (by decide) (by omega) ((zU_n (by decide)).trans (e83)) ?_
      refine z_pushJ gp_192_6 ?_
      refine z_icmp_neT gi_192_7 (by omega) zrn_1 (by omega) ?_
      refine z_aload0 gi_192_15 ?_
      refine z_getR (r := 83) gi_192_16 gk_50 (hRr _ rm_50_58 (by decide)) ?_
      refine z_iload1 gi_192_19 ?_
      refine z_iald (v := (-2) - (J (38 + 2 * s.toNat) 2)) gi_192_20 gk_83 (by decide) (by omega) ((zU_n (by decide)).trans (e83)) ?_
      refine z_pushJ gp_192_21 ?_
      refine z_icmp_neT gi_192_23 (by omega) zrn_2 (by omega) ?_
      refine z_pushJ gp_192_30 ?_
      refine z_iret gi_192_32 gr_192 ?_
      show zW _ _ _ _ _ _ _ _ _ _
      refine z_iret gi_200_32 gr_200 ?_
      refine ⟨?_, ?_⟩
      · first | rfl | exact congrArg (fun v => some (zi v)) (by omega) | (exfalso; omega)
      · have hk := (zK_x (a := 10) (x := 12) (v := v) (zK_r (k := (kL [] [(10, 12)])) (A := J)) rfl)
        exact ⟨hR, hG, RelY_k hk (by repeat' constructor) (fun p => by repeat' constructor) hY, RelD_k hk (by repeat' constructor) (fun p => by repeat' constructor) hD, RelP_k hk (by repeat' constructor) (fun p => by repeat' constructor) hP, RelC_k hk (by repeat' constructor) (fun p => by repeat' constructor) hC, RelA_k hk (by repeat' constructor) (fun p => by repeat' constructor) hAc, RelS_k hk (zK_r (k := kM)) (fun x j a b => ⟨kL_38 (by decide) (by decide) x j a b, kM_38 x j a b⟩) (fun p => ⟨rfl, rfl, rfl⟩) rfl hS, RelT_k hk (by repeat' constructor) (fun p => by repeat' constructor) hTp, RelX_k hk (by repeat' constructor) (fun p => by repeat' constructor) hX, ⟨(show 0 ≤ v ∧ v ≤ 1000000 from by omega), hW.2⟩⟩
    · refine z_pushJ gp_111_17 ?_
      refine z_iret gi_111_18 gr_111 ?_
      refine ⟨_, rfl, ?_⟩
      show zW _ _ _ _ [some (.ref 50), some (zi s), some (zi v)] _ _ _ _ _
      refine z_iload1 gi_200_0 ?_
      refine z_cS1 gi_200_1 (Nat.le_of_ble_eq_true rfl) gc_248_I ?_
      refine z_iload0 gi_248_0 ?_
      refine z_pushJ gp_248_1 ?_
      refine z_pushJ gp_248_2 ?_
      refine z_cS3 gi_248_3 (Nat.le_of_ble_eq_true rfl) gc_148_III ?_
      refine z_iload0 gi_148_0 ?_
      refine z_iload1 gi_148_1 ?_
      refine z_icmp_ltF gi_148_2 (by omega) zr_0 (by omega) ?_
      refine z_iload0 gi_148_5 ?_
      refine z_iload2 gi_148_6 ?_
      refine z_icmp_gtF gi_148_7 (by omega) zr_5 (by omega) ?_
      refine z_pushJ gp_148_10 ?_
      refine z_goto gi_148_11 ?_
      refine z_bret1 gi_148_15 gr_148 ?_
      show zW _ _ _ _ _ _ _ _ _ _
      refine z_bret1 gi_248_6 gr_248 ?_
      show zW _ _ _ _ _ _ _ _ _ _
      refine z_if_eqF gi_200_4 zr_1 (by decide) ?_
      refine z_iload2 gi_200_7 ?_
      refine z_pushJ gp_200_8 ?_
      refine z_pushJ gp_200_9 ?_
      refine z_cS3 gi_200_11 (Nat.le_of_ble_eq_true rfl) gc_148_III ?_
      refine z_iload0 gi_148_0 ?_
      refine z_iload1 gi_148_1 ?_
      refine z_icmp_ltF gi_148_2 (by omega) zr_0 (by omega) ?_
      refine z_iload0 gi_148_5 ?_
      refine z_iload2 gi_148_6 ?_
      refine z_icmp_gtT gi_148_7 (by omega) (by decide) (by omega) ?_
      refine z_pushJ gp_148_14 ?_
      refine z_bret0 gi_148_15 gr_148 ?_
      show zW _ _ _ _ _ _ _ _ _ _
      refine z_if_neF gi_200_14 zr_0 (by decide) ?_
      refine z_pushJ gp_200_17 ?_
      refine z_iret gi_200_18 gr_200 ?_
      refine ⟨?_, ?_⟩
      · first | rfl | exact congrArg (fun v => some (zi v)) (by omega) | (exfalso; omega)
      · exact hr
theorem st_by_m {X : Nat × (Nat → Int32)} {d : Nat} {J M : zA} {R : zR} {s v : Int} (hr : Rel X J M R) (hs : -2147483648 ≤ s ∧ s < 2147483648) (hv : -2147483648 ≤ v ∧ v < 2147483648) (hs6 : 0 ≤ s ∧ s < 6) (hh : J (38 + 2 * s.toNat) 0 = 2) (hso : J (38 + 2 * s.toNat) 2 = 0) : zW X (d + 20) 111 0 (gEn 111 [(.ref 0), (zi s), (zi v)]) [] J M R (stP X (d + 20) 200 [(zi s), (zi v)]) := by
  have hr0 := hr
  obtain ⟨hR, hG, hY, hD, hP, hC, hAc, hS, hTp, hX, hW⟩ := hr0
  have hRr : zRoR R := zRoR_of hR
  have hY0 := hY
  obtain ⟨y1, y2, y3⟩ := hY0
  have yn := zNn y3
  have e83 : J 83 s = -2 - J (38 + 2 * s.toNat) 2 := (hS s hs6.1 hs6.2).1.symm.trans (cH_2 hh)
  have s3 : 0 ≤ J (38 + 2 * s.toNat) 2 ∧ J (38 + 2 * s.toNat) 2 ≤ 4 := (hS s hs6.1 hs6.2).2.2.1
  have s4 : 0 ≤ J (38 + 2 * s.toNat) 3 ∧ J (38 + 2 * s.toNat) 3 ≤ 60 := (hS s hs6.1 hs6.2).2.2.2.1
  have s6 := (hS s hs6.1 hs6.2).2.2.2.2.2 hh
  have s7 : J 84 s = J (38 + 2 * s.toNat) 3 := s6.1.symm
  have s8 : ∀ i, 0 ≤ i → i < J (38 + 2 * s.toNat) 3 → M (39 + 2 * s.toNat) i = M 85 (60 * s + i) := s6.2.1
  have e83n : J 83 s = -2 := e83.trans (by omega)
  have hbr := s6.2.2 hso
  have hX0 := hX
  obtain ⟨T, t1, t2, t3⟩ := hX0
  show zW _ _ _ _ [some (.ref 0), some (zi s), some (zi v), none] _ _ _ _ _
  refine z_iload1 gi_111_0 ?_
  refine z_cS1 gi_111_1 (Nat.le_of_ble_eq_true rfl) gc_143_I ?_
  refine z_iload0 gi_143_0 ?_
  refine z_if_ltF gi_143_1 (by omega) (by omega) ?_
  refine z_iload0 gi_143_4 ?_
  refine z_pushJ gp_143_5 ?_
  refine z_icmp_geF gi_143_7 (by omega) zr_6 (by omega) ?_
  refine z_pushJ gp_143_10 ?_
  refine z_goto gi_143_11 ?_
  refine z_bret1 gi_143_15 gr_143 ?_
  show zW _ _ _ _ _ _ _ _ _ _
  refine z_if_eqF gi_111_4 zr_1 (by decide) ?_
  refine z_iload2 gi_111_7 ?_
  refine z_if_lt gi_111_8 (by omega) (fun h1 => ?_) (fun h1 => ?_)
  · refine z_pushJ gp_111_17 ?_
    refine z_iret gi_111_18 gr_111 ?_
    refine ⟨_, rfl, ?_⟩
    show zW _ _ _ _ [some (.ref 50), some (zi s), some (zi v)] _ _ _ _ _
    refine z_iload1 gi_200_0 ?_
    refine z_cS1 gi_200_1 (Nat.le_of_ble_eq_true rfl) gc_248_I ?_
    refine z_iload0 gi_248_0 ?_
    refine z_pushJ gp_248_1 ?_
    refine z_pushJ gp_248_2 ?_
    refine z_cS3 gi_248_3 (Nat.le_of_ble_eq_true rfl) gc_148_III ?_
    refine z_iload0 gi_148_0 ?_
    refine z_iload1 gi_148_1 ?_
    refine z_icmp_ltF gi_148_2 (by omega) zr_0 (by omega) ?_
    refine z_iload0 gi_148_5 ?_
    refine z_iload2 gi_148_6 ?_
    refine z_icmp_gtF gi_148_7 (by omega) zr_5 (by omega) ?_
    refine z_pushJ gp_148_10 ?_
    refine z_goto gi_148_11 ?_
    refine z_bret1 gi_148_15 gr_148 ?_
    show zW _ _ _ _ _ _ _ _ _ _
    refine z_bret1 gi_248_6 gr_248 ?_
    show zW _ _ _ _ _ _ _ _ _ _
    refine z_if_eqF gi_200_4 zr_1 (by decide) ?_
    refine z_iload2 gi_200_7 ?_
    refine z_pushJ gp_200_8 ?_
    refine z_pushJ gp_200_9 ?_
    refine z_cS3 gi_200_11 (Nat.le_of_ble_eq_true rfl) gc_148_III ?_
    refine z_iload0 gi_148_0 ?_
    refine z_iload1 gi_148_1 ?_
    refine z_icmp_ltT gi_148_2 (by omega) zr_0 (by omega) ?_
    refine z_pushJ gp_148_14 ?_
    refine z_bret0 gi_148_15 gr_148 ?_
    show zW _ _ _ _ _ _ _ _ _ _
    refine z_if_neF gi_200_14 zr_0 (by decide) ?_
    refine z_pushJ gp_200_17 ?_
    refine z_iret gi_200_18 gr_200 ?_
    refine ⟨?_, ?_⟩
    · first | rfl | exact congrArg (fun v => some (zi v)) (by omega) | (exfalso; omega)
    · exact hr
  · refine z_iload2 gi_111_11 ?_
    refine z_pushJ gp_111_12 ?_
    refine z_icmp_le gi_111_14 (by omega) (by decide) (fun h2 => ?_) (fun h2 => ?_)
    · refine z_aload0 gi_111_19 ?_
      refine z_getR (r := 10) gi_111_20 gk_0 (hR _ rm_0_2) ?_
      refine z_iload2 gi_111_23 ?_
      refine z_cV1 gi_111_24 gk_10 go_77 (Nat.le_of_ble_eq_true rfl) gc_77_RI ?_
      refine z_aload0 gi_77_0 ?_
      refine z_iload1 gi_77_1 ?_
      refine z_putI (y := 12) gi_77_2 rfl gk_10 ?_
      refine z_vret gi_77_5 gr_77 ?_
      show zW _ _ _ _ _ _ _ _ _ _
      refine z_aload0 gi_111_27 ?_
      refine z_getR (r := 10) gi_111_28 gk_0 (hR _ rm_0_2) ?_
      refine z_aload0 gi_111_31 ?_
      refine z_getR (r := 37) gi_111_32 gk_0 (hR _ rm_0_11) ?_
      refine z_iload1 gi_111_35 ?_
      refine z_aald (r := 38 + 2 * s.toNat) gi_111_36 rfl (by decide) (by omega) (rr_shelf hR (by omega)) ?_
      have hk1 : zK kP J (zU J 10 12 v) := zK_x (a := 10) (x := 12) (v := v) zK_r rfl
      refine z_callV (As := [_]) _ gi_111_37 rfl rfl (Nat.le_of_ble_eq_true rfl) (Nat.le_of_ble_eq_true rfl) (follow_k (J := (zU J 10 12 v)) (N := (cN J)) (n := J 8 2) (T := T) (s := s) (w := v) (z := (J (38 + 2 * s.toNat) 3)) (b := (fun i => M (39 + 2 * s.toNat) i)) hR (cN_P hk1) (hk1 8 2 rfl) y3 (LawC_P t2 hk1) t1 hs6 (fun _ _ _ => rfl) hbr (hk1 _ 3 (kP_b (by omega))) s4 ((hk1 _ 0 (kP_b (by omega))).trans hh) ((hk1 _ 2 (kP_b (by omega))).trans hso) zU_e (by omega)) (fun r J2 M2 R2 hr2 => ?_)
      obtain ⟨rfl, K, hE, hK30, hk3, hc2, hw2, eM, eR⟩ := hr2
      obtain rfl : M = M2 := eM.symm
      obtain rfl : R = R2 := eR.symm
      show zW _ _ _ _ _ (_ :: _) _ _ _ _
      have hk2 := zK_t hk1 hk3
      have hn2 : J2 8 2 = J 8 2 := hk2 8 2 rfl
      have hks : zK kS (zU J 10 12 v) J2 := kS_Pw hk3 (hc2.2.2.2.2.1.trans (Eq.symm zU_e))
      obtain ⟨S, eS⟩ : ∃ S, S = tS T (cN J) (J 8 2) (fun i => M (39 + 2 * s.toNat) i) (v) K := ⟨_, rfl⟩
      have hi0 := (tS_r y3 K hE.1).1
      have hz0 := tS_z K hE.1
      rw [← eS] at hc2 hi0 hz0
      have hi := tI_30 hi0 (by omega)
      have qi := hi.2.2
      have hfc : ∀ p, 0 ≤ p → p < 8 → J2 11 p = tsh S p := fun p q1 q2 => hc2.2.2.2.2.2.2.1 p q1 q2
      refine z_istore (ls1 := [some (.ref 0), some (zi s), some (zi v), some (zi 0)]) gi_111_40 rfl ?_
      refine z_iload3 gi_111_41 ?_
      refine z_if_geT gi_111_42 zr_0 (by decide) ?_
      refine z_aload0 rfl ?_
      refine z_getR (r := 10) rfl gk_0 (hR _ rm_0_2) ?_
      refine z_getI (v := tmk S) rfl gk_10 (hc2.2.2.2.2.2.1) ?_
      refine z_iret gi_111_56 gr_111 ?_
      refine ⟨_, rfl, ?_⟩
      show zW _ _ _ _ [some (.ref 50), some (zi s), some (zi v)] _ _ _ _ _
      refine z_iload1 gi_200_0 ?_
      refine z_cS1 gi_200_1 (Nat.le_of_ble_eq_true rfl) gc_248_I ?_
      refine z_iload0 gi_248_0 ?_
      refine z_pushJ gp_248_1 ?_
      refine z_pushJ gp_248_2 ?_
      refine z_cS3 gi_248_3 (Nat.le_of_ble_eq_true rfl) gc_148_III ?_
      refine z_iload0 gi_148_0 ?_
      refine z_iload1 gi_148_1 ?_
      refine z_icmp_ltF gi_148_2 (by omega) zr_0 (by omega) ?_
      refine z_iload0 gi_148_5 ?_
      refine z_iload2 gi_148_6 ?_
      refine z_icmp_gtF gi_148_7 (by omega) zr_5 (by omega) ?_
      refine z_pushJ gp_148_10 ?_
      refine z_goto gi_148_11 ?_
      refine z_bret1 gi_148_15 gr_148 ?_
      show zW _ _ _ _ _ _ _ _ _ _
      refine z_bret1 gi_248_6 gr_248 ?_
      show zW _ _ _ _ _ _ _ _ _ _
      refine z_if_eqF gi_200_4 zr_1 (by decide) ?_
      refine z_iload2 gi_200_7 ?_
      refine z_pushJ gp_200_8 ?_
      refine z_pushJ gp_200_9 ?_
      refine z_cS3 gi_200_11 (Nat.le_of_ble_eq_true rfl) gc_148_III ?_
      refine z_iload0 gi_148_0 ?_
      refine z_iload1 gi_148_1 ?_
      refine z_icmp_ltF gi_148_2 (by omega) zr_0 (by omega) ?_
      refine z_iload0 gi_148_5 ?_
      refine z_iload2 gi_148_6 ?_
      refine z_icmp_gtF gi_148_7 (by omega) (by decide) (by omega) ?_
      refine z_pushJ gp_148_10 ?_
      refine z_goto gi_148_11 ?_
      refine z_bret1 gi_148_15 gr_148 ?_
      show zW _ _ _ _ _ _ _ _ _ _
      refine z_if_neT gi_200_14 zr_1 (by decide) ?_
      refine z_aload0 gi_200_19 ?_
      refine z_iload1 gi_200_20 ?_
      refine z_cV1 gi_200_21 gk_50 go_192 (Nat.le_of_ble_eq_true rfl) gc_192_RI ?_
      refine z_aload0 gi_192_0 ?_
      refine z_getR (r := 83) gi_192_1 gk_50 (hRr _ rm_50_58 (by decide)) ?_
      refine z_iload1 gi_192_4 ?_
      refine z_iald (v := (-2)) gi_192_5 gk_83 (by decide) (by omega) ((hks 83 _ rfl).trans e83n) ?_
      refine z_pushJ gp_192_6 ?_
      refine z_icmp_neT gi_192_7 zrn_2 zrn_1 (by decide) ?_
      refine z_aload0 gi_192_15 ?_
      refine z_getR (r := 83) gi_192_16 gk_50 (hRr _ rm_50_58 (by decide)) ?_
      refine z_iload1 gi_192_19 ?_
      refine z_iald (v := (-2)) gi_192_20 gk_83 (by decide) (by omega) ((hks 83 _ rfl).trans e83n) ?_
      refine z_pushJ gp_192_21 ?_
      refine z_icmp_neF gi_192_23 zrn_2 zrn_2 (by decide) ?_
      refine z_pushJ gp_192_26 ?_
      refine z_goto gi_192_27 ?_
      refine z_iret gi_192_32 gr_192 ?_
      show zW _ _ _ _ _ _ _ _ _ _
      refine z_if_geT gi_200_24 zr_0 (by decide) ?_
      refine z_aload0 gi_200_33 ?_
      refine z_iload2 gi_200_34 ?_
      refine z_putI (y := 35) gi_200_35 rfl gk_50 ?_
      refine z_aload0 gi_200_38 ?_
      refine z_iload1 gi_200_39 ?_
      refine z_pushJ gp_200_40 ?_
      have hV := zK_t (zK_x (a := 10) (x := 12) (v := v) (zK_r (k := kV) (A := J)) rfl) (zK_m hks kV_S)
      have hV2 := zK_x (a := 50) (x := 35) (v := v) hV rfl
      refine z_callV (As := [_, _]) _ rfl rfl rfl (Nat.le_of_ble_eq_true rfl) (Nat.le_of_ble_eq_true rfl) (goRound_k (N := (cN J)) (n := J 8 2) (T := T) (s := s) (z := (J (38 + 2 * s.toNat) 3)) (b := (fun i => M (39 + 2 * s.toNat) i)) (w := v) (most := 60) hRr ((rN_V hV2).trans y1.symm) (((zU_x (by decide)).trans (hks 50 1 rfl)).trans y2.symm) y3 (LawR_V t3 hV2) t1 hs6 (fun i i1 i2 => (s8 i i1 i2).symm) hbr (((zU_n (by decide)).trans (hks 84 _ rfl)).trans s7) s4 (by decide) (zU_e) (by omega)) (fun r J4 M4 R4 hr4 => ?_)
      obtain ⟨K2, rfl, hO, hOr, hK2, hq4, hr4, eM, eR⟩ := hr4
      obtain rfl : M = M4 := eM.symm
      obtain rfl : R = R4 := eR.symm
      show zW _ _ _ _ _ (_ :: _) _ _ _ _
      have eK : K2 = K := tEnd_w ⟨hO, (by rcases hOr with h | h; (exfalso; omega); exact h)⟩ hE
      rw [eK] at hr4
      have hg : rTg J4 (J 8 2) S (sGone (cN J) (J 8 2)) := rT_w eS hr4
      have hs4 := zK_t (zK_u (a := 50) (x := 35) (v := v) hks) (zK_m hq4 kS_Q)
      have hn4 : J4 50 1 = J 8 2 := (hs4 50 1 rfl).trans y2.symm
      have hfr : ∀ p, 0 ≤ p → p < J 8 2 → J4 69 p = tsh S p := fun p q1 q2 => hg.2.2.2.2.1 p q1 q2
      refine z_pop rfl rfl ?_
      refine z_aload0 rfl ?_
      refine z_pushJ gp_200_47 ?_
      refine z_putI (y := 35) rfl rfl gk_50 ?_
      refine z_aload0 rfl ?_
      refine z_getI (v := tmk S) rfl gk_50 ((zU_x (by decide)).trans ((hr4.2.2.2.2.1).trans (by rw [eS]))) ?_
      refine z_iret rfl gr_200 ?_
      refine ⟨?_, ?_⟩
      · first | rfl | exact congrArg (fun v => some (zi v)) (by omega) | (exfalso; omega)
      · have hfin := zK_u (a := 50) (x := 35) (v := 0) hs4
        refine Rel_S hfin zK_r ?_
        have hk := (zK_x (a := 50) (x := 35) (v := 0) (zK_x (a := 50) (x := 35) (v := v) (zK_x (a := 10) (x := 12) (v := v) (zK_r (k := (kL [] [(10, 12), (50, 35)])) (A := J)) rfl) rfl) rfl)
        exact ⟨hR, hG, RelY_k hk (by repeat' constructor) (fun p => by repeat' constructor) hY, RelD_k hk (by repeat' constructor) (fun p => by repeat' constructor) hD, RelP_k hk (by repeat' constructor) (fun p => by repeat' constructor) hP, RelC_k hk (by repeat' constructor) (fun p => by repeat' constructor) hC, RelA_k hk (by repeat' constructor) (fun p => by repeat' constructor) hAc, RelS_k hk (zK_r (k := kM)) (fun x j a b => ⟨kL_38 (by decide) (by decide) x j a b, kM_38 x j a b⟩) (fun p => ⟨rfl, rfl, rfl⟩) rfl hS, RelT_k hk (by repeat' constructor) (fun p => by repeat' constructor) hTp, RelX_k hk (by repeat' constructor) (fun p => by repeat' constructor) hX, ⟨(show 0 ≤ v ∧ v ≤ 1000000 from by omega), rfl⟩⟩
    · refine z_pushJ gp_111_17 ?_
      refine z_iret gi_111_18 gr_111 ?_
      refine ⟨_, rfl, ?_⟩
      show zW _ _ _ _ [some (.ref 50), some (zi s), some (zi v)] _ _ _ _ _
      refine z_iload1 gi_200_0 ?_
      refine z_cS1 gi_200_1 (Nat.le_of_ble_eq_true rfl) gc_248_I ?_
      refine z_iload0 gi_248_0 ?_
      refine z_pushJ gp_248_1 ?_
      refine z_pushJ gp_248_2 ?_
      refine z_cS3 gi_248_3 (Nat.le_of_ble_eq_true rfl) gc_148_III ?_
      refine z_iload0 gi_148_0 ?_
      refine z_iload1 gi_148_1 ?_
      refine z_icmp_ltF gi_148_2 (by omega) zr_0 (by omega) ?_
      refine z_iload0 gi_148_5 ?_
      refine z_iload2 gi_148_6 ?_
      refine z_icmp_gtF gi_148_7 (by omega) zr_5 (by omega) ?_
      refine z_pushJ gp_148_10 ?_
      refine z_goto gi_148_11 ?_
      refine z_bret1 gi_148_15 gr_148 ?_
      show zW _ _ _ _ _ _ _ _ _ _
      refine z_bret1 gi_248_6 gr_248 ?_
      show zW _ _ _ _ _ _ _ _ _ _
      refine z_if_eqF gi_200_4 zr_1 (by decide) ?_
      refine z_iload2 gi_200_7 ?_
      refine z_pushJ gp_200_8 ?_
      refine z_pushJ gp_200_9 ?_
      refine z_cS3 gi_200_11 (Nat.le_of_ble_eq_true rfl) gc_148_III ?_
      refine z_iload0 gi_148_0 ?_
      refine z_iload1 gi_148_1 ?_
      refine z_icmp_ltF gi_148_2 (by omega) zr_0 (by omega) ?_
      refine z_iload0 gi_148_5 ?_
      refine z_iload2 gi_148_6 ?_
      refine z_icmp_gtT gi_148_7 (by omega) (by decide) (by omega) ?_
      refine z_pushJ gp_148_14 ?_
      refine z_bret0 gi_148_15 gr_148 ?_
      show zW _ _ _ _ _ _ _ _ _ _
      refine z_if_neF gi_200_14 zr_0 (by decide) ?_
      refine z_pushJ gp_200_17 ?_
      refine z_iret gi_200_18 gr_200 ?_
      refine ⟨?_, ?_⟩
      · first | rfl | exact congrArg (fun v => some (zi v)) (by omega) | (exfalso; omega)
      · exact hr
theorem st_by {X : Nat × (Nat → Int32)} {d : Nat} {J M : zA} {R : zR} {s v : Int} (hr : Rel X J M R) (hs : -2147483648 ≤ s ∧ s < 2147483648) (hv : -2147483648 ≤ v ∧ v < 2147483648) : zW X (d + 20) 111 0 (gEn 111 [(.ref 0), (zi s), (zi v)]) [] J M R (stP X (d + 20) 200 [(zi s), (zi v)]) := by
  by_cases hs6 : 0 ≤ s ∧ s < 6
  · have hS : RelS J M := hr.2.2.2.2.2.2.2.1
    have h2 := (hS s hs6.1 hs6.2).2.1
    have h4 : J (38 + 2 * s.toNat) 0 = 0 ∨ J (38 + 2 * s.toNat) 0 = 1 ∨ J (38 + 2 * s.toNat) 0 = 2 := by omega
    rcases h4 with hh | hh | hh
    · exact st_by_0 hr hs hv hs6 hh
    · exact st_by_1 hr hs hv hs6 hh
    · by_cases hso : J (38 + 2 * s.toNat) 2 = 0
      · exact st_by_m hr hs hv hs6 hh hso
      · exact st_by_2 hr hs hv hs6 hh hso
  · exact st_by_n hr hs hv hs6
