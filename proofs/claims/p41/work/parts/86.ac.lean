theorem ah_0_0 {X : Nat × (Nat → Int32)} {d : Nat} {J M : zA} {R : zR} {P : zP} {x y : Int} (hy : -2147483648 ≤ y ∧ y < 40) (kk : zW X (d + 1) 9 77 [some (.ref 34), some (zi 0), some (zi 0), some (zi x), some (zi y), some (zi 0), some (zi 1)] [] J M R P) : zW X (d + 1) 9 0 [some (.ref 34), some (zi 0), some (zi 0), some (zi x), some (zi y), none, none] [] J M R P := by
  refine z_iload1 gi_9_0 ?_
  refine z_istore (ls1 := [some (.ref 34), some (zi 0), some (zi 0), some (zi x), some (zi y), some (zi 0), none]) gi_9_1 rfl ?_
  refine z_pushJ gp_9_3 ?_
  refine z_istore (ls1 := [some (.ref 34), some (zi 0), some (zi 0), some (zi x), some (zi y), some (zi 0), some (zi 0)]) gi_9_4 rfl ?_
  refine z_iload6 gi_9_6 ?_
  refine z_pushJ gp_9_8 ?_
  refine z_icmp_geF gi_9_10 zr_0 zr_8 (by decide) ?_
  refine z_iload5 gi_9_13 ?_
  refine z_cS1 gi_9_15 (Nat.le_of_ble_eq_true rfl) gc_1_I ?_
  refine z_iload0 gi_1_0 ?_
  refine z_if_ltF gi_1_1 zr_0 (by decide) ?_
  refine z_iload0 gi_1_4 ?_
  refine z_pushJ gp_1_5 ?_
  refine z_icmp_geF gi_1_7 zr_0 zr_8 (by decide) ?_
  refine z_pushJ gp_1_10 ?_
  refine z_goto gi_1_11 ?_
  refine z_bret1 gi_1_15 gr_1 ?_
  show zW _ _ _ _ _ _ _ _ _ _
  refine z_if_eqF gi_9_18 zr_1 (by decide) ?_
  refine z_getS gi_9_21 ?_
  refine z_iload5 gi_9_24 ?_
  refine z_pushJ gp_9_26 ?_
  refine z_imul (e := 0) gi_9_27 rfl ?_
  refine z_iload2 gi_9_28 ?_
  refine z_iadd (e := 0) gi_9_29 rfl ?_
  refine z_sald (j := 3) (n := 32) (v := 1) gi_9_30 (by decide) rfl (by decide) (by decide) rfl ?_
  refine z_if_neT gi_9_31 zr_1 (by decide) ?_
  refine z_iload5 gi_9_48 ?_
  refine z_cS1 gi_9_50 (Nat.le_of_ble_eq_true rfl) gc_1_I ?_
  refine z_iload0 gi_1_0 ?_
  refine z_if_ltF gi_1_1 zr_0 (by decide) ?_
  refine z_iload0 gi_1_4 ?_
  refine z_pushJ gp_1_5 ?_
  refine z_icmp_geF gi_1_7 zr_0 zr_8 (by decide) ?_
  refine z_pushJ gp_1_10 ?_
  refine z_goto gi_1_11 ?_
  refine z_bret1 gi_1_15 gr_1 ?_
  show zW _ _ _ _ _ _ _ _ _ _
  refine z_if_eqF gi_9_53 zr_1 (by decide) ?_
  refine z_iload4 gi_9_56 ?_
  refine z_pushJ gp_9_58 ?_
  refine z_icmp_ltT gi_9_60 (by omega) zr_40 (by omega) ?_
  refine z_getS gi_9_65 ?_
  refine z_iload5 gi_9_68 ?_
  refine z_pushJ gp_9_70 ?_
  refine z_imul (e := 0) gi_9_71 rfl ?_
  refine z_iload2 gi_9_72 ?_
  refine z_iadd (e := 0) gi_9_73 rfl ?_
  refine z_sald (j := 3) (n := 32) (v := 1) gi_9_74 (by decide) rfl (by decide) (by decide) rfl ?_
  refine z_istore (ls1 := [some (.ref 34), some (zi 0), some (zi 0), some (zi x), some (zi y), some (zi 0), some (zi 1)]) gi_9_75 rfl ?_
  show zW _ _ _ _ [some (.ref 34), some (zi 0), some (zi 0), some (zi x), some (zi y), some (zi 0), some (zi 1)] [] _ _ _ _
  exact kk
theorem ah_0_1 {X : Nat × (Nat → Int32)} {d : Nat} {J M : zA} {R : zR} {P : zP} {x y : Int} (hy : -2147483648 ≤ y ∧ y < 40) (kk : zW X (d + 1) 9 77 [some (.ref 34), some (zi 0), some (zi 1), some (zi x), some (zi y), some (zi 0), some (zi 10)] [] J M R P) : zW X (d + 1) 9 0 [some (.ref 34), some (zi 0), some (zi 1), some (zi x), some (zi y), none, none] [] J M R P := by
  refine z_iload1 gi_9_0 ?_
  refine z_istore (ls1 := [some (.ref 34), some (zi 0), some (zi 1), some (zi x), some (zi y), some (zi 0), none]) gi_9_1 rfl ?_
  refine z_pushJ gp_9_3 ?_
  refine z_istore (ls1 := [some (.ref 34), some (zi 0), some (zi 1), some (zi x), some (zi y), some (zi 0), some (zi 0)]) gi_9_4 rfl ?_
  refine z_iload6 gi_9_6 ?_
  refine z_pushJ gp_9_8 ?_
  refine z_icmp_geF gi_9_10 zr_0 zr_8 (by decide) ?_
  refine z_iload5 gi_9_13 ?_
  refine z_cS1 gi_9_15 (Nat.le_of_ble_eq_true rfl) gc_1_I ?_
  refine z_iload0 gi_1_0 ?_
  refine z_if_ltF gi_1_1 zr_0 (by decide) ?_
  refine z_iload0 gi_1_4 ?_
  refine z_pushJ gp_1_5 ?_
  refine z_icmp_geF gi_1_7 zr_0 zr_8 (by decide) ?_
  refine z_pushJ gp_1_10 ?_
  refine z_goto gi_1_11 ?_
  refine z_bret1 gi_1_15 gr_1 ?_
  show zW _ _ _ _ _ _ _ _ _ _
  refine z_if_eqF gi_9_18 zr_1 (by decide) ?_
  refine z_getS gi_9_21 ?_
  refine z_iload5 gi_9_24 ?_
  refine z_pushJ gp_9_26 ?_
  refine z_imul (e := 0) gi_9_27 rfl ?_
  refine z_iload2 gi_9_28 ?_
  refine z_iadd (e := 1) gi_9_29 rfl ?_
  refine z_sald (j := 3) (n := 32) (v := 10) gi_9_30 (by decide) rfl (by decide) (by decide) rfl ?_
  refine z_if_neT gi_9_31 zr_10 (by decide) ?_
  refine z_iload5 gi_9_48 ?_
  refine z_cS1 gi_9_50 (Nat.le_of_ble_eq_true rfl) gc_1_I ?_
  refine z_iload0 gi_1_0 ?_
  refine z_if_ltF gi_1_1 zr_0 (by decide) ?_
  refine z_iload0 gi_1_4 ?_
  refine z_pushJ gp_1_5 ?_
  refine z_icmp_geF gi_1_7 zr_0 zr_8 (by decide) ?_
  refine z_pushJ gp_1_10 ?_
  refine z_goto gi_1_11 ?_
  refine z_bret1 gi_1_15 gr_1 ?_
  show zW _ _ _ _ _ _ _ _ _ _
  refine z_if_eqF gi_9_53 zr_1 (by decide) ?_
  refine z_iload4 gi_9_56 ?_
  refine z_pushJ gp_9_58 ?_
  refine z_icmp_ltT gi_9_60 (by omega) zr_40 (by omega) ?_
  refine z_getS gi_9_65 ?_
  refine z_iload5 gi_9_68 ?_
  refine z_pushJ gp_9_70 ?_
  refine z_imul (e := 0) gi_9_71 rfl ?_
  refine z_iload2 gi_9_72 ?_
  refine z_iadd (e := 1) gi_9_73 rfl ?_
  refine z_sald (j := 3) (n := 32) (v := 10) gi_9_74 (by decide) rfl (by decide) (by decide) rfl ?_
  refine z_istore (ls1 := [some (.ref 34), some (zi 0), some (zi 1), some (zi x), some (zi y), some (zi 0), some (zi 10)]) gi_9_75 rfl ?_
  show zW _ _ _ _ [some (.ref 34), some (zi 0), some (zi 1), some (zi x), some (zi y), some (zi 0), some (zi 10)] [] _ _ _ _
  exact kk
theorem ah_0_2 {X : Nat × (Nat → Int32)} {d : Nat} {J M : zA} {R : zR} {P : zP} {x y : Int} (hy : -2147483648 ≤ y ∧ y < 40) (kk : zW X (d + 1) 9 77 [some (.ref 34), some (zi 0), some (zi 2), some (zi x), some (zi y), some (zi 0), some (zi 11)] [] J M R P) : zW X (d + 1) 9 0 [some (.ref 34), some (zi 0), some (zi 2), some (zi x), some (zi y), none, none] [] J M R P := by
  refine z_iload1 gi_9_0 ?_
  refine z_istore (ls1 := [some (.ref 34), some (zi 0), some (zi 2), some (zi x), some (zi y), some (zi 0), none]) gi_9_1 rfl ?_
  refine z_pushJ gp_9_3 ?_
  refine z_istore (ls1 := [some (.ref 34), some (zi 0), some (zi 2), some (zi x), some (zi y), some (zi 0), some (zi 0)]) gi_9_4 rfl ?_
  refine z_iload6 gi_9_6 ?_
  refine z_pushJ gp_9_8 ?_
  refine z_icmp_geF gi_9_10 zr_0 zr_8 (by decide) ?_
  refine z_iload5 gi_9_13 ?_
  refine z_cS1 gi_9_15 (Nat.le_of_ble_eq_true rfl) gc_1_I ?_
  refine z_iload0 gi_1_0 ?_
  refine z_if_ltF gi_1_1 zr_0 (by decide) ?_
  refine z_iload0 gi_1_4 ?_
  refine z_pushJ gp_1_5 ?_
  refine z_icmp_geF gi_1_7 zr_0 zr_8 (by decide) ?_
  refine z_pushJ gp_1_10 ?_
  refine z_goto gi_1_11 ?_
  refine z_bret1 gi_1_15 gr_1 ?_
  show zW _ _ _ _ _ _ _ _ _ _
  refine z_if_eqF gi_9_18 zr_1 (by decide) ?_
  refine z_getS gi_9_21 ?_
  refine z_iload5 gi_9_24 ?_
  refine z_pushJ gp_9_26 ?_
  refine z_imul (e := 0) gi_9_27 rfl ?_
  refine z_iload2 gi_9_28 ?_
  refine z_iadd (e := 2) gi_9_29 rfl ?_
  refine z_sald (j := 3) (n := 32) (v := 11) gi_9_30 (by decide) rfl (by decide) (by decide) rfl ?_
  refine z_if_neT gi_9_31 zr_11 (by decide) ?_
  refine z_iload5 gi_9_48 ?_
  refine z_cS1 gi_9_50 (Nat.le_of_ble_eq_true rfl) gc_1_I ?_
  refine z_iload0 gi_1_0 ?_
  refine z_if_ltF gi_1_1 zr_0 (by decide) ?_
  refine z_iload0 gi_1_4 ?_
  refine z_pushJ gp_1_5 ?_
  refine z_icmp_geF gi_1_7 zr_0 zr_8 (by decide) ?_
  refine z_pushJ gp_1_10 ?_
  refine z_goto gi_1_11 ?_
  refine z_bret1 gi_1_15 gr_1 ?_
  show zW _ _ _ _ _ _ _ _ _ _
  refine z_if_eqF gi_9_53 zr_1 (by decide) ?_
  refine z_iload4 gi_9_56 ?_
  refine z_pushJ gp_9_58 ?_
  refine z_icmp_ltT gi_9_60 (by omega) zr_40 (by omega) ?_
  refine z_getS gi_9_65 ?_
  refine z_iload5 gi_9_68 ?_
  refine z_pushJ gp_9_70 ?_
  refine z_imul (e := 0) gi_9_71 rfl ?_
  refine z_iload2 gi_9_72 ?_
  refine z_iadd (e := 2) gi_9_73 rfl ?_
  refine z_sald (j := 3) (n := 32) (v := 11) gi_9_74 (by decide) rfl (by decide) (by decide) rfl ?_
  refine z_istore (ls1 := [some (.ref 34), some (zi 0), some (zi 2), some (zi x), some (zi y), some (zi 0), some (zi 11)]) gi_9_75 rfl ?_
  show zW _ _ _ _ [some (.ref 34), some (zi 0), some (zi 2), some (zi x), some (zi y), some (zi 0), some (zi 11)] [] _ _ _ _
  exact kk
theorem ah_0_3 {X : Nat × (Nat → Int32)} {d : Nat} {J M : zA} {R : zR} {P : zP} {x y : Int} (hy : -2147483648 ≤ y ∧ y < 40) (kk : zW X (d + 1) 9 77 [some (.ref 34), some (zi 0), some (zi 3), some (zi x), some (zi y), some (zi 0), some (zi 2)] [] J M R P) : zW X (d + 1) 9 0 [some (.ref 34), some (zi 0), some (zi 3), some (zi x), some (zi y), none, none] [] J M R P := by
  refine z_iload1 gi_9_0 ?_
  refine z_istore (ls1 := [some (.ref 34), some (zi 0), some (zi 3), some (zi x), some (zi y), some (zi 0), none]) gi_9_1 rfl ?_
  refine z_pushJ gp_9_3 ?_
  refine z_istore (ls1 := [some (.ref 34), some (zi 0), some (zi 3), some (zi x), some (zi y), some (zi 0), some (zi 0)]) gi_9_4 rfl ?_
  refine z_iload6 gi_9_6 ?_
  refine z_pushJ gp_9_8 ?_
  refine z_icmp_geF gi_9_10 zr_0 zr_8 (by decide) ?_
  refine z_iload5 gi_9_13 ?_
  refine z_cS1 gi_9_15 (Nat.le_of_ble_eq_true rfl) gc_1_I ?_
  refine z_iload0 gi_1_0 ?_
  refine z_if_ltF gi_1_1 zr_0 (by decide) ?_
  refine z_iload0 gi_1_4 ?_
  refine z_pushJ gp_1_5 ?_
  refine z_icmp_geF gi_1_7 zr_0 zr_8 (by decide) ?_
  refine z_pushJ gp_1_10 ?_
  refine z_goto gi_1_11 ?_
  refine z_bret1 gi_1_15 gr_1 ?_
  show zW _ _ _ _ _ _ _ _ _ _
  refine z_if_eqF gi_9_18 zr_1 (by decide) ?_
  refine z_getS gi_9_21 ?_
  refine z_iload5 gi_9_24 ?_
  refine z_pushJ gp_9_26 ?_
  refine z_imul (e := 0) gi_9_27 rfl ?_
  refine z_iload2 gi_9_28 ?_
  refine z_iadd (e := 3) gi_9_29 rfl ?_
  refine z_sald (j := 3) (n := 32) (v := 2) gi_9_30 (by decide) rfl (by decide) (by decide) rfl ?_
  refine z_if_neT gi_9_31 zr_2 (by decide) ?_
  refine z_iload5 gi_9_48 ?_
  refine z_cS1 gi_9_50 (Nat.le_of_ble_eq_true rfl) gc_1_I ?_
  refine z_iload0 gi_1_0 ?_
  refine z_if_ltF gi_1_1 zr_0 (by decide) ?_
  refine z_iload0 gi_1_4 ?_
  refine z_pushJ gp_1_5 ?_
  refine z_icmp_geF gi_1_7 zr_0 zr_8 (by decide) ?_
  refine z_pushJ gp_1_10 ?_
  refine z_goto gi_1_11 ?_
  refine z_bret1 gi_1_15 gr_1 ?_
  show zW _ _ _ _ _ _ _ _ _ _
  refine z_if_eqF gi_9_53 zr_1 (by decide) ?_
  refine z_iload4 gi_9_56 ?_
  refine z_pushJ gp_9_58 ?_
  refine z_icmp_ltT gi_9_60 (by omega) zr_40 (by omega) ?_
  refine z_getS gi_9_65 ?_
  refine z_iload5 gi_9_68 ?_
  refine z_pushJ gp_9_70 ?_
  refine z_imul (e := 0) gi_9_71 rfl ?_
  refine z_iload2 gi_9_72 ?_
  refine z_iadd (e := 3) gi_9_73 rfl ?_
  refine z_sald (j := 3) (n := 32) (v := 2) gi_9_74 (by decide) rfl (by decide) (by decide) rfl ?_
  refine z_istore (ls1 := [some (.ref 34), some (zi 0), some (zi 3), some (zi x), some (zi y), some (zi 0), some (zi 2)]) gi_9_75 rfl ?_
  show zW _ _ _ _ [some (.ref 34), some (zi 0), some (zi 3), some (zi x), some (zi y), some (zi 0), some (zi 2)] [] _ _ _ _
  exact kk
theorem ah_1_0 {X : Nat × (Nat → Int32)} {d : Nat} {J M : zA} {R : zR} {P : zP} {x y : Int} (hy : -2147483648 ≤ y ∧ y < 40) (kk : zW X (d + 1) 9 77 [some (.ref 34), some (zi 1), some (zi 0), some (zi x), some (zi y), some (zi 1), some (zi 20)] [] J M R P) : zW X (d + 1) 9 0 [some (.ref 34), some (zi 1), some (zi 0), some (zi x), some (zi y), none, none] [] J M R P := by
  refine z_iload1 gi_9_0 ?_
  refine z_istore (ls1 := [some (.ref 34), some (zi 1), some (zi 0), some (zi x), some (zi y), some (zi 1), none]) gi_9_1 rfl ?_
  refine z_pushJ gp_9_3 ?_
  refine z_istore (ls1 := [some (.ref 34), some (zi 1), some (zi 0), some (zi x), some (zi y), some (zi 1), some (zi 0)]) gi_9_4 rfl ?_
  refine z_iload6 gi_9_6 ?_
  refine z_pushJ gp_9_8 ?_
  refine z_icmp_geF gi_9_10 zr_0 zr_8 (by decide) ?_
  refine z_iload5 gi_9_13 ?_
  refine z_cS1 gi_9_15 (Nat.le_of_ble_eq_true rfl) gc_1_I ?_
  refine z_iload0 gi_1_0 ?_
  refine z_if_ltF gi_1_1 zr_1 (by decide) ?_
  refine z_iload0 gi_1_4 ?_
  refine z_pushJ gp_1_5 ?_
  refine z_icmp_geF gi_1_7 zr_1 zr_8 (by decide) ?_
  refine z_pushJ gp_1_10 ?_
  refine z_goto gi_1_11 ?_
  refine z_bret1 gi_1_15 gr_1 ?_
  show zW _ _ _ _ _ _ _ _ _ _
  refine z_if_eqF gi_9_18 zr_1 (by decide) ?_
  refine z_getS gi_9_21 ?_
  refine z_iload5 gi_9_24 ?_
  refine z_pushJ gp_9_26 ?_
  refine z_imul (e := 4) gi_9_27 rfl ?_
  refine z_iload2 gi_9_28 ?_
  refine z_iadd (e := 4) gi_9_29 rfl ?_
  refine z_sald (j := 3) (n := 32) (v := 20) gi_9_30 (by decide) rfl (by decide) (by decide) rfl ?_
  refine z_if_neT gi_9_31 zr_20 (by decide) ?_
  refine z_iload5 gi_9_48 ?_
  refine z_cS1 gi_9_50 (Nat.le_of_ble_eq_true rfl) gc_1_I ?_
  refine z_iload0 gi_1_0 ?_
  refine z_if_ltF gi_1_1 zr_1 (by decide) ?_
  refine z_iload0 gi_1_4 ?_
  refine z_pushJ gp_1_5 ?_
  refine z_icmp_geF gi_1_7 zr_1 zr_8 (by decide) ?_
  refine z_pushJ gp_1_10 ?_
  refine z_goto gi_1_11 ?_
  refine z_bret1 gi_1_15 gr_1 ?_
  show zW _ _ _ _ _ _ _ _ _ _
  refine z_if_eqF gi_9_53 zr_1 (by decide) ?_
  refine z_iload4 gi_9_56 ?_
  refine z_pushJ gp_9_58 ?_
  refine z_icmp_ltT gi_9_60 (by omega) zr_40 (by omega) ?_
  refine z_getS gi_9_65 ?_
  refine z_iload5 gi_9_68 ?_
  refine z_pushJ gp_9_70 ?_
  refine z_imul (e := 4) gi_9_71 rfl ?_
  refine z_iload2 gi_9_72 ?_
  refine z_iadd (e := 4) gi_9_73 rfl ?_
  refine z_sald (j := 3) (n := 32) (v := 20) gi_9_74 (by decide) rfl (by decide) (by decide) rfl ?_
  refine z_istore (ls1 := [some (.ref 34), some (zi 1), some (zi 0), some (zi x), some (zi y), some (zi 1), some (zi 20)]) gi_9_75 rfl ?_
  show zW _ _ _ _ [some (.ref 34), some (zi 1), some (zi 0), some (zi x), some (zi y), some (zi 1), some (zi 20)] [] _ _ _ _
  exact kk
theorem ah_1_1 {X : Nat × (Nat → Int32)} {d : Nat} {J M : zA} {R : zR} {P : zP} {x y : Int} (hy : -2147483648 ≤ y ∧ y < 40) (kk : zW X (d + 1) 9 77 [some (.ref 34), some (zi 1), some (zi 1), some (zi x), some (zi y), some (zi 0), some (zi 10)] [] J M R P) : zW X (d + 1) 9 0 [some (.ref 34), some (zi 1), some (zi 1), some (zi x), some (zi y), none, none] [] J M R P := by
  refine z_iload1 gi_9_0 ?_
  refine z_istore (ls1 := [some (.ref 34), some (zi 1), some (zi 1), some (zi x), some (zi y), some (zi 1), none]) gi_9_1 rfl ?_
  refine z_pushJ gp_9_3 ?_
  refine z_istore (ls1 := [some (.ref 34), some (zi 1), some (zi 1), some (zi x), some (zi y), some (zi 1), some (zi 0)]) gi_9_4 rfl ?_
  refine z_iload6 gi_9_6 ?_
  refine z_pushJ gp_9_8 ?_
  refine z_icmp_geF gi_9_10 zr_0 zr_8 (by decide) ?_
  refine z_iload5 gi_9_13 ?_
  refine z_cS1 gi_9_15 (Nat.le_of_ble_eq_true rfl) gc_1_I ?_
  refine z_iload0 gi_1_0 ?_
  refine z_if_ltF gi_1_1 zr_1 (by decide) ?_
  refine z_iload0 gi_1_4 ?_
  refine z_pushJ gp_1_5 ?_
  refine z_icmp_geF gi_1_7 zr_1 zr_8 (by decide) ?_
  refine z_pushJ gp_1_10 ?_
  refine z_goto gi_1_11 ?_
  refine z_bret1 gi_1_15 gr_1 ?_
  show zW _ _ _ _ _ _ _ _ _ _
  refine z_if_eqF gi_9_18 zr_1 (by decide) ?_
  refine z_getS gi_9_21 ?_
  refine z_iload5 gi_9_24 ?_
  refine z_pushJ gp_9_26 ?_
  refine z_imul (e := 4) gi_9_27 rfl ?_
  refine z_iload2 gi_9_28 ?_
  refine z_iadd (e := 5) gi_9_29 rfl ?_
  refine z_sald (j := 3) (n := 32) (v := 0) gi_9_30 (by decide) rfl (by decide) (by decide) rfl ?_
  refine z_if_neF gi_9_31 zr_0 (by decide) ?_
  refine z_getS gi_9_34 ?_
  refine z_iload5 gi_9_37 ?_
  refine z_sald (j := 4) (n := 8) (v := 0) gi_9_39 (by decide) rfl (by decide) (by decide) rfl ?_
  refine z_istore (ls1 := [some (.ref 34), some (zi 1), some (zi 1), some (zi x), some (zi y), some (zi 0), some (zi 0)]) gi_9_40 rfl ?_
  refine z_iinc (c := 1) (e := 1) (ls1 := [some (.ref 34), some (zi 1), some (zi 1), some (zi x), some (zi y), some (zi 0), some (zi 1)]) gi_9_42 rfl rfl rfl rfl ?_
  refine z_goto gi_9_45 ?_
  show zW _ _ _ _ [some (.ref 34), some (zi 1), some (zi 1), some (zi x), some (zi y), some (zi 0), some (zi 1)] [] _ _ _ _
  refine z_iload6 gi_9_6 ?_
  refine z_pushJ gp_9_8 ?_
  refine z_icmp_geF gi_9_10 zr_1 zr_8 (by decide) ?_
  refine z_iload5 gi_9_13 ?_
  refine z_cS1 gi_9_15 (Nat.le_of_ble_eq_true rfl) gc_1_I ?_
  refine z_iload0 gi_1_0 ?_
  refine z_if_ltF gi_1_1 zr_0 (by decide) ?_
  refine z_iload0 gi_1_4 ?_
  refine z_pushJ gp_1_5 ?_
  refine z_icmp_geF gi_1_7 zr_0 zr_8 (by decide) ?_
  refine z_pushJ gp_1_10 ?_
  refine z_goto gi_1_11 ?_
  refine z_bret1 gi_1_15 gr_1 ?_
  show zW _ _ _ _ _ _ _ _ _ _
  refine z_if_eqF gi_9_18 zr_1 (by decide) ?_
  refine z_getS gi_9_21 ?_
  refine z_iload5 gi_9_24 ?_
  refine z_pushJ gp_9_26 ?_
  refine z_imul (e := 0) gi_9_27 rfl ?_
  refine z_iload2 gi_9_28 ?_
  refine z_iadd (e := 1) gi_9_29 rfl ?_
  refine z_sald (j := 3) (n := 32) (v := 10) gi_9_30 (by decide) rfl (by decide) (by decide) rfl ?_
  refine z_if_neT gi_9_31 zr_10 (by decide) ?_
  refine z_iload5 gi_9_48 ?_
  refine z_cS1 gi_9_50 (Nat.le_of_ble_eq_true rfl) gc_1_I ?_
  refine z_iload0 gi_1_0 ?_
  refine z_if_ltF gi_1_1 zr_0 (by decide) ?_
  refine z_iload0 gi_1_4 ?_
  refine z_pushJ gp_1_5 ?_
  refine z_icmp_geF gi_1_7 zr_0 zr_8 (by decide) ?_
  refine z_pushJ gp_1_10 ?_
  refine z_goto gi_1_11 ?_
  refine z_bret1 gi_1_15 gr_1 ?_
  show zW _ _ _ _ _ _ _ _ _ _
  refine z_if_eqF gi_9_53 zr_1 (by decide) ?_
  refine z_iload4 gi_9_56 ?_
  refine z_pushJ gp_9_58 ?_
  refine z_icmp_ltT gi_9_60 (by omega) zr_40 (by omega) ?_
  refine z_getS gi_9_65 ?_
  refine z_iload5 gi_9_68 ?_
  refine z_pushJ gp_9_70 ?_
  refine z_imul (e := 0) gi_9_71 rfl ?_
  refine z_iload2 gi_9_72 ?_
  refine z_iadd (e := 1) gi_9_73 rfl ?_
  refine z_sald (j := 3) (n := 32) (v := 10) gi_9_74 (by decide) rfl (by decide) (by decide) rfl ?_
  refine z_istore (ls1 := [some (.ref 34), some (zi 1), some (zi 1), some (zi x), some (zi y), some (zi 0), some (zi 10)]) gi_9_75 rfl ?_
  show zW _ _ _ _ [some (.ref 34), some (zi 1), some (zi 1), some (zi x), some (zi y), some (zi 0), some (zi 10)] [] _ _ _ _
  exact kk
theorem ah_1_2 {X : Nat × (Nat → Int32)} {d : Nat} {J M : zA} {R : zR} {P : zP} {x y : Int} (hy : -2147483648 ≤ y ∧ y < 40) (kk : zW X (d + 1) 9 77 [some (.ref 34), some (zi 1), some (zi 2), some (zi x), some (zi y), some (zi 0), some (zi 11)] [] J M R P) : zW X (d + 1) 9 0 [some (.ref 34), some (zi 1), some (zi 2), some (zi x), some (zi y), none, none] [] J M R P := by
  refine z_iload1 gi_9_0 ?_
  refine z_istore (ls1 := [some (.ref 34), some (zi 1), some (zi 2), some (zi x), some (zi y), some (zi 1), none]) gi_9_1 rfl ?_
  refine z_pushJ gp_9_3 ?_
  refine z_istore (ls1 := [some (.ref 34), some (zi 1), some (zi 2), some (zi x), some (zi y), some (zi 1), some (zi 0)]) gi_9_4 rfl ?_
  refine z_iload6 gi_9_6 ?_
  refine z_pushJ gp_9_8 ?_
  refine z_icmp_geF gi_9_10 zr_0 zr_8 (by decide) ?_
  refine z_iload5 gi_9_13 ?_
  refine z_cS1 gi_9_15 (Nat.le_of_ble_eq_true rfl) gc_1_I ?_
  refine z_iload0 gi_1_0 ?_
  refine z_if_ltF gi_1_1 zr_1 (by decide) ?_
  refine z_iload0 gi_1_4 ?_
  refine z_pushJ gp_1_5 ?_
  refine z_icmp_geF gi_1_7 zr_1 zr_8 (by decide) ?_
  refine z_pushJ gp_1_10 ?_
  refine z_goto gi_1_11 ?_
  refine z_bret1 gi_1_15 gr_1 ?_
  show zW _ _ _ _ _ _ _ _ _ _
  refine z_if_eqF gi_9_18 zr_1 (by decide) ?_
  refine z_getS gi_9_21 ?_
  refine z_iload5 gi_9_24 ?_
  refine z_pushJ gp_9_26 ?_
  refine z_imul (e := 4) gi_9_27 rfl ?_
  refine z_iload2 gi_9_28 ?_
  refine z_iadd (e := 6) gi_9_29 rfl ?_
  refine z_sald (j := 3) (n := 32) (v := 0) gi_9_30 (by decide) rfl (by decide) (by decide) rfl ?_
  refine z_if_neF gi_9_31 zr_0 (by decide) ?_
  refine z_getS gi_9_34 ?_
  refine z_iload5 gi_9_37 ?_
  refine z_sald (j := 4) (n := 8) (v := 0) gi_9_39 (by decide) rfl (by decide) (by decide) rfl ?_
  refine z_istore (ls1 := [some (.ref 34), some (zi 1), some (zi 2), some (zi x), some (zi y), some (zi 0), some (zi 0)]) gi_9_40 rfl ?_
  refine z_iinc (c := 1) (e := 1) (ls1 := [some (.ref 34), some (zi 1), some (zi 2), some (zi x), some (zi y), some (zi 0), some (zi 1)]) gi_9_42 rfl rfl rfl rfl ?_
  refine z_goto gi_9_45 ?_
  show zW _ _ _ _ [some (.ref 34), some (zi 1), some (zi 2), some (zi x), some (zi y), some (zi 0), some (zi 1)] [] _ _ _ _
  refine z_iload6 gi_9_6 ?_
  refine z_pushJ gp_9_8 ?_
  refine z_icmp_geF gi_9_10 zr_1 zr_8 (by decide) ?_
  refine z_iload5 gi_9_13 ?_
  refine z_cS1 gi_9_15 (Nat.le_of_ble_eq_true rfl) gc_1_I ?_
  refine z_iload0 gi_1_0 ?_
  refine z_if_ltF gi_1_1 zr_0 (by decide) ?_
  refine z_iload0 gi_1_4 ?_
  refine z_pushJ gp_1_5 ?_
  refine z_icmp_geF gi_1_7 zr_0 zr_8 (by decide) ?_
  refine z_pushJ gp_1_10 ?_
  refine z_goto gi_1_11 ?_
  refine z_bret1 gi_1_15 gr_1 ?_
  show zW _ _ _ _ _ _ _ _ _ _
  refine z_if_eqF gi_9_18 zr_1 (by decide) ?_
  refine z_getS gi_9_21 ?_
  refine z_iload5 gi_9_24 ?_
  refine z_pushJ gp_9_26 ?_
  refine z_imul (e := 0) gi_9_27 rfl ?_
  refine z_iload2 gi_9_28 ?_
  refine z_iadd (e := 2) gi_9_29 rfl ?_
  refine z_sald (j := 3) (n := 32) (v := 11) gi_9_30 (by decide) rfl (by decide) (by decide) rfl ?_
  refine z_if_neT gi_9_31 zr_11 (by decide) ?_
  refine z_iload5 gi_9_48 ?_
  refine z_cS1 gi_9_50 (Nat.le_of_ble_eq_true rfl) gc_1_I ?_
  refine z_iload0 gi_1_0 ?_
  refine z_if_ltF gi_1_1 zr_0 (by decide) ?_
  refine z_iload0 gi_1_4 ?_
  refine z_pushJ gp_1_5 ?_
  refine z_icmp_geF gi_1_7 zr_0 zr_8 (by decide) ?_
  refine z_pushJ gp_1_10 ?_
  refine z_goto gi_1_11 ?_
  refine z_bret1 gi_1_15 gr_1 ?_
  show zW _ _ _ _ _ _ _ _ _ _
  refine z_if_eqF gi_9_53 zr_1 (by decide) ?_
  refine z_iload4 gi_9_56 ?_
  refine z_pushJ gp_9_58 ?_
  refine z_icmp_ltT gi_9_60 (by omega) zr_40 (by omega) ?_
  refine z_getS gi_9_65 ?_
  refine z_iload5 gi_9_68 ?_
  refine z_pushJ gp_9_70 ?_
  refine z_imul (e := 0) gi_9_71 rfl ?_
  refine z_iload2 gi_9_72 ?_
  refine z_iadd (e := 2) gi_9_73 rfl ?_
  refine z_sald (j := 3) (n := 32) (v := 11) gi_9_74 (by decide) rfl (by decide) (by decide) rfl ?_
  refine z_istore (ls1 := [some (.ref 34), some (zi 1), some (zi 2), some (zi x), some (zi y), some (zi 0), some (zi 11)]) gi_9_75 rfl ?_
  show zW _ _ _ _ [some (.ref 34), some (zi 1), some (zi 2), some (zi x), some (zi y), some (zi 0), some (zi 11)] [] _ _ _ _
  exact kk
theorem ah_1_3 {X : Nat × (Nat → Int32)} {d : Nat} {J M : zA} {R : zR} {P : zP} {x y : Int} (hy : -2147483648 ≤ y ∧ y < 40) (kk : zW X (d + 1) 9 77 [some (.ref 34), some (zi 1), some (zi 3), some (zi x), some (zi y), some (zi 0), some (zi 2)] [] J M R P) : zW X (d + 1) 9 0 [some (.ref 34), some (zi 1), some (zi 3), some (zi x), some (zi y), none, none] [] J M R P := by
  refine z_iload1 gi_9_0 ?_
  refine z_istore (ls1 := [some (.ref 34), some (zi 1), some (zi 3), some (zi x), some (zi y), some (zi 1), none]) gi_9_1 rfl ?_
  refine z_pushJ gp_9_3 ?_
  refine z_istore (ls1 := [some (.ref 34), some (zi 1), some (zi 3), some (zi x), some (zi y), some (zi 1), some (zi 0)]) gi_9_4 rfl ?_
  refine z_iload6 gi_9_6 ?_
  refine z_pushJ gp_9_8 ?_
  refine z_icmp_geF gi_9_10 zr_0 zr_8 (by decide) ?_
  refine z_iload5 gi_9_13 ?_
  refine z_cS1 gi_9_15 (Nat.le_of_ble_eq_true rfl) gc_1_I ?_
  refine z_iload0 gi_1_0 ?_
  refine z_if_ltF gi_1_1 zr_1 (by decide) ?_
  refine z_iload0 gi_1_4 ?_
  refine z_pushJ gp_1_5 ?_
  refine z_icmp_geF gi_1_7 zr_1 zr_8 (by decide) ?_
  refine z_pushJ gp_1_10 ?_
  refine z_goto gi_1_11 ?_
  refine z_bret1 gi_1_15 gr_1 ?_
  show zW _ _ _ _ _ _ _ _ _ _
  refine z_if_eqF gi_9_18 zr_1 (by decide) ?_
  refine z_getS gi_9_21 ?_
  refine z_iload5 gi_9_24 ?_
  refine z_pushJ gp_9_26 ?_
  refine z_imul (e := 4) gi_9_27 rfl ?_
  refine z_iload2 gi_9_28 ?_
  refine z_iadd (e := 7) gi_9_29 rfl ?_
  refine z_sald (j := 3) (n := 32) (v := 0) gi_9_30 (by decide) rfl (by decide) (by decide) rfl ?_
  refine z_if_neF gi_9_31 zr_0 (by decide) ?_
  refine z_getS gi_9_34 ?_
  refine z_iload5 gi_9_37 ?_
  refine z_sald (j := 4) (n := 8) (v := 0) gi_9_39 (by decide) rfl (by decide) (by decide) rfl ?_
  refine z_istore (ls1 := [some (.ref 34), some (zi 1), some (zi 3), some (zi x), some (zi y), some (zi 0), some (zi 0)]) gi_9_40 rfl ?_
  refine z_iinc (c := 1) (e := 1) (ls1 := [some (.ref 34), some (zi 1), some (zi 3), some (zi x), some (zi y), some (zi 0), some (zi 1)]) gi_9_42 rfl rfl rfl rfl ?_
  refine z_goto gi_9_45 ?_
  show zW _ _ _ _ [some (.ref 34), some (zi 1), some (zi 3), some (zi x), some (zi y), some (zi 0), some (zi 1)] [] _ _ _ _
  refine z_iload6 gi_9_6 ?_
  refine z_pushJ gp_9_8 ?_
  refine z_icmp_geF gi_9_10 zr_1 zr_8 (by decide) ?_
  refine z_iload5 gi_9_13 ?_
  refine z_cS1 gi_9_15 (Nat.le_of_ble_eq_true rfl) gc_1_I ?_
  refine z_iload0 gi_1_0 ?_
  refine z_if_ltF gi_1_1 zr_0 (by decide) ?_
  refine z_iload0 gi_1_4 ?_
  refine z_pushJ gp_1_5 ?_
  refine z_icmp_geF gi_1_7 zr_0 zr_8 (by decide) ?_
  refine z_pushJ gp_1_10 ?_
  refine z_goto gi_1_11 ?_
  refine z_bret1 gi_1_15 gr_1 ?_
  show zW _ _ _ _ _ _ _ _ _ _
  refine z_if_eqF gi_9_18 zr_1 (by decide) ?_
  refine z_getS gi_9_21 ?_
  refine z_iload5 gi_9_24 ?_
  refine z_pushJ gp_9_26 ?_
  refine z_imul (e := 0) gi_9_27 rfl ?_
  refine z_iload2 gi_9_28 ?_
  refine z_iadd (e := 3) gi_9_29 rfl ?_
  refine z_sald (j := 3) (n := 32) (v := 2) gi_9_30 (by decide) rfl (by decide) (by decide) rfl ?_
  refine z_if_neT gi_9_31 zr_2 (by decide) ?_
  refine z_iload5 gi_9_48 ?_
  refine z_cS1 gi_9_50 (Nat.le_of_ble_eq_true rfl) gc_1_I ?_
  refine z_iload0 gi_1_0 ?_
  refine z_if_ltF gi_1_1 zr_0 (by decide) ?_
  refine z_iload0 gi_1_4 ?_
  refine z_pushJ gp_1_5 ?_
  refine z_icmp_geF gi_1_7 zr_0 zr_8 (by decide) ?_
  refine z_pushJ gp_1_10 ?_
  refine z_goto gi_1_11 ?_
  refine z_bret1 gi_1_15 gr_1 ?_
  show zW _ _ _ _ _ _ _ _ _ _
  refine z_if_eqF gi_9_53 zr_1 (by decide) ?_
  refine z_iload4 gi_9_56 ?_
  refine z_pushJ gp_9_58 ?_
  refine z_icmp_ltT gi_9_60 (by omega) zr_40 (by omega) ?_
  refine z_getS gi_9_65 ?_
  refine z_iload5 gi_9_68 ?_
  refine z_pushJ gp_9_70 ?_
  refine z_imul (e := 0) gi_9_71 rfl ?_
  refine z_iload2 gi_9_72 ?_
  refine z_iadd (e := 3) gi_9_73 rfl ?_
  refine z_sald (j := 3) (n := 32) (v := 2) gi_9_74 (by decide) rfl (by decide) (by decide) rfl ?_
  refine z_istore (ls1 := [some (.ref 34), some (zi 1), some (zi 3), some (zi x), some (zi y), some (zi 0), some (zi 2)]) gi_9_75 rfl ?_
  show zW _ _ _ _ [some (.ref 34), some (zi 1), some (zi 3), some (zi x), some (zi y), some (zi 0), some (zi 2)] [] _ _ _ _
  exact kk
theorem ah_2_0 {X : Nat × (Nat → Int32)} {d : Nat} {J M : zA} {R : zR} {P : zP} {x y : Int} (hy : -2147483648 ≤ y ∧ y < 40) (kk : zW X (d + 1) 9 77 [some (.ref 34), some (zi 2), some (zi 0), some (zi x), some (zi y), some (zi 0), some (zi 1)] [] J M R P) : zW X (d + 1) 9 0 [some (.ref 34), some (zi 2), some (zi 0), some (zi x), some (zi y), none, none] [] J M R P := by
  refine z_iload1 gi_9_0 ?_
  refine z_istore (ls1 := [some (.ref 34), some (zi 2), some (zi 0), some (zi x), some (zi y), some (zi 2), none]) gi_9_1 rfl ?_
  refine z_pushJ gp_9_3 ?_
  refine z_istore (ls1 := [some (.ref 34), some (zi 2), some (zi 0), some (zi x), some (zi y), some (zi 2), some (zi 0)]) gi_9_4 rfl ?_
  refine z_iload6 gi_9_6 ?_
  refine z_pushJ gp_9_8 ?_
  refine z_icmp_geF gi_9_10 zr_0 zr_8 (by decide) ?_
  refine z_iload5 gi_9_13 ?_
  refine z_cS1 gi_9_15 (Nat.le_of_ble_eq_true rfl) gc_1_I ?_
  refine z_iload0 gi_1_0 ?_
  refine z_if_ltF gi_1_1 zr_2 (by decide) ?_
  refine z_iload0 gi_1_4 ?_
  refine z_pushJ gp_1_5 ?_
  refine z_icmp_geF gi_1_7 zr_2 zr_8 (by decide) ?_
  refine z_pushJ gp_1_10 ?_
  refine z_goto gi_1_11 ?_
  refine z_bret1 gi_1_15 gr_1 ?_
  show zW _ _ _ _ _ _ _ _ _ _
  refine z_if_eqF gi_9_18 zr_1 (by decide) ?_
  refine z_getS gi_9_21 ?_
  refine z_iload5 gi_9_24 ?_
  refine z_pushJ gp_9_26 ?_
  refine z_imul (e := 8) gi_9_27 rfl ?_
  refine z_iload2 gi_9_28 ?_
  refine z_iadd (e := 8) gi_9_29 rfl ?_
  refine z_sald (j := 3) (n := 32) (v := 0) gi_9_30 (by decide) rfl (by decide) (by decide) rfl ?_
  refine z_if_neF gi_9_31 zr_0 (by decide) ?_
  refine z_getS gi_9_34 ?_
  refine z_iload5 gi_9_37 ?_
  refine z_sald (j := 4) (n := 8) (v := 0) gi_9_39 (by decide) rfl (by decide) (by decide) rfl ?_
  refine z_istore (ls1 := [some (.ref 34), some (zi 2), some (zi 0), some (zi x), some (zi y), some (zi 0), some (zi 0)]) gi_9_40 rfl ?_
  refine z_iinc (c := 1) (e := 1) (ls1 := [some (.ref 34), some (zi 2), some (zi 0), some (zi x), some (zi y), some (zi 0), some (zi 1)]) gi_9_42 rfl rfl rfl rfl ?_
  refine z_goto gi_9_45 ?_
  show zW _ _ _ _ [some (.ref 34), some (zi 2), some (zi 0), some (zi x), some (zi y), some (zi 0), some (zi 1)] [] _ _ _ _
  refine z_iload6 gi_9_6 ?_
  refine z_pushJ gp_9_8 ?_
  refine z_icmp_geF gi_9_10 zr_1 zr_8 (by decide) ?_
  refine z_iload5 gi_9_13 ?_
  refine z_cS1 gi_9_15 (Nat.le_of_ble_eq_true rfl) gc_1_I ?_
  refine z_iload0 gi_1_0 ?_
  refine z_if_ltF gi_1_1 zr_0 (by decide) ?_
  refine z_iload0 gi_1_4 ?_
  refine z_pushJ gp_1_5 ?_
  refine z_icmp_geF gi_1_7 zr_0 zr_8 (by decide) ?_
  refine z_pushJ gp_1_10 ?_
  refine z_goto gi_1_11 ?_
  refine z_bret1 gi_1_15 gr_1 ?_
  show zW _ _ _ _ _ _ _ _ _ _
  refine z_if_eqF gi_9_18 zr_1 (by decide) ?_
  refine z_getS gi_9_21 ?_
  refine z_iload5 gi_9_24 ?_
  refine z_pushJ gp_9_26 ?_
  refine z_imul (e := 0) gi_9_27 rfl ?_
  refine z_iload2 gi_9_28 ?_
  refine z_iadd (e := 0) gi_9_29 rfl ?_
  refine z_sald (j := 3) (n := 32) (v := 1) gi_9_30 (by decide) rfl (by decide) (by decide) rfl ?_
  refine z_if_neT gi_9_31 zr_1 (by decide) ?_
  refine z_iload5 gi_9_48 ?_
  refine z_cS1 gi_9_50 (Nat.le_of_ble_eq_true rfl) gc_1_I ?_
  refine z_iload0 gi_1_0 ?_
  refine z_if_ltF gi_1_1 zr_0 (by decide) ?_
  refine z_iload0 gi_1_4 ?_
  refine z_pushJ gp_1_5 ?_
  refine z_icmp_geF gi_1_7 zr_0 zr_8 (by decide) ?_
  refine z_pushJ gp_1_10 ?_
  refine z_goto gi_1_11 ?_
  refine z_bret1 gi_1_15 gr_1 ?_
  show zW _ _ _ _ _ _ _ _ _ _
  refine z_if_eqF gi_9_53 zr_1 (by decide) ?_
  refine z_iload4 gi_9_56 ?_
  refine z_pushJ gp_9_58 ?_
  refine z_icmp_ltT gi_9_60 (by omega) zr_40 (by omega) ?_
  refine z_getS gi_9_65 ?_
  refine z_iload5 gi_9_68 ?_
  refine z_pushJ gp_9_70 ?_
  refine z_imul (e := 0) gi_9_71 rfl ?_
  refine z_iload2 gi_9_72 ?_
  refine z_iadd (e := 0) gi_9_73 rfl ?_
  refine z_sald (j := 3) (n := 32) (v := 1) gi_9_74 (by decide) rfl (by decide) (by decide) rfl ?_
  refine z_istore (ls1 := [some (.ref 34), some (zi 2), some (zi 0), some (zi x), some (zi y), some (zi 0), some (zi 1)]) gi_9_75 rfl ?_
  show zW _ _ _ _ [some (.ref 34), some (zi 2), some (zi 0), some (zi x), some (zi y), some (zi 0), some (zi 1)] [] _ _ _ _
  exact kk
theorem ah_2_1 {X : Nat × (Nat → Int32)} {d : Nat} {J M : zA} {R : zR} {P : zP} {x y : Int} (hy : -2147483648 ≤ y ∧ y < 40) (kk : zW X (d + 1) 9 77 [some (.ref 34), some (zi 2), some (zi 1), some (zi x), some (zi y), some (zi 2), some (zi 30)] [] J M R P) : zW X (d + 1) 9 0 [some (.ref 34), some (zi 2), some (zi 1), some (zi x), some (zi y), none, none] [] J M R P := by
  refine z_iload1 gi_9_0 ?_
  refine z_istore (ls1 := [some (.ref 34), some (zi 2), some (zi 1), some (zi x), some (zi y), some (zi 2), none]) gi_9_1 rfl ?_
  refine z_pushJ gp_9_3 ?_
  refine z_istore (ls1 := [some (.ref 34), some (zi 2), some (zi 1), some (zi x), some (zi y), some (zi 2), some (zi 0)]) gi_9_4 rfl ?_
  refine z_iload6 gi_9_6 ?_
  refine z_pushJ gp_9_8 ?_
  refine z_icmp_geF gi_9_10 zr_0 zr_8 (by decide) ?_
  refine z_iload5 gi_9_13 ?_
  refine z_cS1 gi_9_15 (Nat.le_of_ble_eq_true rfl) gc_1_I ?_
  refine z_iload0 gi_1_0 ?_
  refine z_if_ltF gi_1_1 zr_2 (by decide) ?_
  refine z_iload0 gi_1_4 ?_
  refine z_pushJ gp_1_5 ?_
  refine z_icmp_geF gi_1_7 zr_2 zr_8 (by decide) ?_
  refine z_pushJ gp_1_10 ?_
  refine z_goto gi_1_11 ?_
  refine z_bret1 gi_1_15 gr_1 ?_
  show zW _ _ _ _ _ _ _ _ _ _
  refine z_if_eqF gi_9_18 zr_1 (by decide) ?_
  refine z_getS gi_9_21 ?_
  refine z_iload5 gi_9_24 ?_
  refine z_pushJ gp_9_26 ?_
  refine z_imul (e := 8) gi_9_27 rfl ?_
  refine z_iload2 gi_9_28 ?_
  refine z_iadd (e := 9) gi_9_29 rfl ?_
  refine z_sald (j := 3) (n := 32) (v := 30) gi_9_30 (by decide) rfl (by decide) (by decide) rfl ?_
  refine z_if_neT gi_9_31 zr_30 (by decide) ?_
  refine z_iload5 gi_9_48 ?_
  refine z_cS1 gi_9_50 (Nat.le_of_ble_eq_true rfl) gc_1_I ?_
  refine z_iload0 gi_1_0 ?_
  refine z_if_ltF gi_1_1 zr_2 (by decide) ?_
  refine z_iload0 gi_1_4 ?_
  refine z_pushJ gp_1_5 ?_
  refine z_icmp_geF gi_1_7 zr_2 zr_8 (by decide) ?_
  refine z_pushJ gp_1_10 ?_
  refine z_goto gi_1_11 ?_
  refine z_bret1 gi_1_15 gr_1 ?_
  show zW _ _ _ _ _ _ _ _ _ _
  refine z_if_eqF gi_9_53 zr_1 (by decide) ?_
  refine z_iload4 gi_9_56 ?_
  refine z_pushJ gp_9_58 ?_
  refine z_icmp_ltT gi_9_60 (by omega) zr_40 (by omega) ?_
  refine z_getS gi_9_65 ?_
  refine z_iload5 gi_9_68 ?_
  refine z_pushJ gp_9_70 ?_
  refine z_imul (e := 8) gi_9_71 rfl ?_
  refine z_iload2 gi_9_72 ?_
  refine z_iadd (e := 9) gi_9_73 rfl ?_
  refine z_sald (j := 3) (n := 32) (v := 30) gi_9_74 (by decide) rfl (by decide) (by decide) rfl ?_
  refine z_istore (ls1 := [some (.ref 34), some (zi 2), some (zi 1), some (zi x), some (zi y), some (zi 2), some (zi 30)]) gi_9_75 rfl ?_
  show zW _ _ _ _ [some (.ref 34), some (zi 2), some (zi 1), some (zi x), some (zi y), some (zi 2), some (zi 30)] [] _ _ _ _
  exact kk
theorem ah_2_2 {X : Nat × (Nat → Int32)} {d : Nat} {J M : zA} {R : zR} {P : zP} {x y : Int} (hy : -2147483648 ≤ y ∧ y < 40) (kk : zW X (d + 1) 9 77 [some (.ref 34), some (zi 2), some (zi 2), some (zi x), some (zi y), some (zi 0), some (zi 11)] [] J M R P) : zW X (d + 1) 9 0 [some (.ref 34), some (zi 2), some (zi 2), some (zi x), some (zi y), none, none] [] J M R P := by
  refine z_iload1 gi_9_0 ?_
  refine z_istore (ls1 := [some (.ref 34), some (zi 2), some (zi 2), some (zi x), some (zi y), some (zi 2), none]) gi_9_1 rfl ?_
  refine z_pushJ gp_9_3 ?_
  refine z_istore (ls1 := [some (.ref 34), some (zi 2), some (zi 2), some (zi x), some (zi y), some (zi 2), some (zi 0)]) gi_9_4 rfl ?_
  refine z_iload6 gi_9_6 ?_
  refine z_pushJ gp_9_8 ?_
  refine z_icmp_geF gi_9_10 zr_0 zr_8 (by decide) ?_
  refine z_iload5 gi_9_13 ?_
  refine z_cS1 gi_9_15 (Nat.le_of_ble_eq_true rfl) gc_1_I ?_
  refine z_iload0 gi_1_0 ?_
  refine z_if_ltF gi_1_1 zr_2 (by decide) ?_
  refine z_iload0 gi_1_4 ?_
  refine z_pushJ gp_1_5 ?_
  refine z_icmp_geF gi_1_7 zr_2 zr_8 (by decide) ?_
  refine z_pushJ gp_1_10 ?_
  refine z_goto gi_1_11 ?_
  refine z_bret1 gi_1_15 gr_1 ?_
  show zW _ _ _ _ _ _ _ _ _ _
  refine z_if_eqF gi_9_18 zr_1 (by decide) ?_
  refine z_getS gi_9_21 ?_
  refine z_iload5 gi_9_24 ?_
  refine z_pushJ gp_9_26 ?_
  refine z_imul (e := 8) gi_9_27 rfl ?_
  refine z_iload2 gi_9_28 ?_
  refine z_iadd (e := 10) gi_9_29 rfl ?_
  refine z_sald (j := 3) (n := 32) (v := 0) gi_9_30 (by decide) rfl (by decide) (by decide) rfl ?_
  refine z_if_neF gi_9_31 zr_0 (by decide) ?_
  refine z_getS gi_9_34 ?_
  refine z_iload5 gi_9_37 ?_
  refine z_sald (j := 4) (n := 8) (v := 0) gi_9_39 (by decide) rfl (by decide) (by decide) rfl ?_
  refine z_istore (ls1 := [some (.ref 34), some (zi 2), some (zi 2), some (zi x), some (zi y), some (zi 0), some (zi 0)]) gi_9_40 rfl ?_
  refine z_iinc (c := 1) (e := 1) (ls1 := [some (.ref 34), some (zi 2), some (zi 2), some (zi x), some (zi y), some (zi 0), some (zi 1)]) gi_9_42 rfl rfl rfl rfl ?_
  refine z_goto gi_9_45 ?_
  show zW _ _ _ _ [some (.ref 34), some (zi 2), some (zi 2), some (zi x), some (zi y), some (zi 0), some (zi 1)] [] _ _ _ _
  refine z_iload6 gi_9_6 ?_
  refine z_pushJ gp_9_8 ?_
  refine z_icmp_geF gi_9_10 zr_1 zr_8 (by decide) ?_
  refine z_iload5 gi_9_13 ?_
  refine z_cS1 gi_9_15 (Nat.le_of_ble_eq_true rfl) gc_1_I ?_
  refine z_iload0 gi_1_0 ?_
  refine z_if_ltF gi_1_1 zr_0 (by decide) ?_
  refine z_iload0 gi_1_4 ?_
  refine z_pushJ gp_1_5 ?_
  refine z_icmp_geF gi_1_7 zr_0 zr_8 (by decide) ?_
  refine z_pushJ gp_1_10 ?_
  refine z_goto gi_1_11 ?_
  refine z_bret1 gi_1_15 gr_1 ?_
  show zW _ _ _ _ _ _ _ _ _ _
  refine z_if_eqF gi_9_18 zr_1 (by decide) ?_
  refine z_getS gi_9_21 ?_
  refine z_iload5 gi_9_24 ?_
  refine z_pushJ gp_9_26 ?_
  refine z_imul (e := 0) gi_9_27 rfl ?_
  refine z_iload2 gi_9_28 ?_
  refine z_iadd (e := 2) gi_9_29 rfl ?_
  refine z_sald (j := 3) (n := 32) (v := 11) gi_9_30 (by decide) rfl (by decide) (by decide) rfl ?_
  refine z_if_neT gi_9_31 zr_11 (by decide) ?_
  refine z_iload5 gi_9_48 ?_
  refine z_cS1 gi_9_50 (Nat.le_of_ble_eq_true rfl) gc_1_I ?_
  refine z_iload0 gi_1_0 ?_
  refine z_if_ltF gi_1_1 zr_0 (by decide) ?_
  refine z_iload0 gi_1_4 ?_
  refine z_pushJ gp_1_5 ?_
  refine z_icmp_geF gi_1_7 zr_0 zr_8 (by decide) ?_
  refine z_pushJ gp_1_10 ?_
  refine z_goto gi_1_11 ?_
  refine z_bret1 gi_1_15 gr_1 ?_
  show zW _ _ _ _ _ _ _ _ _ _
  refine z_if_eqF gi_9_53 zr_1 (by decide) ?_
  refine z_iload4 gi_9_56 ?_
  refine z_pushJ gp_9_58 ?_
  refine z_icmp_ltT gi_9_60 (by omega) zr_40 (by omega) ?_
  refine z_getS gi_9_65 ?_
  refine z_iload5 gi_9_68 ?_
  refine z_pushJ gp_9_70 ?_
  refine z_imul (e := 0) gi_9_71 rfl ?_
  refine z_iload2 gi_9_72 ?_
  refine z_iadd (e := 2) gi_9_73 rfl ?_
  refine z_sald (j := 3) (n := 32) (v := 11) gi_9_74 (by decide) rfl (by decide) (by decide) rfl ?_
  refine z_istore (ls1 := [some (.ref 34), some (zi 2), some (zi 2), some (zi x), some (zi y), some (zi 0), some (zi 11)]) gi_9_75 rfl ?_
  show zW _ _ _ _ [some (.ref 34), some (zi 2), some (zi 2), some (zi x), some (zi y), some (zi 0), some (zi 11)] [] _ _ _ _
  exact kk
theorem ah_2_3 {X : Nat × (Nat → Int32)} {d : Nat} {J M : zA} {R : zR} {P : zP} {x y : Int} (hy : -2147483648 ≤ y ∧ y < 40) (kk : zW X (d + 1) 9 77 [some (.ref 34), some (zi 2), some (zi 3), some (zi x), some (zi y), some (zi 0), some (zi 2)] [] J M R P) : zW X (d + 1) 9 0 [some (.ref 34), some (zi 2), some (zi 3), some (zi x), some (zi y), none, none] [] J M R P := by
  refine z_iload1 gi_9_0 ?_
  refine z_istore (ls1 := [some (.ref 34), some (zi 2), some (zi 3), some (zi x), some (zi y), some (zi 2), none]) gi_9_1 rfl ?_
  refine z_pushJ gp_9_3 ?_
  refine z_istore (ls1 := [some (.ref 34), some (zi 2), some (zi 3), some (zi x), some (zi y), some (zi 2), some (zi 0)]) gi_9_4 rfl ?_
  refine z_iload6 gi_9_6 ?_
  refine z_pushJ gp_9_8 ?_
  refine z_icmp_geF gi_9_10 zr_0 zr_8 (by decide) ?_
  refine z_iload5 gi_9_13 ?_
  refine z_cS1 gi_9_15 (Nat.le_of_ble_eq_true rfl) gc_1_I ?_
  refine z_iload0 gi_1_0 ?_
  refine z_if_ltF gi_1_1 zr_2 (by decide) ?_
  refine z_iload0 gi_1_4 ?_
  refine z_pushJ gp_1_5 ?_
  refine z_icmp_geF gi_1_7 zr_2 zr_8 (by decide) ?_
  refine z_pushJ gp_1_10 ?_
  refine z_goto gi_1_11 ?_
  refine z_bret1 gi_1_15 gr_1 ?_
  show zW _ _ _ _ _ _ _ _ _ _
  refine z_if_eqF gi_9_18 zr_1 (by decide) ?_
  refine z_getS gi_9_21 ?_
  refine z_iload5 gi_9_24 ?_
  refine z_pushJ gp_9_26 ?_
  refine z_imul (e := 8) gi_9_27 rfl ?_
  refine z_iload2 gi_9_28 ?_
  refine z_iadd (e := 11) gi_9_29 rfl ?_
  refine z_sald (j := 3) (n := 32) (v := 0) gi_9_30 (by decide) rfl (by decide) (by decide) rfl ?_
  refine z_if_neF gi_9_31 zr_0 (by decide) ?_
  refine z_getS gi_9_34 ?_
  refine z_iload5 gi_9_37 ?_
  refine z_sald (j := 4) (n := 8) (v := 0) gi_9_39 (by decide) rfl (by decide) (by decide) rfl ?_
  refine z_istore (ls1 := [some (.ref 34), some (zi 2), some (zi 3), some (zi x), some (zi y), some (zi 0), some (zi 0)]) gi_9_40 rfl ?_
  refine z_iinc (c := 1) (e := 1) (ls1 := [some (.ref 34), some (zi 2), some (zi 3), some (zi x), some (zi y), some (zi 0), some (zi 1)]) gi_9_42 rfl rfl rfl rfl ?_
  refine z_goto gi_9_45 ?_
  show zW _ _ _ _ [some (.ref 34), some (zi 2), some (zi 3), some (zi x), some (zi y), some (zi 0), some (zi 1)] [] _ _ _ _
  refine z_iload6 gi_9_6 ?_
  refine z_pushJ gp_9_8 ?_
  refine z_icmp_geF gi_9_10 zr_1 zr_8 (by decide) ?_
  refine z_iload5 gi_9_13 ?_
  refine z_cS1 gi_9_15 (Nat.le_of_ble_eq_true rfl) gc_1_I ?_
  refine z_iload0 gi_1_0 ?_
  refine z_if_ltF gi_1_1 zr_0 (by decide) ?_
  refine z_iload0 gi_1_4 ?_
  refine z_pushJ gp_1_5 ?_
  refine z_icmp_geF gi_1_7 zr_0 zr_8 (by decide) ?_
  refine z_pushJ gp_1_10 ?_
  refine z_goto gi_1_11 ?_
  refine z_bret1 gi_1_15 gr_1 ?_
  show zW _ _ _ _ _ _ _ _ _ _
  refine z_if_eqF gi_9_18 zr_1 (by decide) ?_
  refine z_getS gi_9_21 ?_
  refine z_iload5 gi_9_24 ?_
  refine z_pushJ gp_9_26 ?_
  refine z_imul (e := 0) gi_9_27 rfl ?_
  refine z_iload2 gi_9_28 ?_
  refine z_iadd (e := 3) gi_9_29 rfl ?_
  refine z_sald (j := 3) (n := 32) (v := 2) gi_9_30 (by decide) rfl (by decide) (by decide) rfl ?_
  refine z_if_neT gi_9_31 zr_2 (by decide) ?_
  refine z_iload5 gi_9_48 ?_
  refine z_cS1 gi_9_50 (Nat.le_of_ble_eq_true rfl) gc_1_I ?_
  refine z_iload0 gi_1_0 ?_
  refine z_if_ltF gi_1_1 zr_0 (by decide) ?_
  refine z_iload0 gi_1_4 ?_
  refine z_pushJ gp_1_5 ?_
  refine z_icmp_geF gi_1_7 zr_0 zr_8 (by decide) ?_
  refine z_pushJ gp_1_10 ?_
  refine z_goto gi_1_11 ?_
  refine z_bret1 gi_1_15 gr_1 ?_
  show zW _ _ _ _ _ _ _ _ _ _
  refine z_if_eqF gi_9_53 zr_1 (by decide) ?_
  refine z_iload4 gi_9_56 ?_
  refine z_pushJ gp_9_58 ?_
  refine z_icmp_ltT gi_9_60 (by omega) zr_40 (by omega) ?_
  refine z_getS gi_9_65 ?_
  refine z_iload5 gi_9_68 ?_
  refine z_pushJ gp_9_70 ?_
  refine z_imul (e := 0) gi_9_71 rfl ?_
  refine z_iload2 gi_9_72 ?_
  refine z_iadd (e := 3) gi_9_73 rfl ?_
  refine z_sald (j := 3) (n := 32) (v := 2) gi_9_74 (by decide) rfl (by decide) (by decide) rfl ?_
  refine z_istore (ls1 := [some (.ref 34), some (zi 2), some (zi 3), some (zi x), some (zi y), some (zi 0), some (zi 2)]) gi_9_75 rfl ?_
  show zW _ _ _ _ [some (.ref 34), some (zi 2), some (zi 3), some (zi x), some (zi y), some (zi 0), some (zi 2)] [] _ _ _ _
  exact kk
theorem ah_3_0 {X : Nat × (Nat → Int32)} {d : Nat} {J M : zA} {R : zR} {P : zP} {x y : Int} (hy : -2147483648 ≤ y ∧ y < 40) (kk : zW X (d + 1) 9 77 [some (.ref 34), some (zi 3), some (zi 0), some (zi x), some (zi y), some (zi 0), some (zi 1)] [] J M R P) : zW X (d + 1) 9 0 [some (.ref 34), some (zi 3), some (zi 0), some (zi x), some (zi y), none, none] [] J M R P := by
  refine z_iload1 gi_9_0 ?_
  refine z_istore (ls1 := [some (.ref 34), some (zi 3), some (zi 0), some (zi x), some (zi y), some (zi 3), none]) gi_9_1 rfl ?_
  refine z_pushJ gp_9_3 ?_
  refine z_istore (ls1 := [some (.ref 34), some (zi 3), some (zi 0), some (zi x), some (zi y), some (zi 3), some (zi 0)]) gi_9_4 rfl ?_
  refine z_iload6 gi_9_6 ?_
  refine z_pushJ gp_9_8 ?_
  refine z_icmp_geF gi_9_10 zr_0 zr_8 (by decide) ?_
  refine z_iload5 gi_9_13 ?_
  refine z_cS1 gi_9_15 (Nat.le_of_ble_eq_true rfl) gc_1_I ?_
  refine z_iload0 gi_1_0 ?_
  refine z_if_ltF gi_1_1 zr_3 (by decide) ?_
  refine z_iload0 gi_1_4 ?_
  refine z_pushJ gp_1_5 ?_
  refine z_icmp_geF gi_1_7 zr_3 zr_8 (by decide) ?_
  refine z_pushJ gp_1_10 ?_
  refine z_goto gi_1_11 ?_
  refine z_bret1 gi_1_15 gr_1 ?_
  show zW _ _ _ _ _ _ _ _ _ _
  refine z_if_eqF gi_9_18 zr_1 (by decide) ?_
  refine z_getS gi_9_21 ?_
  refine z_iload5 gi_9_24 ?_
  refine z_pushJ gp_9_26 ?_
  refine z_imul (e := 12) gi_9_27 rfl ?_
  refine z_iload2 gi_9_28 ?_
  refine z_iadd (e := 12) gi_9_29 rfl ?_
  refine z_sald (j := 3) (n := 32) (v := 0) gi_9_30 (by decide) rfl (by decide) (by decide) rfl ?_
  refine z_if_neF gi_9_31 zr_0 (by decide) ?_
  refine z_getS gi_9_34 ?_
  refine z_iload5 gi_9_37 ?_
  refine z_sald (j := 4) (n := 8) (v := 2) gi_9_39 (by decide) rfl (by decide) (by decide) rfl ?_
  refine z_istore (ls1 := [some (.ref 34), some (zi 3), some (zi 0), some (zi x), some (zi y), some (zi 2), some (zi 0)]) gi_9_40 rfl ?_
  refine z_iinc (c := 1) (e := 1) (ls1 := [some (.ref 34), some (zi 3), some (zi 0), some (zi x), some (zi y), some (zi 2), some (zi 1)]) gi_9_42 rfl rfl rfl rfl ?_
  refine z_goto gi_9_45 ?_
  show zW _ _ _ _ [some (.ref 34), some (zi 3), some (zi 0), some (zi x), some (zi y), some (zi 2), some (zi 1)] [] _ _ _ _
  refine z_iload6 gi_9_6 ?_
  refine z_pushJ gp_9_8 ?_
  refine z_icmp_geF gi_9_10 zr_1 zr_8 (by decide) ?_
  refine z_iload5 gi_9_13 ?_
  refine z_cS1 gi_9_15 (Nat.le_of_ble_eq_true rfl) gc_1_I ?_
  refine z_iload0 gi_1_0 ?_
  refine z_if_ltF gi_1_1 zr_2 (by decide) ?_
  refine z_iload0 gi_1_4 ?_
  refine z_pushJ gp_1_5 ?_
  refine z_icmp_geF gi_1_7 zr_2 zr_8 (by decide) ?_
  refine z_pushJ gp_1_10 ?_
  refine z_goto gi_1_11 ?_
  refine z_bret1 gi_1_15 gr_1 ?_
  show zW _ _ _ _ _ _ _ _ _ _
  refine z_if_eqF gi_9_18 zr_1 (by decide) ?_
  refine z_getS gi_9_21 ?_
  refine z_iload5 gi_9_24 ?_
  refine z_pushJ gp_9_26 ?_
  refine z_imul (e := 8) gi_9_27 rfl ?_
  refine z_iload2 gi_9_28 ?_
  refine z_iadd (e := 8) gi_9_29 rfl ?_
  refine z_sald (j := 3) (n := 32) (v := 0) gi_9_30 (by decide) rfl (by decide) (by decide) rfl ?_
  refine z_if_neF gi_9_31 zr_0 (by decide) ?_
  refine z_getS gi_9_34 ?_
  refine z_iload5 gi_9_37 ?_
  refine z_sald (j := 4) (n := 8) (v := 0) gi_9_39 (by decide) rfl (by decide) (by decide) rfl ?_
  refine z_istore (ls1 := [some (.ref 34), some (zi 3), some (zi 0), some (zi x), some (zi y), some (zi 0), some (zi 1)]) gi_9_40 rfl ?_
  refine z_iinc (c := 1) (e := 2) (ls1 := [some (.ref 34), some (zi 3), some (zi 0), some (zi x), some (zi y), some (zi 0), some (zi 2)]) gi_9_42 rfl rfl rfl rfl ?_
  refine z_goto gi_9_45 ?_
  show zW _ _ _ _ [some (.ref 34), some (zi 3), some (zi 0), some (zi x), some (zi y), some (zi 0), some (zi 2)] [] _ _ _ _
  refine z_iload6 gi_9_6 ?_
  refine z_pushJ gp_9_8 ?_
  refine z_icmp_geF gi_9_10 zr_2 zr_8 (by decide) ?_
  refine z_iload5 gi_9_13 ?_
  refine z_cS1 gi_9_15 (Nat.le_of_ble_eq_true rfl) gc_1_I ?_
  refine z_iload0 gi_1_0 ?_
  refine z_if_ltF gi_1_1 zr_0 (by decide) ?_
  refine z_iload0 gi_1_4 ?_
  refine z_pushJ gp_1_5 ?_
  refine z_icmp_geF gi_1_7 zr_0 zr_8 (by decide) ?_
  refine z_pushJ gp_1_10 ?_
  refine z_goto gi_1_11 ?_
  refine z_bret1 gi_1_15 gr_1 ?_
  show zW _ _ _ _ _ _ _ _ _ _
  refine z_if_eqF gi_9_18 zr_1 (by decide) ?_
  refine z_getS gi_9_21 ?_
  refine z_iload5 gi_9_24 ?_
  refine z_pushJ gp_9_26 ?_
  refine z_imul (e := 0) gi_9_27 rfl ?_
  refine z_iload2 gi_9_28 ?_
  refine z_iadd (e := 0) gi_9_29 rfl ?_
  refine z_sald (j := 3) (n := 32) (v := 1) gi_9_30 (by decide) rfl (by decide) (by decide) rfl ?_
  refine z_if_neT gi_9_31 zr_1 (by decide) ?_
  refine z_iload5 gi_9_48 ?_
  refine z_cS1 gi_9_50 (Nat.le_of_ble_eq_true rfl) gc_1_I ?_
  refine z_iload0 gi_1_0 ?_
  refine z_if_ltF gi_1_1 zr_0 (by decide) ?_
  refine z_iload0 gi_1_4 ?_
  refine z_pushJ gp_1_5 ?_
  refine z_icmp_geF gi_1_7 zr_0 zr_8 (by decide) ?_
  refine z_pushJ gp_1_10 ?_
  refine z_goto gi_1_11 ?_
  refine z_bret1 gi_1_15 gr_1 ?_
  show zW _ _ _ _ _ _ _ _ _ _
  refine z_if_eqF gi_9_53 zr_1 (by decide) ?_
  refine z_iload4 gi_9_56 ?_
  refine z_pushJ gp_9_58 ?_
  refine z_icmp_ltT gi_9_60 (by omega) zr_40 (by omega) ?_
  refine z_getS gi_9_65 ?_
  refine z_iload5 gi_9_68 ?_
  refine z_pushJ gp_9_70 ?_
  refine z_imul (e := 0) gi_9_71 rfl ?_
  refine z_iload2 gi_9_72 ?_
  refine z_iadd (e := 0) gi_9_73 rfl ?_
  refine z_sald (j := 3) (n := 32) (v := 1) gi_9_74 (by decide) rfl (by decide) (by decide) rfl ?_
  refine z_istore (ls1 := [some (.ref 34), some (zi 3), some (zi 0), some (zi x), some (zi y), some (zi 0), some (zi 1)]) gi_9_75 rfl ?_
  show zW _ _ _ _ [some (.ref 34), some (zi 3), some (zi 0), some (zi x), some (zi y), some (zi 0), some (zi 1)] [] _ _ _ _
  exact kk
theorem ah_3_1 {X : Nat × (Nat → Int32)} {d : Nat} {J M : zA} {R : zR} {P : zP} {x y : Int} (hy : -2147483648 ≤ y ∧ y < 40) (kk : zW X (d + 1) 9 77 [some (.ref 34), some (zi 3), some (zi 1), some (zi x), some (zi y), some (zi 3), some (zi 41)] [] J M R P) : zW X (d + 1) 9 0 [some (.ref 34), some (zi 3), some (zi 1), some (zi x), some (zi y), none, none] [] J M R P := by
  refine z_iload1 gi_9_0 ?_
  refine z_istore (ls1 := [some (.ref 34), some (zi 3), some (zi 1), some (zi x), some (zi y), some (zi 3), none]) gi_9_1 rfl ?_
  refine z_pushJ gp_9_3 ?_
  refine z_istore (ls1 := [some (.ref 34), some (zi 3), some (zi 1), some (zi x), some (zi y), some (zi 3), some (zi 0)]) gi_9_4 rfl ?_
  refine z_iload6 gi_9_6 ?_
  refine z_pushJ gp_9_8 ?_
  refine z_icmp_geF gi_9_10 zr_0 zr_8 (by decide) ?_
  refine z_iload5 gi_9_13 ?_
  refine z_cS1 gi_9_15 (Nat.le_of_ble_eq_true rfl) gc_1_I ?_
  refine z_iload0 gi_1_0 ?_
  refine z_if_ltF gi_1_1 zr_3 (by decide) ?_
  refine z_iload0 gi_1_4 ?_
  refine z_pushJ gp_1_5 ?_
  refine z_icmp_geF gi_1_7 zr_3 zr_8 (by decide) ?_
  refine z_pushJ gp_1_10 ?_
  refine z_goto gi_1_11 ?_
  refine z_bret1 gi_1_15 gr_1 ?_
  show zW _ _ _ _ _ _ _ _ _ _
  refine z_if_eqF gi_9_18 zr_1 (by decide) ?_
  refine z_getS gi_9_21 ?_
  refine z_iload5 gi_9_24 ?_
  refine z_pushJ gp_9_26 ?_
  refine z_imul (e := 12) gi_9_27 rfl ?_
  refine z_iload2 gi_9_28 ?_
  refine z_iadd (e := 13) gi_9_29 rfl ?_
  refine z_sald (j := 3) (n := 32) (v := 41) gi_9_30 (by decide) rfl (by decide) (by decide) rfl ?_
  refine z_if_neT gi_9_31 zr_41 (by decide) ?_
  refine z_iload5 gi_9_48 ?_
  refine z_cS1 gi_9_50 (Nat.le_of_ble_eq_true rfl) gc_1_I ?_
  refine z_iload0 gi_1_0 ?_
  refine z_if_ltF gi_1_1 zr_3 (by decide) ?_
  refine z_iload0 gi_1_4 ?_
  refine z_pushJ gp_1_5 ?_
  refine z_icmp_geF gi_1_7 zr_3 zr_8 (by decide) ?_
  refine z_pushJ gp_1_10 ?_
  refine z_goto gi_1_11 ?_
  refine z_bret1 gi_1_15 gr_1 ?_
  show zW _ _ _ _ _ _ _ _ _ _
  refine z_if_eqF gi_9_53 zr_1 (by decide) ?_
  refine z_iload4 gi_9_56 ?_
  refine z_pushJ gp_9_58 ?_
  refine z_icmp_ltT gi_9_60 (by omega) zr_40 (by omega) ?_
  refine z_getS gi_9_65 ?_
  refine z_iload5 gi_9_68 ?_
  refine z_pushJ gp_9_70 ?_
  refine z_imul (e := 12) gi_9_71 rfl ?_
  refine z_iload2 gi_9_72 ?_
  refine z_iadd (e := 13) gi_9_73 rfl ?_
  refine z_sald (j := 3) (n := 32) (v := 41) gi_9_74 (by decide) rfl (by decide) (by decide) rfl ?_
  refine z_istore (ls1 := [some (.ref 34), some (zi 3), some (zi 1), some (zi x), some (zi y), some (zi 3), some (zi 41)]) gi_9_75 rfl ?_
  show zW _ _ _ _ [some (.ref 34), some (zi 3), some (zi 1), some (zi x), some (zi y), some (zi 3), some (zi 41)] [] _ _ _ _
  exact kk
theorem ah_3_2 {X : Nat × (Nat → Int32)} {d : Nat} {J M : zA} {R : zR} {P : zP} {x y : Int} (hy : -2147483648 ≤ y ∧ y < 40) (kk : zW X (d + 1) 9 77 [some (.ref 34), some (zi 3), some (zi 2), some (zi x), some (zi y), some (zi 3), some (zi 40)] [] J M R P) : zW X (d + 1) 9 0 [some (.ref 34), some (zi 3), some (zi 2), some (zi x), some (zi y), none, none] [] J M R P := by
  refine z_iload1 gi_9_0 ?_
  refine z_istore (ls1 := [some (.ref 34), some (zi 3), some (zi 2), some (zi x), some (zi y), some (zi 3), none]) gi_9_1 rfl ?_
  refine z_pushJ gp_9_3 ?_
  refine z_istore (ls1 := [some (.ref 34), some (zi 3), some (zi 2), some (zi x), some (zi y), some (zi 3), some (zi 0)]) gi_9_4 rfl ?_
  refine z_iload6 gi_9_6 ?_
  refine z_pushJ gp_9_8 ?_
  refine z_icmp_geF gi_9_10 zr_0 zr_8 (by decide) ?_
  refine z_iload5 gi_9_13 ?_
  refine z_cS1 gi_9_15 (Nat.le_of_ble_eq_true rfl) gc_1_I ?_
  refine z_iload0 gi_1_0 ?_
  refine z_if_ltF gi_1_1 zr_3 (by decide) ?_
  refine z_iload0 gi_1_4 ?_
  refine z_pushJ gp_1_5 ?_
  refine z_icmp_geF gi_1_7 zr_3 zr_8 (by decide) ?_
  refine z_pushJ gp_1_10 ?_
  refine z_goto gi_1_11 ?_
  refine z_bret1 gi_1_15 gr_1 ?_
  show zW _ _ _ _ _ _ _ _ _ _
  refine z_if_eqF gi_9_18 zr_1 (by decide) ?_
  refine z_getS gi_9_21 ?_
  refine z_iload5 gi_9_24 ?_
  refine z_pushJ gp_9_26 ?_
  refine z_imul (e := 12) gi_9_27 rfl ?_
  refine z_iload2 gi_9_28 ?_
  refine z_iadd (e := 14) gi_9_29 rfl ?_
  refine z_sald (j := 3) (n := 32) (v := 40) gi_9_30 (by decide) rfl (by decide) (by decide) rfl ?_
  refine z_if_neT gi_9_31 zr_40 (by decide) ?_
  refine z_iload5 gi_9_48 ?_
  refine z_cS1 gi_9_50 (Nat.le_of_ble_eq_true rfl) gc_1_I ?_
  refine z_iload0 gi_1_0 ?_
  refine z_if_ltF gi_1_1 zr_3 (by decide) ?_
  refine z_iload0 gi_1_4 ?_
  refine z_pushJ gp_1_5 ?_
  refine z_icmp_geF gi_1_7 zr_3 zr_8 (by decide) ?_
  refine z_pushJ gp_1_10 ?_
  refine z_goto gi_1_11 ?_
  refine z_bret1 gi_1_15 gr_1 ?_
  show zW _ _ _ _ _ _ _ _ _ _
  refine z_if_eqF gi_9_53 zr_1 (by decide) ?_
  refine z_iload4 gi_9_56 ?_
  refine z_pushJ gp_9_58 ?_
  refine z_icmp_ltT gi_9_60 (by omega) zr_40 (by omega) ?_
  refine z_getS gi_9_65 ?_
  refine z_iload5 gi_9_68 ?_
  refine z_pushJ gp_9_70 ?_
  refine z_imul (e := 12) gi_9_71 rfl ?_
  refine z_iload2 gi_9_72 ?_
  refine z_iadd (e := 14) gi_9_73 rfl ?_
  refine z_sald (j := 3) (n := 32) (v := 40) gi_9_74 (by decide) rfl (by decide) (by decide) rfl ?_
  refine z_istore (ls1 := [some (.ref 34), some (zi 3), some (zi 2), some (zi x), some (zi y), some (zi 3), some (zi 40)]) gi_9_75 rfl ?_
  show zW _ _ _ _ [some (.ref 34), some (zi 3), some (zi 2), some (zi x), some (zi y), some (zi 3), some (zi 40)] [] _ _ _ _
  exact kk
theorem ah_3_3 {X : Nat × (Nat → Int32)} {d : Nat} {J M : zA} {R : zR} {P : zP} {x y : Int} (hy : -2147483648 ≤ y ∧ y < 40) (kk : zW X (d + 1) 9 77 [some (.ref 34), some (zi 3), some (zi 3), some (zi x), some (zi y), some (zi 0), some (zi 2)] [] J M R P) : zW X (d + 1) 9 0 [some (.ref 34), some (zi 3), some (zi 3), some (zi x), some (zi y), none, none] [] J M R P := by
  refine z_iload1 gi_9_0 ?_
  refine z_istore (ls1 := [some (.ref 34), some (zi 3), some (zi 3), some (zi x), some (zi y), some (zi 3), none]) gi_9_1 rfl ?_
  refine z_pushJ gp_9_3 ?_
  refine z_istore (ls1 := [some (.ref 34), some (zi 3), some (zi 3), some (zi x), some (zi y), some (zi 3), some (zi 0)]) gi_9_4 rfl ?_
  refine z_iload6 gi_9_6 ?_
  refine z_pushJ gp_9_8 ?_
  refine z_icmp_geF gi_9_10 zr_0 zr_8 (by decide) ?_
  refine z_iload5 gi_9_13 ?_
  refine z_cS1 gi_9_15 (Nat.le_of_ble_eq_true rfl) gc_1_I ?_
  refine z_iload0 gi_1_0 ?_
  refine z_if_ltF gi_1_1 zr_3 (by decide) ?_
  refine z_iload0 gi_1_4 ?_
  refine z_pushJ gp_1_5 ?_
  refine z_icmp_geF gi_1_7 zr_3 zr_8 (by decide) ?_
  refine z_pushJ gp_1_10 ?_
  refine z_goto gi_1_11 ?_
  refine z_bret1 gi_1_15 gr_1 ?_
  show zW _ _ _ _ _ _ _ _ _ _
  refine z_if_eqF gi_9_18 zr_1 (by decide) ?_
  refine z_getS gi_9_21 ?_
  refine z_iload5 gi_9_24 ?_
  refine z_pushJ gp_9_26 ?_
  refine z_imul (e := 12) gi_9_27 rfl ?_
  refine z_iload2 gi_9_28 ?_
  refine z_iadd (e := 15) gi_9_29 rfl ?_
  refine z_sald (j := 3) (n := 32) (v := 0) gi_9_30 (by decide) rfl (by decide) (by decide) rfl ?_
  refine z_if_neF gi_9_31 zr_0 (by decide) ?_
  refine z_getS gi_9_34 ?_
  refine z_iload5 gi_9_37 ?_
  refine z_sald (j := 4) (n := 8) (v := 2) gi_9_39 (by decide) rfl (by decide) (by decide) rfl ?_
  refine z_istore (ls1 := [some (.ref 34), some (zi 3), some (zi 3), some (zi x), some (zi y), some (zi 2), some (zi 0)]) gi_9_40 rfl ?_
  refine z_iinc (c := 1) (e := 1) (ls1 := [some (.ref 34), some (zi 3), some (zi 3), some (zi x), some (zi y), some (zi 2), some (zi 1)]) gi_9_42 rfl rfl rfl rfl ?_
  refine z_goto gi_9_45 ?_
  show zW _ _ _ _ [some (.ref 34), some (zi 3), some (zi 3), some (zi x), some (zi y), some (zi 2), some (zi 1)] [] _ _ _ _
  refine z_iload6 gi_9_6 ?_
  refine z_pushJ gp_9_8 ?_
  refine z_icmp_geF gi_9_10 zr_1 zr_8 (by decide) ?_
  refine z_iload5 gi_9_13 ?_
  refine z_cS1 gi_9_15 (Nat.le_of_ble_eq_true rfl) gc_1_I ?_
  refine z_iload0 gi_1_0 ?_
  refine z_if_ltF gi_1_1 zr_2 (by decide) ?_
  refine z_iload0 gi_1_4 ?_
  refine z_pushJ gp_1_5 ?_
  refine z_icmp_geF gi_1_7 zr_2 zr_8 (by decide) ?_
  refine z_pushJ gp_1_10 ?_
  refine z_goto gi_1_11 ?_
  refine z_bret1 gi_1_15 gr_1 ?_
  show zW _ _ _ _ _ _ _ _ _ _
  refine z_if_eqF gi_9_18 zr_1 (by decide) ?_
  refine z_getS gi_9_21 ?_
  refine z_iload5 gi_9_24 ?_
  refine z_pushJ gp_9_26 ?_
  refine z_imul (e := 8) gi_9_27 rfl ?_
  refine z_iload2 gi_9_28 ?_
  refine z_iadd (e := 11) gi_9_29 rfl ?_
  refine z_sald (j := 3) (n := 32) (v := 0) gi_9_30 (by decide) rfl (by decide) (by decide) rfl ?_
  refine z_if_neF gi_9_31 zr_0 (by decide) ?_
  refine z_getS gi_9_34 ?_
  refine z_iload5 gi_9_37 ?_
  refine z_sald (j := 4) (n := 8) (v := 0) gi_9_39 (by decide) rfl (by decide) (by decide) rfl ?_
  refine z_istore (ls1 := [some (.ref 34), some (zi 3), some (zi 3), some (zi x), some (zi y), some (zi 0), some (zi 1)]) gi_9_40 rfl ?_
  refine z_iinc (c := 1) (e := 2) (ls1 := [some (.ref 34), some (zi 3), some (zi 3), some (zi x), some (zi y), some (zi 0), some (zi 2)]) gi_9_42 rfl rfl rfl rfl ?_
  refine z_goto gi_9_45 ?_
  show zW _ _ _ _ [some (.ref 34), some (zi 3), some (zi 3), some (zi x), some (zi y), some (zi 0), some (zi 2)] [] _ _ _ _
  refine z_iload6 gi_9_6 ?_
  refine z_pushJ gp_9_8 ?_
  refine z_icmp_geF gi_9_10 zr_2 zr_8 (by decide) ?_
  refine z_iload5 gi_9_13 ?_
  refine z_cS1 gi_9_15 (Nat.le_of_ble_eq_true rfl) gc_1_I ?_
  refine z_iload0 gi_1_0 ?_
  refine z_if_ltF gi_1_1 zr_0 (by decide) ?_
  refine z_iload0 gi_1_4 ?_
  refine z_pushJ gp_1_5 ?_
  refine z_icmp_geF gi_1_7 zr_0 zr_8 (by decide) ?_
  refine z_pushJ gp_1_10 ?_
  refine z_goto gi_1_11 ?_
  refine z_bret1 gi_1_15 gr_1 ?_
  show zW _ _ _ _ _ _ _ _ _ _
  refine z_if_eqF gi_9_18 zr_1 (by decide) ?_
  refine z_getS gi_9_21 ?_
  refine z_iload5 gi_9_24 ?_
  refine z_pushJ gp_9_26 ?_
  refine z_imul (e := 0) gi_9_27 rfl ?_
  refine z_iload2 gi_9_28 ?_
  refine z_iadd (e := 3) gi_9_29 rfl ?_
  refine z_sald (j := 3) (n := 32) (v := 2) gi_9_30 (by decide) rfl (by decide) (by decide) rfl ?_
  refine z_if_neT gi_9_31 zr_2 (by decide) ?_
  refine z_iload5 gi_9_48 ?_
  refine z_cS1 gi_9_50 (Nat.le_of_ble_eq_true rfl) gc_1_I ?_
  refine z_iload0 gi_1_0 ?_
  refine z_if_ltF gi_1_1 zr_0 (by decide) ?_
  refine z_iload0 gi_1_4 ?_
  refine z_pushJ gp_1_5 ?_
  refine z_icmp_geF gi_1_7 zr_0 zr_8 (by decide) ?_
  refine z_pushJ gp_1_10 ?_
  refine z_goto gi_1_11 ?_
  refine z_bret1 gi_1_15 gr_1 ?_
  show zW _ _ _ _ _ _ _ _ _ _
  refine z_if_eqF gi_9_53 zr_1 (by decide) ?_
  refine z_iload4 gi_9_56 ?_
  refine z_pushJ gp_9_58 ?_
  refine z_icmp_ltT gi_9_60 (by omega) zr_40 (by omega) ?_
  refine z_getS gi_9_65 ?_
  refine z_iload5 gi_9_68 ?_
  refine z_pushJ gp_9_70 ?_
  refine z_imul (e := 0) gi_9_71 rfl ?_
  refine z_iload2 gi_9_72 ?_
  refine z_iadd (e := 3) gi_9_73 rfl ?_
  refine z_sald (j := 3) (n := 32) (v := 2) gi_9_74 (by decide) rfl (by decide) (by decide) rfl ?_
  refine z_istore (ls1 := [some (.ref 34), some (zi 3), some (zi 3), some (zi x), some (zi y), some (zi 0), some (zi 2)]) gi_9_75 rfl ?_
  show zW _ _ _ _ [some (.ref 34), some (zi 3), some (zi 3), some (zi x), some (zi y), some (zi 0), some (zi 2)] [] _ _ _ _
  exact kk
theorem ah_4_0 {X : Nat × (Nat → Int32)} {d : Nat} {J M : zA} {R : zR} {P : zP} {x y : Int} (hy : -2147483648 ≤ y ∧ y < 40) (kk : zW X (d + 1) 9 77 [some (.ref 34), some (zi 4), some (zi 0), some (zi x), some (zi y), some (zi 1), some (zi 20)] [] J M R P) : zW X (d + 1) 9 0 [some (.ref 34), some (zi 4), some (zi 0), some (zi x), some (zi y), none, none] [] J M R P := by
  refine z_iload1 gi_9_0 ?_
  refine z_istore (ls1 := [some (.ref 34), some (zi 4), some (zi 0), some (zi x), some (zi y), some (zi 4), none]) gi_9_1 rfl ?_
  refine z_pushJ gp_9_3 ?_
  refine z_istore (ls1 := [some (.ref 34), some (zi 4), some (zi 0), some (zi x), some (zi y), some (zi 4), some (zi 0)]) gi_9_4 rfl ?_
  refine z_iload6 gi_9_6 ?_
  refine z_pushJ gp_9_8 ?_
  refine z_icmp_geF gi_9_10 zr_0 zr_8 (by decide) ?_
  refine z_iload5 gi_9_13 ?_
  refine z_cS1 gi_9_15 (Nat.le_of_ble_eq_true rfl) gc_1_I ?_
  refine z_iload0 gi_1_0 ?_
  refine z_if_ltF gi_1_1 zr_4 (by decide) ?_
  refine z_iload0 gi_1_4 ?_
  refine z_pushJ gp_1_5 ?_
  refine z_icmp_geF gi_1_7 zr_4 zr_8 (by decide) ?_
  refine z_pushJ gp_1_10 ?_
  refine z_goto gi_1_11 ?_
  refine z_bret1 gi_1_15 gr_1 ?_
  show zW _ _ _ _ _ _ _ _ _ _
  refine z_if_eqF gi_9_18 zr_1 (by decide) ?_
  refine z_getS gi_9_21 ?_
  refine z_iload5 gi_9_24 ?_
  refine z_pushJ gp_9_26 ?_
  refine z_imul (e := 16) gi_9_27 rfl ?_
  refine z_iload2 gi_9_28 ?_
  refine z_iadd (e := 16) gi_9_29 rfl ?_
  refine z_sald (j := 3) (n := 32) (v := 0) gi_9_30 (by decide) rfl (by decide) (by decide) rfl ?_
  refine z_if_neF gi_9_31 zr_0 (by decide) ?_
  refine z_getS gi_9_34 ?_
  refine z_iload5 gi_9_37 ?_
  refine z_sald (j := 4) (n := 8) (v := 1) gi_9_39 (by decide) rfl (by decide) (by decide) rfl ?_
  refine z_istore (ls1 := [some (.ref 34), some (zi 4), some (zi 0), some (zi x), some (zi y), some (zi 1), some (zi 0)]) gi_9_40 rfl ?_
  refine z_iinc (c := 1) (e := 1) (ls1 := [some (.ref 34), some (zi 4), some (zi 0), some (zi x), some (zi y), some (zi 1), some (zi 1)]) gi_9_42 rfl rfl rfl rfl ?_
  refine z_goto gi_9_45 ?_
  show zW _ _ _ _ [some (.ref 34), some (zi 4), some (zi 0), some (zi x), some (zi y), some (zi 1), some (zi 1)] [] _ _ _ _
  refine z_iload6 gi_9_6 ?_
  refine z_pushJ gp_9_8 ?_
  refine z_icmp_geF gi_9_10 zr_1 zr_8 (by decide) ?_
  refine z_iload5 gi_9_13 ?_
  refine z_cS1 gi_9_15 (Nat.le_of_ble_eq_true rfl) gc_1_I ?_
  refine z_iload0 gi_1_0 ?_
  refine z_if_ltF gi_1_1 zr_1 (by decide) ?_
  refine z_iload0 gi_1_4 ?_
  refine z_pushJ gp_1_5 ?_
  refine z_icmp_geF gi_1_7 zr_1 zr_8 (by decide) ?_
  refine z_pushJ gp_1_10 ?_
  refine z_goto gi_1_11 ?_
  refine z_bret1 gi_1_15 gr_1 ?_
  show zW _ _ _ _ _ _ _ _ _ _
  refine z_if_eqF gi_9_18 zr_1 (by decide) ?_
  refine z_getS gi_9_21 ?_
  refine z_iload5 gi_9_24 ?_
  refine z_pushJ gp_9_26 ?_
  refine z_imul (e := 4) gi_9_27 rfl ?_
  refine z_iload2 gi_9_28 ?_
  refine z_iadd (e := 4) gi_9_29 rfl ?_
  refine z_sald (j := 3) (n := 32) (v := 20) gi_9_30 (by decide) rfl (by decide) (by decide) rfl ?_
  refine z_if_neT gi_9_31 zr_20 (by decide) ?_
  refine z_iload5 gi_9_48 ?_
  refine z_cS1 gi_9_50 (Nat.le_of_ble_eq_true rfl) gc_1_I ?_
  refine z_iload0 gi_1_0 ?_
  refine z_if_ltF gi_1_1 zr_1 (by decide) ?_
  refine z_iload0 gi_1_4 ?_
  refine z_pushJ gp_1_5 ?_
  refine z_icmp_geF gi_1_7 zr_1 zr_8 (by decide) ?_
  refine z_pushJ gp_1_10 ?_
  refine z_goto gi_1_11 ?_
  refine z_bret1 gi_1_15 gr_1 ?_
  show zW _ _ _ _ _ _ _ _ _ _
  refine z_if_eqF gi_9_53 zr_1 (by decide) ?_
  refine z_iload4 gi_9_56 ?_
  refine z_pushJ gp_9_58 ?_
  refine z_icmp_ltT gi_9_60 (by omega) zr_40 (by omega) ?_
  refine z_getS gi_9_65 ?_
  refine z_iload5 gi_9_68 ?_
  refine z_pushJ gp_9_70 ?_
  refine z_imul (e := 4) gi_9_71 rfl ?_
  refine z_iload2 gi_9_72 ?_
  refine z_iadd (e := 4) gi_9_73 rfl ?_
  refine z_sald (j := 3) (n := 32) (v := 20) gi_9_74 (by decide) rfl (by decide) (by decide) rfl ?_
  refine z_istore (ls1 := [some (.ref 34), some (zi 4), some (zi 0), some (zi x), some (zi y), some (zi 1), some (zi 20)]) gi_9_75 rfl ?_
  show zW _ _ _ _ [some (.ref 34), some (zi 4), some (zi 0), some (zi x), some (zi y), some (zi 1), some (zi 20)] [] _ _ _ _
  exact kk
theorem ah_4_1 {X : Nat × (Nat → Int32)} {d : Nat} {J M : zA} {R : zR} {P : zP} {x y : Int} (hy : -2147483648 ≤ y ∧ y < 40) (kk : zW X (d + 1) 9 77 [some (.ref 34), some (zi 4), some (zi 1), some (zi x), some (zi y), some (zi 0), some (zi 10)] [] J M R P) : zW X (d + 1) 9 0 [some (.ref 34), some (zi 4), some (zi 1), some (zi x), some (zi y), none, none] [] J M R P := by
  refine z_iload1 gi_9_0 ?_
  refine z_istore (ls1 := [some (.ref 34), some (zi 4), some (zi 1), some (zi x), some (zi y), some (zi 4), none]) gi_9_1 rfl ?_
  refine z_pushJ gp_9_3 ?_
  refine z_istore (ls1 := [some (.ref 34), some (zi 4), some (zi 1), some (zi x), some (zi y), some (zi 4), some (zi 0)]) gi_9_4 rfl ?_
  refine z_iload6 gi_9_6 ?_
  refine z_pushJ gp_9_8 ?_
  refine z_icmp_geF gi_9_10 zr_0 zr_8 (by decide) ?_
  refine z_iload5 gi_9_13 ?_
  refine z_cS1 gi_9_15 (Nat.le_of_ble_eq_true rfl) gc_1_I ?_
  refine z_iload0 gi_1_0 ?_
  refine z_if_ltF gi_1_1 zr_4 (by decide) ?_
  refine z_iload0 gi_1_4 ?_
  refine z_pushJ gp_1_5 ?_
  refine z_icmp_geF gi_1_7 zr_4 zr_8 (by decide) ?_
  refine z_pushJ gp_1_10 ?_
  refine z_goto gi_1_11 ?_
  refine z_bret1 gi_1_15 gr_1 ?_
  show zW _ _ _ _ _ _ _ _ _ _
  refine z_if_eqF gi_9_18 zr_1 (by decide) ?_
  refine z_getS gi_9_21 ?_
  refine z_iload5 gi_9_24 ?_
  refine z_pushJ gp_9_26 ?_
  refine z_imul (e := 16) gi_9_27 rfl ?_
  refine z_iload2 gi_9_28 ?_
  refine z_iadd (e := 17) gi_9_29 rfl ?_
  refine z_sald (j := 3) (n := 32) (v := 0) gi_9_30 (by decide) rfl (by decide) (by decide) rfl ?_
  refine z_if_neF gi_9_31 zr_0 (by decide) ?_
  refine z_getS gi_9_34 ?_
  refine z_iload5 gi_9_37 ?_
  refine z_sald (j := 4) (n := 8) (v := 1) gi_9_39 (by decide) rfl (by decide) (by decide) rfl ?_
  refine z_istore (ls1 := [some (.ref 34), some (zi 4), some (zi 1), some (zi x), some (zi y), some (zi 1), some (zi 0)]) gi_9_40 rfl ?_
  refine z_iinc (c := 1) (e := 1) (ls1 := [some (.ref 34), some (zi 4), some (zi 1), some (zi x), some (zi y), some (zi 1), some (zi 1)]) gi_9_42 rfl rfl rfl rfl ?_
  refine z_goto gi_9_45 ?_
  show zW _ _ _ _ [some (.ref 34), some (zi 4), some (zi 1), some (zi x), some (zi y), some (zi 1), some (zi 1)] [] _ _ _ _
  refine z_iload6 gi_9_6 ?_
  refine z_pushJ gp_9_8 ?_
  refine z_icmp_geF gi_9_10 zr_1 zr_8 (by decide) ?_
  refine z_iload5 gi_9_13 ?_
  refine z_cS1 gi_9_15 (Nat.le_of_ble_eq_true rfl) gc_1_I ?_
  refine z_iload0 gi_1_0 ?_
  refine z_if_ltF gi_1_1 zr_1 (by decide) ?_
  refine z_iload0 gi_1_4 ?_
  refine z_pushJ gp_1_5 ?_
  refine z_icmp_geF gi_1_7 zr_1 zr_8 (by decide) ?_
  refine z_pushJ gp_1_10 ?_
  refine z_goto gi_1_11 ?_
  refine z_bret1 gi_1_15 gr_1 ?_
  show zW _ _ _ _ _ _ _ _ _ _
  refine z_if_eqF gi_9_18 zr_1 (by decide) ?_
  refine z_getS gi_9_21 ?_
  refine z_iload5 gi_9_24 ?_
  refine z_pushJ gp_9_26 ?_
  refine z_imul (e := 4) gi_9_27 rfl ?_
  refine z_iload2 gi_9_28 ?_
  refine z_iadd (e := 5) gi_9_29 rfl ?_
  refine z_sald (j := 3) (n := 32) (v := 0) gi_9_30 (by decide) rfl (by decide) (by decide) rfl ?_
  refine z_if_neF gi_9_31 zr_0 (by decide) ?_
  refine z_getS gi_9_34 ?_
  refine z_iload5 gi_9_37 ?_
  refine z_sald (j := 4) (n := 8) (v := 0) gi_9_39 (by decide) rfl (by decide) (by decide) rfl ?_
  refine z_istore (ls1 := [some (.ref 34), some (zi 4), some (zi 1), some (zi x), some (zi y), some (zi 0), some (zi 1)]) gi_9_40 rfl ?_
  refine z_iinc (c := 1) (e := 2) (ls1 := [some (.ref 34), some (zi 4), some (zi 1), some (zi x), some (zi y), some (zi 0), some (zi 2)]) gi_9_42 rfl rfl rfl rfl ?_
  refine z_goto gi_9_45 ?_
  show zW _ _ _ _ [some (.ref 34), some (zi 4), some (zi 1), some (zi x), some (zi y), some (zi 0), some (zi 2)] [] _ _ _ _
  refine z_iload6 gi_9_6 ?_
  refine z_pushJ gp_9_8 ?_
  refine z_icmp_geF gi_9_10 zr_2 zr_8 (by decide) ?_
  refine z_iload5 gi_9_13 ?_
  refine z_cS1 gi_9_15 (Nat.le_of_ble_eq_true rfl) gc_1_I ?_
  refine z_iload0 gi_1_0 ?_
  refine z_if_ltF gi_1_1 zr_0 (by decide) ?_
  refine z_iload0 gi_1_4 ?_
  refine z_pushJ gp_1_5 ?_
  refine z_icmp_geF gi_1_7 zr_0 zr_8 (by decide) ?_
  refine z_pushJ gp_1_10 ?_
  refine z_goto gi_1_11 ?_
  refine z_bret1 gi_1_15 gr_1 ?_
  show zW _ _ _ _ _ _ _ _ _ _
  refine z_if_eqF gi_9_18 zr_1 (by decide) ?_
  refine z_getS gi_9_21 ?_
  refine z_iload5 gi_9_24 ?_
  refine z_pushJ gp_9_26 ?_
  refine z_imul (e := 0) gi_9_27 rfl ?_
  refine z_iload2 gi_9_28 ?_
  refine z_iadd (e := 1) gi_9_29 rfl ?_
  refine z_sald (j := 3) (n := 32) (v := 10) gi_9_30 (by decide) rfl (by decide) (by decide) rfl ?_
  refine z_if_neT gi_9_31 zr_10 (by decide) ?_
  refine z_iload5 gi_9_48 ?_
  refine z_cS1 gi_9_50 (Nat.le_of_ble_eq_true rfl) gc_1_I ?_
  refine z_iload0 gi_1_0 ?_
  refine z_if_ltF gi_1_1 zr_0 (by decide) ?_
  refine z_iload0 gi_1_4 ?_
  refine z_pushJ gp_1_5 ?_
  refine z_icmp_geF gi_1_7 zr_0 zr_8 (by decide) ?_
  refine z_pushJ gp_1_10 ?_
  refine z_goto gi_1_11 ?_
  refine z_bret1 gi_1_15 gr_1 ?_
  show zW _ _ _ _ _ _ _ _ _ _
  refine z_if_eqF gi_9_53 zr_1 (by decide) ?_
  refine z_iload4 gi_9_56 ?_
  refine z_pushJ gp_9_58 ?_
  refine z_icmp_ltT gi_9_60 (by omega) zr_40 (by omega) ?_
  refine z_getS gi_9_65 ?_
  refine z_iload5 gi_9_68 ?_
  refine z_pushJ gp_9_70 ?_
  refine z_imul (e := 0) gi_9_71 rfl ?_
  refine z_iload2 gi_9_72 ?_
  refine z_iadd (e := 1) gi_9_73 rfl ?_
  refine z_sald (j := 3) (n := 32) (v := 10) gi_9_74 (by decide) rfl (by decide) (by decide) rfl ?_
  refine z_istore (ls1 := [some (.ref 34), some (zi 4), some (zi 1), some (zi x), some (zi y), some (zi 0), some (zi 10)]) gi_9_75 rfl ?_
  show zW _ _ _ _ [some (.ref 34), some (zi 4), some (zi 1), some (zi x), some (zi y), some (zi 0), some (zi 10)] [] _ _ _ _
  exact kk
theorem ah_4_2 {X : Nat × (Nat → Int32)} {d : Nat} {J M : zA} {R : zR} {P : zP} {x y : Int} (hy : -2147483648 ≤ y ∧ y < 40) (kk : zW X (d + 1) 9 77 [some (.ref 34), some (zi 4), some (zi 2), some (zi x), some (zi y), some (zi 0), some (zi 11)] [] J M R P) : zW X (d + 1) 9 0 [some (.ref 34), some (zi 4), some (zi 2), some (zi x), some (zi y), none, none] [] J M R P := by
  refine z_iload1 gi_9_0 ?_
  refine z_istore (ls1 := [some (.ref 34), some (zi 4), some (zi 2), some (zi x), some (zi y), some (zi 4), none]) gi_9_1 rfl ?_
  refine z_pushJ gp_9_3 ?_
  refine z_istore (ls1 := [some (.ref 34), some (zi 4), some (zi 2), some (zi x), some (zi y), some (zi 4), some (zi 0)]) gi_9_4 rfl ?_
  refine z_iload6 gi_9_6 ?_
  refine z_pushJ gp_9_8 ?_
  refine z_icmp_geF gi_9_10 zr_0 zr_8 (by decide) ?_
  refine z_iload5 gi_9_13 ?_
  refine z_cS1 gi_9_15 (Nat.le_of_ble_eq_true rfl) gc_1_I ?_
  refine z_iload0 gi_1_0 ?_
  refine z_if_ltF gi_1_1 zr_4 (by decide) ?_
  refine z_iload0 gi_1_4 ?_
  refine z_pushJ gp_1_5 ?_
  refine z_icmp_geF gi_1_7 zr_4 zr_8 (by decide) ?_
  refine z_pushJ gp_1_10 ?_
  refine z_goto gi_1_11 ?_
  refine z_bret1 gi_1_15 gr_1 ?_
  show zW _ _ _ _ _ _ _ _ _ _
  refine z_if_eqF gi_9_18 zr_1 (by decide) ?_
  refine z_getS gi_9_21 ?_
  refine z_iload5 gi_9_24 ?_
  refine z_pushJ gp_9_26 ?_
  refine z_imul (e := 16) gi_9_27 rfl ?_
  refine z_iload2 gi_9_28 ?_
  refine z_iadd (e := 18) gi_9_29 rfl ?_
  refine z_sald (j := 3) (n := 32) (v := 0) gi_9_30 (by decide) rfl (by decide) (by decide) rfl ?_
  refine z_if_neF gi_9_31 zr_0 (by decide) ?_
  refine z_getS gi_9_34 ?_
  refine z_iload5 gi_9_37 ?_
  refine z_sald (j := 4) (n := 8) (v := 1) gi_9_39 (by decide) rfl (by decide) (by decide) rfl ?_
  refine z_istore (ls1 := [some (.ref 34), some (zi 4), some (zi 2), some (zi x), some (zi y), some (zi 1), some (zi 0)]) gi_9_40 rfl ?_
  refine z_iinc (c := 1) (e := 1) (ls1 := [some (.ref 34), some (zi 4), some (zi 2), some (zi x), some (zi y), some (zi 1), some (zi 1)]) gi_9_42 rfl rfl rfl rfl ?_
  refine z_goto gi_9_45 ?_
  show zW _ _ _ _ [some (.ref 34), some (zi 4), some (zi 2), some (zi x), some (zi y), some (zi 1), some (zi 1)] [] _ _ _ _
  refine z_iload6 gi_9_6 ?_
  refine z_pushJ gp_9_8 ?_
  refine z_icmp_geF gi_9_10 zr_1 zr_8 (by decide) ?_
  refine z_iload5 gi_9_13 ?_
  refine z_cS1 gi_9_15 (Nat.le_of_ble_eq_true rfl) gc_1_I ?_
  refine z_iload0 gi_1_0 ?_
  refine z_if_ltF gi_1_1 zr_1 (by decide) ?_
  refine z_iload0 gi_1_4 ?_
  refine z_pushJ gp_1_5 ?_
  refine z_icmp_geF gi_1_7 zr_1 zr_8 (by decide) ?_
  refine z_pushJ gp_1_10 ?_
  refine z_goto gi_1_11 ?_
  refine z_bret1 gi_1_15 gr_1 ?_
  show zW _ _ _ _ _ _ _ _ _ _
  refine z_if_eqF gi_9_18 zr_1 (by decide) ?_
  refine z_getS gi_9_21 ?_
  refine z_iload5 gi_9_24 ?_
  refine z_pushJ gp_9_26 ?_
  refine z_imul (e := 4) gi_9_27 rfl ?_
  refine z_iload2 gi_9_28 ?_
  refine z_iadd (e := 6) gi_9_29 rfl ?_
  refine z_sald (j := 3) (n := 32) (v := 0) gi_9_30 (by decide) rfl (by decide) (by decide) rfl ?_
  refine z_if_neF gi_9_31 zr_0 (by decide) ?_
  refine z_getS gi_9_34 ?_
  refine z_iload5 gi_9_37 ?_
  refine z_sald (j := 4) (n := 8) (v := 0) gi_9_39 (by decide) rfl (by decide) (by decide) rfl ?_
  refine z_istore (ls1 := [some (.ref 34), some (zi 4), some (zi 2), some (zi x), some (zi y), some (zi 0), some (zi 1)]) gi_9_40 rfl ?_
  refine z_iinc (c := 1) (e := 2) (ls1 := [some (.ref 34), some (zi 4), some (zi 2), some (zi x), some (zi y), some (zi 0), some (zi 2)]) gi_9_42 rfl rfl rfl rfl ?_
  refine z_goto gi_9_45 ?_
  show zW _ _ _ _ [some (.ref 34), some (zi 4), some (zi 2), some (zi x), some (zi y), some (zi 0), some (zi 2)] [] _ _ _ _
  refine z_iload6 gi_9_6 ?_
  refine z_pushJ gp_9_8 ?_
  refine z_icmp_geF gi_9_10 zr_2 zr_8 (by decide) ?_
  refine z_iload5 gi_9_13 ?_
  refine z_cS1 gi_9_15 (Nat.le_of_ble_eq_true rfl) gc_1_I ?_
  refine z_iload0 gi_1_0 ?_
  refine z_if_ltF gi_1_1 zr_0 (by decide) ?_
  refine z_iload0 gi_1_4 ?_
  refine z_pushJ gp_1_5 ?_
  refine z_icmp_geF gi_1_7 zr_0 zr_8 (by decide) ?_
  refine z_pushJ gp_1_10 ?_
  refine z_goto gi_1_11 ?_
  refine z_bret1 gi_1_15 gr_1 ?_
  show zW _ _ _ _ _ _ _ _ _ _
  refine z_if_eqF gi_9_18 zr_1 (by decide) ?_
  refine z_getS gi_9_21 ?_
  refine z_iload5 gi_9_24 ?_
  refine z_pushJ gp_9_26 ?_
  refine z_imul (e := 0) gi_9_27 rfl ?_
  refine z_iload2 gi_9_28 ?_
  refine z_iadd (e := 2) gi_9_29 rfl ?_
  refine z_sald (j := 3) (n := 32) (v := 11) gi_9_30 (by decide) rfl (by decide) (by decide) rfl ?_
  refine z_if_neT gi_9_31 zr_11 (by decide) ?_
  refine z_iload5 gi_9_48 ?_
  refine z_cS1 gi_9_50 (Nat.le_of_ble_eq_true rfl) gc_1_I ?_
  refine z_iload0 gi_1_0 ?_
  refine z_if_ltF gi_1_1 zr_0 (by decide) ?_
  refine z_iload0 gi_1_4 ?_
  refine z_pushJ gp_1_5 ?_
  refine z_icmp_geF gi_1_7 zr_0 zr_8 (by decide) ?_
  refine z_pushJ gp_1_10 ?_
  refine z_goto gi_1_11 ?_
  refine z_bret1 gi_1_15 gr_1 ?_
  show zW _ _ _ _ _ _ _ _ _ _
  refine z_if_eqF gi_9_53 zr_1 (by decide) ?_
  refine z_iload4 gi_9_56 ?_
  refine z_pushJ gp_9_58 ?_
  refine z_icmp_ltT gi_9_60 (by omega) zr_40 (by omega) ?_
  refine z_getS gi_9_65 ?_
  refine z_iload5 gi_9_68 ?_
  refine z_pushJ gp_9_70 ?_
  refine z_imul (e := 0) gi_9_71 rfl ?_
  refine z_iload2 gi_9_72 ?_
  refine z_iadd (e := 2) gi_9_73 rfl ?_
  refine z_sald (j := 3) (n := 32) (v := 11) gi_9_74 (by decide) rfl (by decide) (by decide) rfl ?_
  refine z_istore (ls1 := [some (.ref 34), some (zi 4), some (zi 2), some (zi x), some (zi y), some (zi 0), some (zi 11)]) gi_9_75 rfl ?_
  show zW _ _ _ _ [some (.ref 34), some (zi 4), some (zi 2), some (zi x), some (zi y), some (zi 0), some (zi 11)] [] _ _ _ _
  exact kk
theorem ah_4_3 {X : Nat × (Nat → Int32)} {d : Nat} {J M : zA} {R : zR} {P : zP} {x y : Int} (hy : -2147483648 ≤ y ∧ y < 40) (kk : zW X (d + 1) 9 77 [some (.ref 34), some (zi 4), some (zi 3), some (zi x), some (zi y), some (zi 4), some (zi 50)] [] J M R P) : zW X (d + 1) 9 0 [some (.ref 34), some (zi 4), some (zi 3), some (zi x), some (zi y), none, none] [] J M R P := by
  refine z_iload1 gi_9_0 ?_
  refine z_istore (ls1 := [some (.ref 34), some (zi 4), some (zi 3), some (zi x), some (zi y), some (zi 4), none]) gi_9_1 rfl ?_
  refine z_pushJ gp_9_3 ?_
  refine z_istore (ls1 := [some (.ref 34), some (zi 4), some (zi 3), some (zi x), some (zi y), some (zi 4), some (zi 0)]) gi_9_4 rfl ?_
  refine z_iload6 gi_9_6 ?_
  refine z_pushJ gp_9_8 ?_
  refine z_icmp_geF gi_9_10 zr_0 zr_8 (by decide) ?_
  refine z_iload5 gi_9_13 ?_
  refine z_cS1 gi_9_15 (Nat.le_of_ble_eq_true rfl) gc_1_I ?_
  refine z_iload0 gi_1_0 ?_
  refine z_if_ltF gi_1_1 zr_4 (by decide) ?_
  refine z_iload0 gi_1_4 ?_
  refine z_pushJ gp_1_5 ?_
  refine z_icmp_geF gi_1_7 zr_4 zr_8 (by decide) ?_
  refine z_pushJ gp_1_10 ?_
  refine z_goto gi_1_11 ?_
  refine z_bret1 gi_1_15 gr_1 ?_
  show zW _ _ _ _ _ _ _ _ _ _
  refine z_if_eqF gi_9_18 zr_1 (by decide) ?_
  refine z_getS gi_9_21 ?_
  refine z_iload5 gi_9_24 ?_
  refine z_pushJ gp_9_26 ?_
  refine z_imul (e := 16) gi_9_27 rfl ?_
  refine z_iload2 gi_9_28 ?_
  refine z_iadd (e := 19) gi_9_29 rfl ?_
  refine z_sald (j := 3) (n := 32) (v := 50) gi_9_30 (by decide) rfl (by decide) (by decide) rfl ?_
  refine z_if_neT gi_9_31 zr_50 (by decide) ?_
  refine z_iload5 gi_9_48 ?_
  refine z_cS1 gi_9_50 (Nat.le_of_ble_eq_true rfl) gc_1_I ?_
  refine z_iload0 gi_1_0 ?_
  refine z_if_ltF gi_1_1 zr_4 (by decide) ?_
  refine z_iload0 gi_1_4 ?_
  refine z_pushJ gp_1_5 ?_
  refine z_icmp_geF gi_1_7 zr_4 zr_8 (by decide) ?_
  refine z_pushJ gp_1_10 ?_
  refine z_goto gi_1_11 ?_
  refine z_bret1 gi_1_15 gr_1 ?_
  show zW _ _ _ _ _ _ _ _ _ _
  refine z_if_eqF gi_9_53 zr_1 (by decide) ?_
  refine z_iload4 gi_9_56 ?_
  refine z_pushJ gp_9_58 ?_
  refine z_icmp_ltT gi_9_60 (by omega) zr_40 (by omega) ?_
  refine z_getS gi_9_65 ?_
  refine z_iload5 gi_9_68 ?_
  refine z_pushJ gp_9_70 ?_
  refine z_imul (e := 16) gi_9_71 rfl ?_
  refine z_iload2 gi_9_72 ?_
  refine z_iadd (e := 19) gi_9_73 rfl ?_
  refine z_sald (j := 3) (n := 32) (v := 50) gi_9_74 (by decide) rfl (by decide) (by decide) rfl ?_
  refine z_istore (ls1 := [some (.ref 34), some (zi 4), some (zi 3), some (zi x), some (zi y), some (zi 4), some (zi 50)]) gi_9_75 rfl ?_
  show zW _ _ _ _ [some (.ref 34), some (zi 4), some (zi 3), some (zi x), some (zi y), some (zi 4), some (zi 50)] [] _ _ _ _
  exact kk
theorem ah_5_0 {X : Nat × (Nat → Int32)} {d : Nat} {J M : zA} {R : zR} {P : zP} {x y : Int} (hy : -2147483648 ≤ y ∧ y < 40) (kk : zW X (d + 1) 9 77 [some (.ref 34), some (zi 5), some (zi 0), some (zi x), some (zi y), some (zi 0), some (zi 1)] [] J M R P) : zW X (d + 1) 9 0 [some (.ref 34), some (zi 5), some (zi 0), some (zi x), some (zi y), none, none] [] J M R P := by
  refine z_iload1 gi_9_0 ?_
  refine z_istore (ls1 := [some (.ref 34), some (zi 5), some (zi 0), some (zi x), some (zi y), some (zi 5), none]) gi_9_1 rfl ?_
  refine z_pushJ gp_9_3 ?_
  refine z_istore (ls1 := [some (.ref 34), some (zi 5), some (zi 0), some (zi x), some (zi y), some (zi 5), some (zi 0)]) gi_9_4 rfl ?_
  refine z_iload6 gi_9_6 ?_
  refine z_pushJ gp_9_8 ?_
  refine z_icmp_geF gi_9_10 zr_0 zr_8 (by decide) ?_
  refine z_iload5 gi_9_13 ?_
  refine z_cS1 gi_9_15 (Nat.le_of_ble_eq_true rfl) gc_1_I ?_
  refine z_iload0 gi_1_0 ?_
  refine z_if_ltF gi_1_1 zr_5 (by decide) ?_
  refine z_iload0 gi_1_4 ?_
  refine z_pushJ gp_1_5 ?_
  refine z_icmp_geF gi_1_7 zr_5 zr_8 (by decide) ?_
  refine z_pushJ gp_1_10 ?_
  refine z_goto gi_1_11 ?_
  refine z_bret1 gi_1_15 gr_1 ?_
  show zW _ _ _ _ _ _ _ _ _ _
  refine z_if_eqF gi_9_18 zr_1 (by decide) ?_
  refine z_getS gi_9_21 ?_
  refine z_iload5 gi_9_24 ?_
  refine z_pushJ gp_9_26 ?_
  refine z_imul (e := 20) gi_9_27 rfl ?_
  refine z_iload2 gi_9_28 ?_
  refine z_iadd (e := 20) gi_9_29 rfl ?_
  refine z_sald (j := 3) (n := 32) (v := 0) gi_9_30 (by decide) rfl (by decide) (by decide) rfl ?_
  refine z_if_neF gi_9_31 zr_0 (by decide) ?_
  refine z_getS gi_9_34 ?_
  refine z_iload5 gi_9_37 ?_
  refine z_sald (j := 4) (n := 8) (v := 3) gi_9_39 (by decide) rfl (by decide) (by decide) rfl ?_
  refine z_istore (ls1 := [some (.ref 34), some (zi 5), some (zi 0), some (zi x), some (zi y), some (zi 3), some (zi 0)]) gi_9_40 rfl ?_
  refine z_iinc (c := 1) (e := 1) (ls1 := [some (.ref 34), some (zi 5), some (zi 0), some (zi x), some (zi y), some (zi 3), some (zi 1)]) gi_9_42 rfl rfl rfl rfl ?_
  refine z_goto gi_9_45 ?_
  show zW _ _ _ _ [some (.ref 34), some (zi 5), some (zi 0), some (zi x), some (zi y), some (zi 3), some (zi 1)] [] _ _ _ _
  refine z_iload6 gi_9_6 ?_
  refine z_pushJ gp_9_8 ?_
  refine z_icmp_geF gi_9_10 zr_1 zr_8 (by decide) ?_
  refine z_iload5 gi_9_13 ?_
  refine z_cS1 gi_9_15 (Nat.le_of_ble_eq_true rfl) gc_1_I ?_
  refine z_iload0 gi_1_0 ?_
  refine z_if_ltF gi_1_1 zr_3 (by decide) ?_
  refine z_iload0 gi_1_4 ?_
  refine z_pushJ gp_1_5 ?_
  refine z_icmp_geF gi_1_7 zr_3 zr_8 (by decide) ?_
  refine z_pushJ gp_1_10 ?_
  refine z_goto gi_1_11 ?_
  refine z_bret1 gi_1_15 gr_1 ?_
  show zW _ _ _ _ _ _ _ _ _ _
  refine z_if_eqF gi_9_18 zr_1 (by decide) ?_
  refine z_getS gi_9_21 ?_
  refine z_iload5 gi_9_24 ?_
  refine z_pushJ gp_9_26 ?_
  refine z_imul (e := 12) gi_9_27 rfl ?_
  refine z_iload2 gi_9_28 ?_
  refine z_iadd (e := 12) gi_9_29 rfl ?_
  refine z_sald (j := 3) (n := 32) (v := 0) gi_9_30 (by decide) rfl (by decide) (by decide) rfl ?_
  refine z_if_neF gi_9_31 zr_0 (by decide) ?_
  refine z_getS gi_9_34 ?_
  refine z_iload5 gi_9_37 ?_
  refine z_sald (j := 4) (n := 8) (v := 2) gi_9_39 (by decide) rfl (by decide) (by decide) rfl ?_
  refine z_istore (ls1 := [some (.ref 34), some (zi 5), some (zi 0), some (zi x), some (zi y), some (zi 2), some (zi 1)]) gi_9_40 rfl ?_
  refine z_iinc (c := 1) (e := 2) (ls1 := [some (.ref 34), some (zi 5), some (zi 0), some (zi x), some (zi y), some (zi 2), some (zi 2)]) gi_9_42 rfl rfl rfl rfl ?_
  refine z_goto gi_9_45 ?_
  show zW _ _ _ _ [some (.ref 34), some (zi 5), some (zi 0), some (zi x), some (zi y), some (zi 2), some (zi 2)] [] _ _ _ _
  refine z_iload6 gi_9_6 ?_
  refine z_pushJ gp_9_8 ?_
  refine z_icmp_geF gi_9_10 zr_2 zr_8 (by decide) ?_
  refine z_iload5 gi_9_13 ?_
  refine z_cS1 gi_9_15 (Nat.le_of_ble_eq_true rfl) gc_1_I ?_
  refine z_iload0 gi_1_0 ?_
  refine z_if_ltF gi_1_1 zr_2 (by decide) ?_
  refine z_iload0 gi_1_4 ?_
  refine z_pushJ gp_1_5 ?_
  refine z_icmp_geF gi_1_7 zr_2 zr_8 (by decide) ?_
  refine z_pushJ gp_1_10 ?_
  refine z_goto gi_1_11 ?_
  refine z_bret1 gi_1_15 gr_1 ?_
  show zW _ _ _ _ _ _ _ _ _ _
  refine z_if_eqF gi_9_18 zr_1 (by decide) ?_
  refine z_getS gi_9_21 ?_
  refine z_iload5 gi_9_24 ?_
  refine z_pushJ gp_9_26 ?_
  refine z_imul (e := 8) gi_9_27 rfl ?_
  refine z_iload2 gi_9_28 ?_
  refine z_iadd (e := 8) gi_9_29 rfl ?_
  refine z_sald (j := 3) (n := 32) (v := 0) gi_9_30 (by decide) rfl (by decide) (by decide) rfl ?_
  refine z_if_neF gi_9_31 zr_0 (by decide) ?_
  refine z_getS gi_9_34 ?_
  refine z_iload5 gi_9_37 ?_
  refine z_sald (j := 4) (n := 8) (v := 0) gi_9_39 (by decide) rfl (by decide) (by decide) rfl ?_
  refine z_istore (ls1 := [some (.ref 34), some (zi 5), some (zi 0), some (zi x), some (zi y), some (zi 0), some (zi 2)]) gi_9_40 rfl ?_
  refine z_iinc (c := 1) (e := 3) (ls1 := [some (.ref 34), some (zi 5), some (zi 0), some (zi x), some (zi y), some (zi 0), some (zi 3)]) gi_9_42 rfl rfl rfl rfl ?_
  refine z_goto gi_9_45 ?_
  show zW _ _ _ _ [some (.ref 34), some (zi 5), some (zi 0), some (zi x), some (zi y), some (zi 0), some (zi 3)] [] _ _ _ _
  refine z_iload6 gi_9_6 ?_
  refine z_pushJ gp_9_8 ?_
  refine z_icmp_geF gi_9_10 zr_3 zr_8 (by decide) ?_
  refine z_iload5 gi_9_13 ?_
  refine z_cS1 gi_9_15 (Nat.le_of_ble_eq_true rfl) gc_1_I ?_
  refine z_iload0 gi_1_0 ?_
  refine z_if_ltF gi_1_1 zr_0 (by decide) ?_
  refine z_iload0 gi_1_4 ?_
  refine z_pushJ gp_1_5 ?_
  refine z_icmp_geF gi_1_7 zr_0 zr_8 (by decide) ?_
  refine z_pushJ gp_1_10 ?_
  refine z_goto gi_1_11 ?_
  refine z_bret1 gi_1_15 gr_1 ?_
  show zW _ _ _ _ _ _ _ _ _ _
  refine z_if_eqF gi_9_18 zr_1 (by decide) ?_
  refine z_getS gi_9_21 ?_
  refine z_iload5 gi_9_24 ?_
  refine z_pushJ gp_9_26 ?_
  refine z_imul (e := 0) gi_9_27 rfl ?_
  refine z_iload2 gi_9_28 ?_
  refine z_iadd (e := 0) gi_9_29 rfl ?_
  refine z_sald (j := 3) (n := 32) (v := 1) gi_9_30 (by decide) rfl (by decide) (by decide) rfl ?_
  refine z_if_neT gi_9_31 zr_1 (by decide) ?_
  refine z_iload5 gi_9_48 ?_
  refine z_cS1 gi_9_50 (Nat.le_of_ble_eq_true rfl) gc_1_I ?_
  refine z_iload0 gi_1_0 ?_
  refine z_if_ltF gi_1_1 zr_0 (by decide) ?_
  refine z_iload0 gi_1_4 ?_
  refine z_pushJ gp_1_5 ?_
  refine z_icmp_geF gi_1_7 zr_0 zr_8 (by decide) ?_
  refine z_pushJ gp_1_10 ?_
  refine z_goto gi_1_11 ?_
  refine z_bret1 gi_1_15 gr_1 ?_
  show zW _ _ _ _ _ _ _ _ _ _
  refine z_if_eqF gi_9_53 zr_1 (by decide) ?_
  refine z_iload4 gi_9_56 ?_
  refine z_pushJ gp_9_58 ?_
  refine z_icmp_ltT gi_9_60 (by omega) zr_40 (by omega) ?_
  refine z_getS gi_9_65 ?_
  refine z_iload5 gi_9_68 ?_
  refine z_pushJ gp_9_70 ?_
  refine z_imul (e := 0) gi_9_71 rfl ?_
  refine z_iload2 gi_9_72 ?_
  refine z_iadd (e := 0) gi_9_73 rfl ?_
  refine z_sald (j := 3) (n := 32) (v := 1) gi_9_74 (by decide) rfl (by decide) (by decide) rfl ?_
  refine z_istore (ls1 := [some (.ref 34), some (zi 5), some (zi 0), some (zi x), some (zi y), some (zi 0), some (zi 1)]) gi_9_75 rfl ?_
  show zW _ _ _ _ [some (.ref 34), some (zi 5), some (zi 0), some (zi x), some (zi y), some (zi 0), some (zi 1)] [] _ _ _ _
  exact kk
theorem ah_5_1 {X : Nat × (Nat → Int32)} {d : Nat} {J M : zA} {R : zR} {P : zP} {x y : Int} (hy : -2147483648 ≤ y ∧ y < 40) (kk : zW X (d + 1) 9 77 [some (.ref 34), some (zi 5), some (zi 1), some (zi x), some (zi y), some (zi 3), some (zi 41)] [] J M R P) : zW X (d + 1) 9 0 [some (.ref 34), some (zi 5), some (zi 1), some (zi x), some (zi y), none, none] [] J M R P := by
  refine z_iload1 gi_9_0 ?_
  refine z_istore (ls1 := [some (.ref 34), some (zi 5), some (zi 1), some (zi x), some (zi y), some (zi 5), none]) gi_9_1 rfl ?_
  refine z_pushJ gp_9_3 ?_
  refine z_istore (ls1 := [some (.ref 34), some (zi 5), some (zi 1), some (zi x), some (zi y), some (zi 5), some (zi 0)]) gi_9_4 rfl ?_
  refine z_iload6 gi_9_6 ?_
  refine z_pushJ gp_9_8 ?_
  refine z_icmp_geF gi_9_10 zr_0 zr_8 (by decide) ?_
  refine z_iload5 gi_9_13 ?_
  refine z_cS1 gi_9_15 (Nat.le_of_ble_eq_true rfl) gc_1_I ?_
  refine z_iload0 gi_1_0 ?_
  refine z_if_ltF gi_1_1 zr_5 (by decide) ?_
  refine z_iload0 gi_1_4 ?_
  refine z_pushJ gp_1_5 ?_
  refine z_icmp_geF gi_1_7 zr_5 zr_8 (by decide) ?_
  refine z_pushJ gp_1_10 ?_
  refine z_goto gi_1_11 ?_
  refine z_bret1 gi_1_15 gr_1 ?_
  show zW _ _ _ _ _ _ _ _ _ _
  refine z_if_eqF gi_9_18 zr_1 (by decide) ?_
  refine z_getS gi_9_21 ?_
  refine z_iload5 gi_9_24 ?_
  refine z_pushJ gp_9_26 ?_
  refine z_imul (e := 20) gi_9_27 rfl ?_
  refine z_iload2 gi_9_28 ?_
  refine z_iadd (e := 21) gi_9_29 rfl ?_
  refine z_sald (j := 3) (n := 32) (v := 0) gi_9_30 (by decide) rfl (by decide) (by decide) rfl ?_
  refine z_if_neF gi_9_31 zr_0 (by decide) ?_
  refine z_getS gi_9_34 ?_
  refine z_iload5 gi_9_37 ?_
  refine z_sald (j := 4) (n := 8) (v := 3) gi_9_39 (by decide) rfl (by decide) (by decide) rfl ?_
  refine z_istore (ls1 := [some (.ref 34), some (zi 5), some (zi 1), some (zi x), some (zi y), some (zi 3), some (zi 0)]) gi_9_40 rfl ?_
  refine z_iinc (c := 1) (e := 1) (ls1 := [some (.ref 34), some (zi 5), some (zi 1), some (zi x), some (zi y), some (zi 3), some (zi 1)]) gi_9_42 rfl rfl rfl rfl ?_
  refine z_goto gi_9_45 ?_
  show zW _ _ _ _ [some (.ref 34), some (zi 5), some (zi 1), some (zi x), some (zi y), some (zi 3), some (zi 1)] [] _ _ _ _
  refine z_iload6 gi_9_6 ?_
  refine z_pushJ gp_9_8 ?_
  refine z_icmp_geF gi_9_10 zr_1 zr_8 (by decide) ?_
  refine z_iload5 gi_9_13 ?_
  refine z_cS1 gi_9_15 (Nat.le_of_ble_eq_true rfl) gc_1_I ?_
  refine z_iload0 gi_1_0 ?_
  refine z_if_ltF gi_1_1 zr_3 (by decide) ?_
  refine z_iload0 gi_1_4 ?_
  refine z_pushJ gp_1_5 ?_
  refine z_icmp_geF gi_1_7 zr_3 zr_8 (by decide) ?_
  refine z_pushJ gp_1_10 ?_
  refine z_goto gi_1_11 ?_
  refine z_bret1 gi_1_15 gr_1 ?_
  show zW _ _ _ _ _ _ _ _ _ _
  refine z_if_eqF gi_9_18 zr_1 (by decide) ?_
  refine z_getS gi_9_21 ?_
  refine z_iload5 gi_9_24 ?_
  refine z_pushJ gp_9_26 ?_
  refine z_imul (e := 12) gi_9_27 rfl ?_
  refine z_iload2 gi_9_28 ?_
  refine z_iadd (e := 13) gi_9_29 rfl ?_
  refine z_sald (j := 3) (n := 32) (v := 41) gi_9_30 (by decide) rfl (by decide) (by decide) rfl ?_
  refine z_if_neT gi_9_31 zr_41 (by decide) ?_
  refine z_iload5 gi_9_48 ?_
  refine z_cS1 gi_9_50 (Nat.le_of_ble_eq_true rfl) gc_1_I ?_
  refine z_iload0 gi_1_0 ?_
  refine z_if_ltF gi_1_1 zr_3 (by decide) ?_
  refine z_iload0 gi_1_4 ?_
  refine z_pushJ gp_1_5 ?_
  refine z_icmp_geF gi_1_7 zr_3 zr_8 (by decide) ?_
  refine z_pushJ gp_1_10 ?_
  refine z_goto gi_1_11 ?_
  refine z_bret1 gi_1_15 gr_1 ?_
  show zW _ _ _ _ _ _ _ _ _ _
  refine z_if_eqF gi_9_53 zr_1 (by decide) ?_
  refine z_iload4 gi_9_56 ?_
  refine z_pushJ gp_9_58 ?_
  refine z_icmp_ltT gi_9_60 (by omega) zr_40 (by omega) ?_
  refine z_getS gi_9_65 ?_
  refine z_iload5 gi_9_68 ?_
  refine z_pushJ gp_9_70 ?_
  refine z_imul (e := 12) gi_9_71 rfl ?_
  refine z_iload2 gi_9_72 ?_
  refine z_iadd (e := 13) gi_9_73 rfl ?_
  refine z_sald (j := 3) (n := 32) (v := 41) gi_9_74 (by decide) rfl (by decide) (by decide) rfl ?_
  refine z_istore (ls1 := [some (.ref 34), some (zi 5), some (zi 1), some (zi x), some (zi y), some (zi 3), some (zi 41)]) gi_9_75 rfl ?_
  show zW _ _ _ _ [some (.ref 34), some (zi 5), some (zi 1), some (zi x), some (zi y), some (zi 3), some (zi 41)] [] _ _ _ _
  exact kk
theorem ah_5_2 {X : Nat × (Nat → Int32)} {d : Nat} {J M : zA} {R : zR} {P : zP} {x y : Int} (hy : -2147483648 ≤ y ∧ y < 40) (kk : zW X (d + 1) 9 77 [some (.ref 34), some (zi 5), some (zi 2), some (zi x), some (zi y), some (zi 5), some (zi 60)] [] J M R P) : zW X (d + 1) 9 0 [some (.ref 34), some (zi 5), some (zi 2), some (zi x), some (zi y), none, none] [] J M R P := by
  refine z_iload1 gi_9_0 ?_
  refine z_istore (ls1 := [some (.ref 34), some (zi 5), some (zi 2), some (zi x), some (zi y), some (zi 5), none]) gi_9_1 rfl ?_
  refine z_pushJ gp_9_3 ?_
  refine z_istore (ls1 := [some (.ref 34), some (zi 5), some (zi 2), some (zi x), some (zi y), some (zi 5), some (zi 0)]) gi_9_4 rfl ?_
  refine z_iload6 gi_9_6 ?_
  refine z_pushJ gp_9_8 ?_
  refine z_icmp_geF gi_9_10 zr_0 zr_8 (by decide) ?_
  refine z_iload5 gi_9_13 ?_
  refine z_cS1 gi_9_15 (Nat.le_of_ble_eq_true rfl) gc_1_I ?_
  refine z_iload0 gi_1_0 ?_
  refine z_if_ltF gi_1_1 zr_5 (by decide) ?_
  refine z_iload0 gi_1_4 ?_
  refine z_pushJ gp_1_5 ?_
  refine z_icmp_geF gi_1_7 zr_5 zr_8 (by decide) ?_
  refine z_pushJ gp_1_10 ?_
  refine z_goto gi_1_11 ?_
  refine z_bret1 gi_1_15 gr_1 ?_
  show zW _ _ _ _ _ _ _ _ _ _
  refine z_if_eqF gi_9_18 zr_1 (by decide) ?_
  refine z_getS gi_9_21 ?_
  refine z_iload5 gi_9_24 ?_
  refine z_pushJ gp_9_26 ?_
  refine z_imul (e := 20) gi_9_27 rfl ?_
  refine z_iload2 gi_9_28 ?_
  refine z_iadd (e := 22) gi_9_29 rfl ?_
  refine z_sald (j := 3) (n := 32) (v := 60) gi_9_30 (by decide) rfl (by decide) (by decide) rfl ?_
  refine z_if_neT gi_9_31 zr_60 (by decide) ?_
  refine z_iload5 gi_9_48 ?_
  refine z_cS1 gi_9_50 (Nat.le_of_ble_eq_true rfl) gc_1_I ?_
  refine z_iload0 gi_1_0 ?_
  refine z_if_ltF gi_1_1 zr_5 (by decide) ?_
  refine z_iload0 gi_1_4 ?_
  refine z_pushJ gp_1_5 ?_
  refine z_icmp_geF gi_1_7 zr_5 zr_8 (by decide) ?_
  refine z_pushJ gp_1_10 ?_
  refine z_goto gi_1_11 ?_
  refine z_bret1 gi_1_15 gr_1 ?_
  show zW _ _ _ _ _ _ _ _ _ _
  refine z_if_eqF gi_9_53 zr_1 (by decide) ?_
  refine z_iload4 gi_9_56 ?_
  refine z_pushJ gp_9_58 ?_
  refine z_icmp_ltT gi_9_60 (by omega) zr_40 (by omega) ?_
  refine z_getS gi_9_65 ?_
  refine z_iload5 gi_9_68 ?_
  refine z_pushJ gp_9_70 ?_
  refine z_imul (e := 20) gi_9_71 rfl ?_
  refine z_iload2 gi_9_72 ?_
  refine z_iadd (e := 22) gi_9_73 rfl ?_
  refine z_sald (j := 3) (n := 32) (v := 60) gi_9_74 (by decide) rfl (by decide) (by decide) rfl ?_
  refine z_istore (ls1 := [some (.ref 34), some (zi 5), some (zi 2), some (zi x), some (zi y), some (zi 5), some (zi 60)]) gi_9_75 rfl ?_
  show zW _ _ _ _ [some (.ref 34), some (zi 5), some (zi 2), some (zi x), some (zi y), some (zi 5), some (zi 60)] [] _ _ _ _
  exact kk
theorem ah_5_3 {X : Nat × (Nat → Int32)} {d : Nat} {J M : zA} {R : zR} {P : zP} {x y : Int} (hy : -2147483648 ≤ y ∧ y < 40) (kk : zW X (d + 1) 9 77 [some (.ref 34), some (zi 5), some (zi 3), some (zi x), some (zi y), some (zi 5), some (zi 61)] [] J M R P) : zW X (d + 1) 9 0 [some (.ref 34), some (zi 5), some (zi 3), some (zi x), some (zi y), none, none] [] J M R P := by
  refine z_iload1 gi_9_0 ?_
  refine z_istore (ls1 := [some (.ref 34), some (zi 5), some (zi 3), some (zi x), some (zi y), some (zi 5), none]) gi_9_1 rfl ?_
  refine z_pushJ gp_9_3 ?_
  refine z_istore (ls1 := [some (.ref 34), some (zi 5), some (zi 3), some (zi x), some (zi y), some (zi 5), some (zi 0)]) gi_9_4 rfl ?_
  refine z_iload6 gi_9_6 ?_
  refine z_pushJ gp_9_8 ?_
  refine z_icmp_geF gi_9_10 zr_0 zr_8 (by decide) ?_
  refine z_iload5 gi_9_13 ?_
  refine z_cS1 gi_9_15 (Nat.le_of_ble_eq_true rfl) gc_1_I ?_
  refine z_iload0 gi_1_0 ?_
  refine z_if_ltF gi_1_1 zr_5 (by decide) ?_
  refine z_iload0 gi_1_4 ?_
  refine z_pushJ gp_1_5 ?_
  refine z_icmp_geF gi_1_7 zr_5 zr_8 (by decide) ?_
  refine z_pushJ gp_1_10 ?_
  refine z_goto gi_1_11 ?_
  refine z_bret1 gi_1_15 gr_1 ?_
  show zW _ _ _ _ _ _ _ _ _ _
  refine z_if_eqF gi_9_18 zr_1 (by decide) ?_
  refine z_getS gi_9_21 ?_
  refine z_iload5 gi_9_24 ?_
  refine z_pushJ gp_9_26 ?_
  refine z_imul (e := 20) gi_9_27 rfl ?_
  refine z_iload2 gi_9_28 ?_
  refine z_iadd (e := 23) gi_9_29 rfl ?_
  refine z_sald (j := 3) (n := 32) (v := 61) gi_9_30 (by decide) rfl (by decide) (by decide) rfl ?_
  refine z_if_neT gi_9_31 zr_61 (by decide) ?_
  refine z_iload5 gi_9_48 ?_
  refine z_cS1 gi_9_50 (Nat.le_of_ble_eq_true rfl) gc_1_I ?_
  refine z_iload0 gi_1_0 ?_
  refine z_if_ltF gi_1_1 zr_5 (by decide) ?_
  refine z_iload0 gi_1_4 ?_
  refine z_pushJ gp_1_5 ?_
  refine z_icmp_geF gi_1_7 zr_5 zr_8 (by decide) ?_
  refine z_pushJ gp_1_10 ?_
  refine z_goto gi_1_11 ?_
  refine z_bret1 gi_1_15 gr_1 ?_
  show zW _ _ _ _ _ _ _ _ _ _
  refine z_if_eqF gi_9_53 zr_1 (by decide) ?_
  refine z_iload4 gi_9_56 ?_
  refine z_pushJ gp_9_58 ?_
  refine z_icmp_ltT gi_9_60 (by omega) zr_40 (by omega) ?_
  refine z_getS gi_9_65 ?_
  refine z_iload5 gi_9_68 ?_
  refine z_pushJ gp_9_70 ?_
  refine z_imul (e := 20) gi_9_71 rfl ?_
  refine z_iload2 gi_9_72 ?_
  refine z_iadd (e := 23) gi_9_73 rfl ?_
  refine z_sald (j := 3) (n := 32) (v := 61) gi_9_74 (by decide) rfl (by decide) (by decide) rfl ?_
  refine z_istore (ls1 := [some (.ref 34), some (zi 5), some (zi 3), some (zi x), some (zi y), some (zi 5), some (zi 61)]) gi_9_75 rfl ?_
  show zW _ _ _ _ [some (.ref 34), some (zi 5), some (zi 3), some (zi x), some (zi y), some (zi 5), some (zi 61)] [] _ _ _ _
  exact kk
theorem ah_6_0 {X : Nat × (Nat → Int32)} {d : Nat} {J M : zA} {R : zR} {P : zP} {x y : Int} (hy : -2147483648 ≤ y ∧ y < 40) (kk : zW X (d + 1) 9 77 [some (.ref 34), some (zi 6), some (zi 0), some (zi x), some (zi y), some (zi 6), some (zi 70)] [] J M R P) : zW X (d + 1) 9 0 [some (.ref 34), some (zi 6), some (zi 0), some (zi x), some (zi y), none, none] [] J M R P := by
  refine z_iload1 gi_9_0 ?_
  refine z_istore (ls1 := [some (.ref 34), some (zi 6), some (zi 0), some (zi x), some (zi y), some (zi 6), none]) gi_9_1 rfl ?_
  refine z_pushJ gp_9_3 ?_
  refine z_istore (ls1 := [some (.ref 34), some (zi 6), some (zi 0), some (zi x), some (zi y), some (zi 6), some (zi 0)]) gi_9_4 rfl ?_
  refine z_iload6 gi_9_6 ?_
  refine z_pushJ gp_9_8 ?_
  refine z_icmp_geF gi_9_10 zr_0 zr_8 (by decide) ?_
  refine z_iload5 gi_9_13 ?_
  refine z_cS1 gi_9_15 (Nat.le_of_ble_eq_true rfl) gc_1_I ?_
  refine z_iload0 gi_1_0 ?_
  refine z_if_ltF gi_1_1 zr_6 (by decide) ?_
  refine z_iload0 gi_1_4 ?_
  refine z_pushJ gp_1_5 ?_
  refine z_icmp_geF gi_1_7 zr_6 zr_8 (by decide) ?_
  refine z_pushJ gp_1_10 ?_
  refine z_goto gi_1_11 ?_
  refine z_bret1 gi_1_15 gr_1 ?_
  show zW _ _ _ _ _ _ _ _ _ _
  refine z_if_eqF gi_9_18 zr_1 (by decide) ?_
  refine z_getS gi_9_21 ?_
  refine z_iload5 gi_9_24 ?_
  refine z_pushJ gp_9_26 ?_
  refine z_imul (e := 24) gi_9_27 rfl ?_
  refine z_iload2 gi_9_28 ?_
  refine z_iadd (e := 24) gi_9_29 rfl ?_
  refine z_sald (j := 3) (n := 32) (v := 70) gi_9_30 (by decide) rfl (by decide) (by decide) rfl ?_
  refine z_if_neT gi_9_31 zr_70 (by decide) ?_
  refine z_iload5 gi_9_48 ?_
  refine z_cS1 gi_9_50 (Nat.le_of_ble_eq_true rfl) gc_1_I ?_
  refine z_iload0 gi_1_0 ?_
  refine z_if_ltF gi_1_1 zr_6 (by decide) ?_
  refine z_iload0 gi_1_4 ?_
  refine z_pushJ gp_1_5 ?_
  refine z_icmp_geF gi_1_7 zr_6 zr_8 (by decide) ?_
  refine z_pushJ gp_1_10 ?_
  refine z_goto gi_1_11 ?_
  refine z_bret1 gi_1_15 gr_1 ?_
  show zW _ _ _ _ _ _ _ _ _ _
  refine z_if_eqF gi_9_53 zr_1 (by decide) ?_
  refine z_iload4 gi_9_56 ?_
  refine z_pushJ gp_9_58 ?_
  refine z_icmp_ltT gi_9_60 (by omega) zr_40 (by omega) ?_
  refine z_getS gi_9_65 ?_
  refine z_iload5 gi_9_68 ?_
  refine z_pushJ gp_9_70 ?_
  refine z_imul (e := 24) gi_9_71 rfl ?_
  refine z_iload2 gi_9_72 ?_
  refine z_iadd (e := 24) gi_9_73 rfl ?_
  refine z_sald (j := 3) (n := 32) (v := 70) gi_9_74 (by decide) rfl (by decide) (by decide) rfl ?_
  refine z_istore (ls1 := [some (.ref 34), some (zi 6), some (zi 0), some (zi x), some (zi y), some (zi 6), some (zi 70)]) gi_9_75 rfl ?_
  show zW _ _ _ _ [some (.ref 34), some (zi 6), some (zi 0), some (zi x), some (zi y), some (zi 6), some (zi 70)] [] _ _ _ _
  exact kk
theorem ah_6_1 {X : Nat × (Nat → Int32)} {d : Nat} {J M : zA} {R : zR} {P : zP} {x y : Int} (hy : -2147483648 ≤ y ∧ y < 40) (kk : zW X (d + 1) 9 77 [some (.ref 34), some (zi 6), some (zi 1), some (zi x), some (zi y), some (zi 0), some (zi 10)] [] J M R P) : zW X (d + 1) 9 0 [some (.ref 34), some (zi 6), some (zi 1), some (zi x), some (zi y), none, none] [] J M R P := by
  refine z_iload1 gi_9_0 ?_
  refine z_istore (ls1 := [some (.ref 34), some (zi 6), some (zi 1), some (zi x), some (zi y), some (zi 6), none]) gi_9_1 rfl ?_
  refine z_pushJ gp_9_3 ?_
  refine z_istore (ls1 := [some (.ref 34), some (zi 6), some (zi 1), some (zi x), some (zi y), some (zi 6), some (zi 0)]) gi_9_4 rfl ?_
  refine z_iload6 gi_9_6 ?_
  refine z_pushJ gp_9_8 ?_
  refine z_icmp_geF gi_9_10 zr_0 zr_8 (by decide) ?_
  refine z_iload5 gi_9_13 ?_
  refine z_cS1 gi_9_15 (Nat.le_of_ble_eq_true rfl) gc_1_I ?_
  refine z_iload0 gi_1_0 ?_
  refine z_if_ltF gi_1_1 zr_6 (by decide) ?_
  refine z_iload0 gi_1_4 ?_
  refine z_pushJ gp_1_5 ?_
  refine z_icmp_geF gi_1_7 zr_6 zr_8 (by decide) ?_
  refine z_pushJ gp_1_10 ?_
  refine z_goto gi_1_11 ?_
  refine z_bret1 gi_1_15 gr_1 ?_
  show zW _ _ _ _ _ _ _ _ _ _
  refine z_if_eqF gi_9_18 zr_1 (by decide) ?_
  refine z_getS gi_9_21 ?_
  refine z_iload5 gi_9_24 ?_
  refine z_pushJ gp_9_26 ?_
  refine z_imul (e := 24) gi_9_27 rfl ?_
  refine z_iload2 gi_9_28 ?_
  refine z_iadd (e := 25) gi_9_29 rfl ?_
  refine z_sald (j := 3) (n := 32) (v := 0) gi_9_30 (by decide) rfl (by decide) (by decide) rfl ?_
  refine z_if_neF gi_9_31 zr_0 (by decide) ?_
  refine z_getS gi_9_34 ?_
  refine z_iload5 gi_9_37 ?_
  refine z_sald (j := 4) (n := 8) (v := 0) gi_9_39 (by decide) rfl (by decide) (by decide) rfl ?_
  refine z_istore (ls1 := [some (.ref 34), some (zi 6), some (zi 1), some (zi x), some (zi y), some (zi 0), some (zi 0)]) gi_9_40 rfl ?_
  refine z_iinc (c := 1) (e := 1) (ls1 := [some (.ref 34), some (zi 6), some (zi 1), some (zi x), some (zi y), some (zi 0), some (zi 1)]) gi_9_42 rfl rfl rfl rfl ?_
  refine z_goto gi_9_45 ?_
  show zW _ _ _ _ [some (.ref 34), some (zi 6), some (zi 1), some (zi x), some (zi y), some (zi 0), some (zi 1)] [] _ _ _ _
  refine z_iload6 gi_9_6 ?_
  refine z_pushJ gp_9_8 ?_
  refine z_icmp_geF gi_9_10 zr_1 zr_8 (by decide) ?_
  refine z_iload5 gi_9_13 ?_
  refine z_cS1 gi_9_15 (Nat.le_of_ble_eq_true rfl) gc_1_I ?_
  refine z_iload0 gi_1_0 ?_
  refine z_if_ltF gi_1_1 zr_0 (by decide) ?_
  refine z_iload0 gi_1_4 ?_
  refine z_pushJ gp_1_5 ?_
  refine z_icmp_geF gi_1_7 zr_0 zr_8 (by decide) ?_
  refine z_pushJ gp_1_10 ?_
  refine z_goto gi_1_11 ?_
  refine z_bret1 gi_1_15 gr_1 ?_
  show zW _ _ _ _ _ _ _ _ _ _
  refine z_if_eqF gi_9_18 zr_1 (by decide) ?_
  refine z_getS gi_9_21 ?_
  refine z_iload5 gi_9_24 ?_
  refine z_pushJ gp_9_26 ?_
  refine z_imul (e := 0) gi_9_27 rfl ?_
  refine z_iload2 gi_9_28 ?_
  refine z_iadd (e := 1) gi_9_29 rfl ?_
  refine z_sald (j := 3) (n := 32) (v := 10) gi_9_30 (by decide) rfl (by decide) (by decide) rfl ?_
  refine z_if_neT gi_9_31 zr_10 (by decide) ?_
  refine z_iload5 gi_9_48 ?_
  refine z_cS1 gi_9_50 (Nat.le_of_ble_eq_true rfl) gc_1_I ?_
  refine z_iload0 gi_1_0 ?_
  refine z_if_ltF gi_1_1 zr_0 (by decide) ?_
  refine z_iload0 gi_1_4 ?_
  refine z_pushJ gp_1_5 ?_
  refine z_icmp_geF gi_1_7 zr_0 zr_8 (by decide) ?_
  refine z_pushJ gp_1_10 ?_
  refine z_goto gi_1_11 ?_
  refine z_bret1 gi_1_15 gr_1 ?_
  show zW _ _ _ _ _ _ _ _ _ _
  refine z_if_eqF gi_9_53 zr_1 (by decide) ?_
  refine z_iload4 gi_9_56 ?_
  refine z_pushJ gp_9_58 ?_
  refine z_icmp_ltT gi_9_60 (by omega) zr_40 (by omega) ?_
  refine z_getS gi_9_65 ?_
  refine z_iload5 gi_9_68 ?_
  refine z_pushJ gp_9_70 ?_
  refine z_imul (e := 0) gi_9_71 rfl ?_
  refine z_iload2 gi_9_72 ?_
  refine z_iadd (e := 1) gi_9_73 rfl ?_
  refine z_sald (j := 3) (n := 32) (v := 10) gi_9_74 (by decide) rfl (by decide) (by decide) rfl ?_
  refine z_istore (ls1 := [some (.ref 34), some (zi 6), some (zi 1), some (zi x), some (zi y), some (zi 0), some (zi 10)]) gi_9_75 rfl ?_
  show zW _ _ _ _ [some (.ref 34), some (zi 6), some (zi 1), some (zi x), some (zi y), some (zi 0), some (zi 10)] [] _ _ _ _
  exact kk
theorem ah_6_2 {X : Nat × (Nat → Int32)} {d : Nat} {J M : zA} {R : zR} {P : zP} {x y : Int} (hy : -2147483648 ≤ y ∧ y < 40) (kk : zW X (d + 1) 9 77 [some (.ref 34), some (zi 6), some (zi 2), some (zi x), some (zi y), some (zi 0), some (zi 11)] [] J M R P) : zW X (d + 1) 9 0 [some (.ref 34), some (zi 6), some (zi 2), some (zi x), some (zi y), none, none] [] J M R P := by
  refine z_iload1 gi_9_0 ?_
  refine z_istore (ls1 := [some (.ref 34), some (zi 6), some (zi 2), some (zi x), some (zi y), some (zi 6), none]) gi_9_1 rfl ?_
  refine z_pushJ gp_9_3 ?_
  refine z_istore (ls1 := [some (.ref 34), some (zi 6), some (zi 2), some (zi x), some (zi y), some (zi 6), some (zi 0)]) gi_9_4 rfl ?_
  refine z_iload6 gi_9_6 ?_
  refine z_pushJ gp_9_8 ?_
  refine z_icmp_geF gi_9_10 zr_0 zr_8 (by decide) ?_
  refine z_iload5 gi_9_13 ?_
  refine z_cS1 gi_9_15 (Nat.le_of_ble_eq_true rfl) gc_1_I ?_
  refine z_iload0 gi_1_0 ?_
  refine z_if_ltF gi_1_1 zr_6 (by decide) ?_
  refine z_iload0 gi_1_4 ?_
  refine z_pushJ gp_1_5 ?_
  refine z_icmp_geF gi_1_7 zr_6 zr_8 (by decide) ?_
  refine z_pushJ gp_1_10 ?_
  refine z_goto gi_1_11 ?_
  refine z_bret1 gi_1_15 gr_1 ?_
  show zW _ _ _ _ _ _ _ _ _ _
  refine z_if_eqF gi_9_18 zr_1 (by decide) ?_
  refine z_getS gi_9_21 ?_
  refine z_iload5 gi_9_24 ?_
  refine z_pushJ gp_9_26 ?_
  refine z_imul (e := 24) gi_9_27 rfl ?_
  refine z_iload2 gi_9_28 ?_
  refine z_iadd (e := 26) gi_9_29 rfl ?_
  refine z_sald (j := 3) (n := 32) (v := 0) gi_9_30 (by decide) rfl (by decide) (by decide) rfl ?_
  refine z_if_neF gi_9_31 zr_0 (by decide) ?_
  refine z_getS gi_9_34 ?_
  refine z_iload5 gi_9_37 ?_
  refine z_sald (j := 4) (n := 8) (v := 0) gi_9_39 (by decide) rfl (by decide) (by decide) rfl ?_
  refine z_istore (ls1 := [some (.ref 34), some (zi 6), some (zi 2), some (zi x), some (zi y), some (zi 0), some (zi 0)]) gi_9_40 rfl ?_
  refine z_iinc (c := 1) (e := 1) (ls1 := [some (.ref 34), some (zi 6), some (zi 2), some (zi x), some (zi y), some (zi 0), some (zi 1)]) gi_9_42 rfl rfl rfl rfl ?_
  refine z_goto gi_9_45 ?_
  show zW _ _ _ _ [some (.ref 34), some (zi 6), some (zi 2), some (zi x), some (zi y), some (zi 0), some (zi 1)] [] _ _ _ _
  refine z_iload6 gi_9_6 ?_
  refine z_pushJ gp_9_8 ?_
  refine z_icmp_geF gi_9_10 zr_1 zr_8 (by decide) ?_
  refine z_iload5 gi_9_13 ?_
  refine z_cS1 gi_9_15 (Nat.le_of_ble_eq_true rfl) gc_1_I ?_
  refine z_iload0 gi_1_0 ?_
  refine z_if_ltF gi_1_1 zr_0 (by decide) ?_
  refine z_iload0 gi_1_4 ?_
  refine z_pushJ gp_1_5 ?_
  refine z_icmp_geF gi_1_7 zr_0 zr_8 (by decide) ?_
  refine z_pushJ gp_1_10 ?_
  refine z_goto gi_1_11 ?_
  refine z_bret1 gi_1_15 gr_1 ?_
  show zW _ _ _ _ _ _ _ _ _ _
  refine z_if_eqF gi_9_18 zr_1 (by decide) ?_
  refine z_getS gi_9_21 ?_
  refine z_iload5 gi_9_24 ?_
  refine z_pushJ gp_9_26 ?_
  refine z_imul (e := 0) gi_9_27 rfl ?_
  refine z_iload2 gi_9_28 ?_
  refine z_iadd (e := 2) gi_9_29 rfl ?_
  refine z_sald (j := 3) (n := 32) (v := 11) gi_9_30 (by decide) rfl (by decide) (by decide) rfl ?_
  refine z_if_neT gi_9_31 zr_11 (by decide) ?_
  refine z_iload5 gi_9_48 ?_
  refine z_cS1 gi_9_50 (Nat.le_of_ble_eq_true rfl) gc_1_I ?_
  refine z_iload0 gi_1_0 ?_
  refine z_if_ltF gi_1_1 zr_0 (by decide) ?_
  refine z_iload0 gi_1_4 ?_
  refine z_pushJ gp_1_5 ?_
  refine z_icmp_geF gi_1_7 zr_0 zr_8 (by decide) ?_
  refine z_pushJ gp_1_10 ?_
  refine z_goto gi_1_11 ?_
  refine z_bret1 gi_1_15 gr_1 ?_
  show zW _ _ _ _ _ _ _ _ _ _
  refine z_if_eqF gi_9_53 zr_1 (by decide) ?_
  refine z_iload4 gi_9_56 ?_
  refine z_pushJ gp_9_58 ?_
  refine z_icmp_ltT gi_9_60 (by omega) zr_40 (by omega) ?_
  refine z_getS gi_9_65 ?_
  refine z_iload5 gi_9_68 ?_
  refine z_pushJ gp_9_70 ?_
  refine z_imul (e := 0) gi_9_71 rfl ?_
  refine z_iload2 gi_9_72 ?_
  refine z_iadd (e := 2) gi_9_73 rfl ?_
  refine z_sald (j := 3) (n := 32) (v := 11) gi_9_74 (by decide) rfl (by decide) (by decide) rfl ?_
  refine z_istore (ls1 := [some (.ref 34), some (zi 6), some (zi 2), some (zi x), some (zi y), some (zi 0), some (zi 11)]) gi_9_75 rfl ?_
  show zW _ _ _ _ [some (.ref 34), some (zi 6), some (zi 2), some (zi x), some (zi y), some (zi 0), some (zi 11)] [] _ _ _ _
  exact kk
theorem ah_6_3 {X : Nat × (Nat → Int32)} {d : Nat} {J M : zA} {R : zR} {P : zP} {x y : Int} (hy : -2147483648 ≤ y ∧ y < 40) (kk : zW X (d + 1) 9 77 [some (.ref 34), some (zi 6), some (zi 3), some (zi x), some (zi y), some (zi 0), some (zi 2)] [] J M R P) : zW X (d + 1) 9 0 [some (.ref 34), some (zi 6), some (zi 3), some (zi x), some (zi y), none, none] [] J M R P := by
  refine z_iload1 gi_9_0 ?_
  refine z_istore (ls1 := [some (.ref 34), some (zi 6), some (zi 3), some (zi x), some (zi y), some (zi 6), none]) gi_9_1 rfl ?_
  refine z_pushJ gp_9_3 ?_
  refine z_istore (ls1 := [some (.ref 34), some (zi 6), some (zi 3), some (zi x), some (zi y), some (zi 6), some (zi 0)]) gi_9_4 rfl ?_
  refine z_iload6 gi_9_6 ?_
  refine z_pushJ gp_9_8 ?_
  refine z_icmp_geF gi_9_10 zr_0 zr_8 (by decide) ?_
  refine z_iload5 gi_9_13 ?_
  refine z_cS1 gi_9_15 (Nat.le_of_ble_eq_true rfl) gc_1_I ?_
  refine z_iload0 gi_1_0 ?_
  refine z_if_ltF gi_1_1 zr_6 (by decide) ?_
  refine z_iload0 gi_1_4 ?_
  refine z_pushJ gp_1_5 ?_
  refine z_icmp_geF gi_1_7 zr_6 zr_8 (by decide) ?_
  refine z_pushJ gp_1_10 ?_
  refine z_goto gi_1_11 ?_
  refine z_bret1 gi_1_15 gr_1 ?_
  show zW _ _ _ _ _ _ _ _ _ _
  refine z_if_eqF gi_9_18 zr_1 (by decide) ?_
  refine z_getS gi_9_21 ?_
  refine z_iload5 gi_9_24 ?_
  refine z_pushJ gp_9_26 ?_
  refine z_imul (e := 24) gi_9_27 rfl ?_
  refine z_iload2 gi_9_28 ?_
  refine z_iadd (e := 27) gi_9_29 rfl ?_
  refine z_sald (j := 3) (n := 32) (v := 0) gi_9_30 (by decide) rfl (by decide) (by decide) rfl ?_
  refine z_if_neF gi_9_31 zr_0 (by decide) ?_
  refine z_getS gi_9_34 ?_
  refine z_iload5 gi_9_37 ?_
  refine z_sald (j := 4) (n := 8) (v := 0) gi_9_39 (by decide) rfl (by decide) (by decide) rfl ?_
  refine z_istore (ls1 := [some (.ref 34), some (zi 6), some (zi 3), some (zi x), some (zi y), some (zi 0), some (zi 0)]) gi_9_40 rfl ?_
  refine z_iinc (c := 1) (e := 1) (ls1 := [some (.ref 34), some (zi 6), some (zi 3), some (zi x), some (zi y), some (zi 0), some (zi 1)]) gi_9_42 rfl rfl rfl rfl ?_
  refine z_goto gi_9_45 ?_
  show zW _ _ _ _ [some (.ref 34), some (zi 6), some (zi 3), some (zi x), some (zi y), some (zi 0), some (zi 1)] [] _ _ _ _
  refine z_iload6 gi_9_6 ?_
  refine z_pushJ gp_9_8 ?_
  refine z_icmp_geF gi_9_10 zr_1 zr_8 (by decide) ?_
  refine z_iload5 gi_9_13 ?_
  refine z_cS1 gi_9_15 (Nat.le_of_ble_eq_true rfl) gc_1_I ?_
  refine z_iload0 gi_1_0 ?_
  refine z_if_ltF gi_1_1 zr_0 (by decide) ?_
  refine z_iload0 gi_1_4 ?_
  refine z_pushJ gp_1_5 ?_
  refine z_icmp_geF gi_1_7 zr_0 zr_8 (by decide) ?_
  refine z_pushJ gp_1_10 ?_
  refine z_goto gi_1_11 ?_
  refine z_bret1 gi_1_15 gr_1 ?_
  show zW _ _ _ _ _ _ _ _ _ _
  refine z_if_eqF gi_9_18 zr_1 (by decide) ?_
  refine z_getS gi_9_21 ?_
  refine z_iload5 gi_9_24 ?_
  refine z_pushJ gp_9_26 ?_
  refine z_imul (e := 0) gi_9_27 rfl ?_
  refine z_iload2 gi_9_28 ?_
  refine z_iadd (e := 3) gi_9_29 rfl ?_
  refine z_sald (j := 3) (n := 32) (v := 2) gi_9_30 (by decide) rfl (by decide) (by decide) rfl ?_
  refine z_if_neT gi_9_31 zr_2 (by decide) ?_
  refine z_iload5 gi_9_48 ?_
  refine z_cS1 gi_9_50 (Nat.le_of_ble_eq_true rfl) gc_1_I ?_
  refine z_iload0 gi_1_0 ?_
  refine z_if_ltF gi_1_1 zr_0 (by decide) ?_
  refine z_iload0 gi_1_4 ?_
  refine z_pushJ gp_1_5 ?_
  refine z_icmp_geF gi_1_7 zr_0 zr_8 (by decide) ?_
  refine z_pushJ gp_1_10 ?_
  refine z_goto gi_1_11 ?_
  refine z_bret1 gi_1_15 gr_1 ?_
  show zW _ _ _ _ _ _ _ _ _ _
  refine z_if_eqF gi_9_53 zr_1 (by decide) ?_
  refine z_iload4 gi_9_56 ?_
  refine z_pushJ gp_9_58 ?_
  refine z_icmp_ltT gi_9_60 (by omega) zr_40 (by omega) ?_
  refine z_getS gi_9_65 ?_
  refine z_iload5 gi_9_68 ?_
  refine z_pushJ gp_9_70 ?_
  refine z_imul (e := 0) gi_9_71 rfl ?_
  refine z_iload2 gi_9_72 ?_
  refine z_iadd (e := 3) gi_9_73 rfl ?_
  refine z_sald (j := 3) (n := 32) (v := 2) gi_9_74 (by decide) rfl (by decide) (by decide) rfl ?_
  refine z_istore (ls1 := [some (.ref 34), some (zi 6), some (zi 3), some (zi x), some (zi y), some (zi 0), some (zi 2)]) gi_9_75 rfl ?_
  show zW _ _ _ _ [some (.ref 34), some (zi 6), some (zi 3), some (zi x), some (zi y), some (zi 0), some (zi 2)] [] _ _ _ _
  exact kk
theorem ah_7_0 {X : Nat × (Nat → Int32)} {d : Nat} {J M : zA} {R : zR} {P : zP} {x y : Int} (hy : -2147483648 ≤ y ∧ y < 40) (kk : zW X (d + 1) 9 77 [some (.ref 34), some (zi 7), some (zi 0), some (zi x), some (zi y), some (zi 7), some (zi 81)] [] J M R P) : zW X (d + 1) 9 0 [some (.ref 34), some (zi 7), some (zi 0), some (zi x), some (zi y), none, none] [] J M R P := by
  refine z_iload1 gi_9_0 ?_
  refine z_istore (ls1 := [some (.ref 34), some (zi 7), some (zi 0), some (zi x), some (zi y), some (zi 7), none]) gi_9_1 rfl ?_
  refine z_pushJ gp_9_3 ?_
  refine z_istore (ls1 := [some (.ref 34), some (zi 7), some (zi 0), some (zi x), some (zi y), some (zi 7), some (zi 0)]) gi_9_4 rfl ?_
  refine z_iload6 gi_9_6 ?_
  refine z_pushJ gp_9_8 ?_
  refine z_icmp_geF gi_9_10 zr_0 zr_8 (by decide) ?_
  refine z_iload5 gi_9_13 ?_
  refine z_cS1 gi_9_15 (Nat.le_of_ble_eq_true rfl) gc_1_I ?_
  refine z_iload0 gi_1_0 ?_
  refine z_if_ltF gi_1_1 zr_7 (by decide) ?_
  refine z_iload0 gi_1_4 ?_
  refine z_pushJ gp_1_5 ?_
  refine z_icmp_geF gi_1_7 zr_7 zr_8 (by decide) ?_
  refine z_pushJ gp_1_10 ?_
  refine z_goto gi_1_11 ?_
  refine z_bret1 gi_1_15 gr_1 ?_
  show zW _ _ _ _ _ _ _ _ _ _
  refine z_if_eqF gi_9_18 zr_1 (by decide) ?_
  refine z_getS gi_9_21 ?_
  refine z_iload5 gi_9_24 ?_
  refine z_pushJ gp_9_26 ?_
  refine z_imul (e := 28) gi_9_27 rfl ?_
  refine z_iload2 gi_9_28 ?_
  refine z_iadd (e := 28) gi_9_29 rfl ?_
  refine z_sald (j := 3) (n := 32) (v := 81) gi_9_30 (by decide) rfl (by decide) (by decide) rfl ?_
  refine z_if_neT gi_9_31 zr_81 (by decide) ?_
  refine z_iload5 gi_9_48 ?_
  refine z_cS1 gi_9_50 (Nat.le_of_ble_eq_true rfl) gc_1_I ?_
  refine z_iload0 gi_1_0 ?_
  refine z_if_ltF gi_1_1 zr_7 (by decide) ?_
  refine z_iload0 gi_1_4 ?_
  refine z_pushJ gp_1_5 ?_
  refine z_icmp_geF gi_1_7 zr_7 zr_8 (by decide) ?_
  refine z_pushJ gp_1_10 ?_
  refine z_goto gi_1_11 ?_
  refine z_bret1 gi_1_15 gr_1 ?_
  show zW _ _ _ _ _ _ _ _ _ _
  refine z_if_eqF gi_9_53 zr_1 (by decide) ?_
  refine z_iload4 gi_9_56 ?_
  refine z_pushJ gp_9_58 ?_
  refine z_icmp_ltT gi_9_60 (by omega) zr_40 (by omega) ?_
  refine z_getS gi_9_65 ?_
  refine z_iload5 gi_9_68 ?_
  refine z_pushJ gp_9_70 ?_
  refine z_imul (e := 28) gi_9_71 rfl ?_
  refine z_iload2 gi_9_72 ?_
  refine z_iadd (e := 28) gi_9_73 rfl ?_
  refine z_sald (j := 3) (n := 32) (v := 81) gi_9_74 (by decide) rfl (by decide) (by decide) rfl ?_
  refine z_istore (ls1 := [some (.ref 34), some (zi 7), some (zi 0), some (zi x), some (zi y), some (zi 7), some (zi 81)]) gi_9_75 rfl ?_
  show zW _ _ _ _ [some (.ref 34), some (zi 7), some (zi 0), some (zi x), some (zi y), some (zi 7), some (zi 81)] [] _ _ _ _
  exact kk
theorem ah_7_1 {X : Nat × (Nat → Int32)} {d : Nat} {J M : zA} {R : zR} {P : zP} {x y : Int} (hy : -2147483648 ≤ y ∧ y < 40) (kk : zW X (d + 1) 9 77 [some (.ref 34), some (zi 7), some (zi 1), some (zi x), some (zi y), some (zi 7), some (zi 80)] [] J M R P) : zW X (d + 1) 9 0 [some (.ref 34), some (zi 7), some (zi 1), some (zi x), some (zi y), none, none] [] J M R P := by
  refine z_iload1 gi_9_0 ?_
  refine z_istore (ls1 := [some (.ref 34), some (zi 7), some (zi 1), some (zi x), some (zi y), some (zi 7), none]) gi_9_1 rfl ?_
  refine z_pushJ gp_9_3 ?_
  refine z_istore (ls1 := [some (.ref 34), some (zi 7), some (zi 1), some (zi x), some (zi y), some (zi 7), some (zi 0)]) gi_9_4 rfl ?_
  refine z_iload6 gi_9_6 ?_
  refine z_pushJ gp_9_8 ?_
  refine z_icmp_geF gi_9_10 zr_0 zr_8 (by decide) ?_
  refine z_iload5 gi_9_13 ?_
  refine z_cS1 gi_9_15 (Nat.le_of_ble_eq_true rfl) gc_1_I ?_
  refine z_iload0 gi_1_0 ?_
  refine z_if_ltF gi_1_1 zr_7 (by decide) ?_
  refine z_iload0 gi_1_4 ?_
  refine z_pushJ gp_1_5 ?_
  refine z_icmp_geF gi_1_7 zr_7 zr_8 (by decide) ?_
  refine z_pushJ gp_1_10 ?_
  refine z_goto gi_1_11 ?_
  refine z_bret1 gi_1_15 gr_1 ?_
  show zW _ _ _ _ _ _ _ _ _ _
  refine z_if_eqF gi_9_18 zr_1 (by decide) ?_
  refine z_getS gi_9_21 ?_
  refine z_iload5 gi_9_24 ?_
  refine z_pushJ gp_9_26 ?_
  refine z_imul (e := 28) gi_9_27 rfl ?_
  refine z_iload2 gi_9_28 ?_
  refine z_iadd (e := 29) gi_9_29 rfl ?_
  refine z_sald (j := 3) (n := 32) (v := 80) gi_9_30 (by decide) rfl (by decide) (by decide) rfl ?_
  refine z_if_neT gi_9_31 zr_80 (by decide) ?_
  refine z_iload5 gi_9_48 ?_
  refine z_cS1 gi_9_50 (Nat.le_of_ble_eq_true rfl) gc_1_I ?_
  refine z_iload0 gi_1_0 ?_
  refine z_if_ltF gi_1_1 zr_7 (by decide) ?_
  refine z_iload0 gi_1_4 ?_
  refine z_pushJ gp_1_5 ?_
  refine z_icmp_geF gi_1_7 zr_7 zr_8 (by decide) ?_
  refine z_pushJ gp_1_10 ?_
  refine z_goto gi_1_11 ?_
  refine z_bret1 gi_1_15 gr_1 ?_
  show zW _ _ _ _ _ _ _ _ _ _
  refine z_if_eqF gi_9_53 zr_1 (by decide) ?_
  refine z_iload4 gi_9_56 ?_
  refine z_pushJ gp_9_58 ?_
  refine z_icmp_ltT gi_9_60 (by omega) zr_40 (by omega) ?_
  refine z_getS gi_9_65 ?_
  refine z_iload5 gi_9_68 ?_
  refine z_pushJ gp_9_70 ?_
  refine z_imul (e := 28) gi_9_71 rfl ?_
  refine z_iload2 gi_9_72 ?_
  refine z_iadd (e := 29) gi_9_73 rfl ?_
  refine z_sald (j := 3) (n := 32) (v := 80) gi_9_74 (by decide) rfl (by decide) (by decide) rfl ?_
  refine z_istore (ls1 := [some (.ref 34), some (zi 7), some (zi 1), some (zi x), some (zi y), some (zi 7), some (zi 80)]) gi_9_75 rfl ?_
  show zW _ _ _ _ [some (.ref 34), some (zi 7), some (zi 1), some (zi x), some (zi y), some (zi 7), some (zi 80)] [] _ _ _ _
  exact kk
theorem ah_7_2 {X : Nat × (Nat → Int32)} {d : Nat} {J M : zA} {R : zR} {P : zP} {x y : Int} (hy : -2147483648 ≤ y ∧ y < 40) (kk : zW X (d + 1) 9 77 [some (.ref 34), some (zi 7), some (zi 2), some (zi x), some (zi y), some (zi 0), some (zi 11)] [] J M R P) : zW X (d + 1) 9 0 [some (.ref 34), some (zi 7), some (zi 2), some (zi x), some (zi y), none, none] [] J M R P := by
  refine z_iload1 gi_9_0 ?_
  refine z_istore (ls1 := [some (.ref 34), some (zi 7), some (zi 2), some (zi x), some (zi y), some (zi 7), none]) gi_9_1 rfl ?_
  refine z_pushJ gp_9_3 ?_
  refine z_istore (ls1 := [some (.ref 34), some (zi 7), some (zi 2), some (zi x), some (zi y), some (zi 7), some (zi 0)]) gi_9_4 rfl ?_
  refine z_iload6 gi_9_6 ?_
  refine z_pushJ gp_9_8 ?_
  refine z_icmp_geF gi_9_10 zr_0 zr_8 (by decide) ?_
  refine z_iload5 gi_9_13 ?_
  refine z_cS1 gi_9_15 (Nat.le_of_ble_eq_true rfl) gc_1_I ?_
  refine z_iload0 gi_1_0 ?_
  refine z_if_ltF gi_1_1 zr_7 (by decide) ?_
  refine z_iload0 gi_1_4 ?_
  refine z_pushJ gp_1_5 ?_
  refine z_icmp_geF gi_1_7 zr_7 zr_8 (by decide) ?_
  refine z_pushJ gp_1_10 ?_
  refine z_goto gi_1_11 ?_
  refine z_bret1 gi_1_15 gr_1 ?_
  show zW _ _ _ _ _ _ _ _ _ _
  refine z_if_eqF gi_9_18 zr_1 (by decide) ?_
  refine z_getS gi_9_21 ?_
  refine z_iload5 gi_9_24 ?_
  refine z_pushJ gp_9_26 ?_
  refine z_imul (e := 28) gi_9_27 rfl ?_
  refine z_iload2 gi_9_28 ?_
  refine z_iadd (e := 30) gi_9_29 rfl ?_
  refine z_sald (j := 3) (n := 32) (v := 0) gi_9_30 (by decide) rfl (by decide) (by decide) rfl ?_
  refine z_if_neF gi_9_31 zr_0 (by decide) ?_
  refine z_getS gi_9_34 ?_
  refine z_iload5 gi_9_37 ?_
  refine z_sald (j := 4) (n := 8) (v := 6) gi_9_39 (by decide) rfl (by decide) (by decide) rfl ?_
  refine z_istore (ls1 := [some (.ref 34), some (zi 7), some (zi 2), some (zi x), some (zi y), some (zi 6), some (zi 0)]) gi_9_40 rfl ?_
  refine z_iinc (c := 1) (e := 1) (ls1 := [some (.ref 34), some (zi 7), some (zi 2), some (zi x), some (zi y), some (zi 6), some (zi 1)]) gi_9_42 rfl rfl rfl rfl ?_
  refine z_goto gi_9_45 ?_
  show zW _ _ _ _ [some (.ref 34), some (zi 7), some (zi 2), some (zi x), some (zi y), some (zi 6), some (zi 1)] [] _ _ _ _
  refine z_iload6 gi_9_6 ?_
  refine z_pushJ gp_9_8 ?_
  refine z_icmp_geF gi_9_10 zr_1 zr_8 (by decide) ?_
  refine z_iload5 gi_9_13 ?_
  refine z_cS1 gi_9_15 (Nat.le_of_ble_eq_true rfl) gc_1_I ?_
  refine z_iload0 gi_1_0 ?_
  refine z_if_ltF gi_1_1 zr_6 (by decide) ?_
  refine z_iload0 gi_1_4 ?_
  refine z_pushJ gp_1_5 ?_
  refine z_icmp_geF gi_1_7 zr_6 zr_8 (by decide) ?_
  refine z_pushJ gp_1_10 ?_
  refine z_goto gi_1_11 ?_
  refine z_bret1 gi_1_15 gr_1 ?_
  show zW _ _ _ _ _ _ _ _ _ _
  refine z_if_eqF gi_9_18 zr_1 (by decide) ?_
  refine z_getS gi_9_21 ?_
  refine z_iload5 gi_9_24 ?_
  refine z_pushJ gp_9_26 ?_
  refine z_imul (e := 24) gi_9_27 rfl ?_
  refine z_iload2 gi_9_28 ?_
  refine z_iadd (e := 26) gi_9_29 rfl ?_
  refine z_sald (j := 3) (n := 32) (v := 0) gi_9_30 (by decide) rfl (by decide) (by decide) rfl ?_
  refine z_if_neF gi_9_31 zr_0 (by decide) ?_
  refine z_getS gi_9_34 ?_
  refine z_iload5 gi_9_37 ?_
  refine z_sald (j := 4) (n := 8) (v := 0) gi_9_39 (by decide) rfl (by decide) (by decide) rfl ?_
  refine z_istore (ls1 := [some (.ref 34), some (zi 7), some (zi 2), some (zi x), some (zi y), some (zi 0), some (zi 1)]) gi_9_40 rfl ?_
  refine z_iinc (c := 1) (e := 2) (ls1 := [some (.ref 34), some (zi 7), some (zi 2), some (zi x), some (zi y), some (zi 0), some (zi 2)]) gi_9_42 rfl rfl rfl rfl ?_
  refine z_goto gi_9_45 ?_
  show zW _ _ _ _ [some (.ref 34), some (zi 7), some (zi 2), some (zi x), some (zi y), some (zi 0), some (zi 2)] [] _ _ _ _
  refine z_iload6 gi_9_6 ?_
  refine z_pushJ gp_9_8 ?_
  refine z_icmp_geF gi_9_10 zr_2 zr_8 (by decide) ?_
  refine z_iload5 gi_9_13 ?_
  refine z_cS1 gi_9_15 (Nat.le_of_ble_eq_true rfl) gc_1_I ?_
  refine z_iload0 gi_1_0 ?_
  refine z_if_ltF gi_1_1 zr_0 (by decide) ?_
  refine z_iload0 gi_1_4 ?_
  refine z_pushJ gp_1_5 ?_
  refine z_icmp_geF gi_1_7 zr_0 zr_8 (by decide) ?_
  refine z_pushJ gp_1_10 ?_
  refine z_goto gi_1_11 ?_
  refine z_bret1 gi_1_15 gr_1 ?_
  show zW _ _ _ _ _ _ _ _ _ _
  refine z_if_eqF gi_9_18 zr_1 (by decide) ?_
  refine z_getS gi_9_21 ?_
  refine z_iload5 gi_9_24 ?_
  refine z_pushJ gp_9_26 ?_
  refine z_imul (e := 0) gi_9_27 rfl ?_
  refine z_iload2 gi_9_28 ?_
  refine z_iadd (e := 2) gi_9_29 rfl ?_
  refine z_sald (j := 3) (n := 32) (v := 11) gi_9_30 (by decide) rfl (by decide) (by decide) rfl ?_
  refine z_if_neT gi_9_31 zr_11 (by decide) ?_
  refine z_iload5 gi_9_48 ?_
  refine z_cS1 gi_9_50 (Nat.le_of_ble_eq_true rfl) gc_1_I ?_
  refine z_iload0 gi_1_0 ?_
  refine z_if_ltF gi_1_1 zr_0 (by decide) ?_
  refine z_iload0 gi_1_4 ?_
  refine z_pushJ gp_1_5 ?_
  refine z_icmp_geF gi_1_7 zr_0 zr_8 (by decide) ?_
  refine z_pushJ gp_1_10 ?_
  refine z_goto gi_1_11 ?_
  refine z_bret1 gi_1_15 gr_1 ?_
  show zW _ _ _ _ _ _ _ _ _ _
  refine z_if_eqF gi_9_53 zr_1 (by decide) ?_
  refine z_iload4 gi_9_56 ?_
  refine z_pushJ gp_9_58 ?_
  refine z_icmp_ltT gi_9_60 (by omega) zr_40 (by omega) ?_
  refine z_getS gi_9_65 ?_
  refine z_iload5 gi_9_68 ?_
  refine z_pushJ gp_9_70 ?_
  refine z_imul (e := 0) gi_9_71 rfl ?_
  refine z_iload2 gi_9_72 ?_
  refine z_iadd (e := 2) gi_9_73 rfl ?_
  refine z_sald (j := 3) (n := 32) (v := 11) gi_9_74 (by decide) rfl (by decide) (by decide) rfl ?_
  refine z_istore (ls1 := [some (.ref 34), some (zi 7), some (zi 2), some (zi x), some (zi y), some (zi 0), some (zi 11)]) gi_9_75 rfl ?_
  show zW _ _ _ _ [some (.ref 34), some (zi 7), some (zi 2), some (zi x), some (zi y), some (zi 0), some (zi 11)] [] _ _ _ _
  exact kk
theorem ah_7_3 {X : Nat × (Nat → Int32)} {d : Nat} {J M : zA} {R : zR} {P : zP} {x y : Int} (hy : -2147483648 ≤ y ∧ y < 40) (kk : zW X (d + 1) 9 77 [some (.ref 34), some (zi 7), some (zi 3), some (zi x), some (zi y), some (zi 0), some (zi 2)] [] J M R P) : zW X (d + 1) 9 0 [some (.ref 34), some (zi 7), some (zi 3), some (zi x), some (zi y), none, none] [] J M R P := by
  refine z_iload1 gi_9_0 ?_
  refine z_istore (ls1 := [some (.ref 34), some (zi 7), some (zi 3), some (zi x), some (zi y), some (zi 7), none]) gi_9_1 rfl ?_
  refine z_pushJ gp_9_3 ?_
  refine z_istore (ls1 := [some (.ref 34), some (zi 7), some (zi 3), some (zi x), some (zi y), some (zi 7), some (zi 0)]) gi_9_4 rfl ?_
  refine z_iload6 gi_9_6 ?_
  refine z_pushJ gp_9_8 ?_
  refine z_icmp_geF gi_9_10 zr_0 zr_8 (by decide) ?_
  refine z_iload5 gi_9_13 ?_
  refine z_cS1 gi_9_15 (Nat.le_of_ble_eq_true rfl) gc_1_I ?_
  refine z_iload0 gi_1_0 ?_
  refine z_if_ltF gi_1_1 zr_7 (by decide) ?_
  refine z_iload0 gi_1_4 ?_
  refine z_pushJ gp_1_5 ?_
  refine z_icmp_geF gi_1_7 zr_7 zr_8 (by decide) ?_
  refine z_pushJ gp_1_10 ?_
  refine z_goto gi_1_11 ?_
  refine z_bret1 gi_1_15 gr_1 ?_
  show zW _ _ _ _ _ _ _ _ _ _
  refine z_if_eqF gi_9_18 zr_1 (by decide) ?_
  refine z_getS gi_9_21 ?_
  refine z_iload5 gi_9_24 ?_
  refine z_pushJ gp_9_26 ?_
  refine z_imul (e := 28) gi_9_27 rfl ?_
  refine z_iload2 gi_9_28 ?_
  refine z_iadd (e := 31) gi_9_29 rfl ?_
  refine z_sald (j := 3) (n := 32) (v := 0) gi_9_30 (by decide) rfl (by decide) (by decide) rfl ?_
  refine z_if_neF gi_9_31 zr_0 (by decide) ?_
  refine z_getS gi_9_34 ?_
  refine z_iload5 gi_9_37 ?_
  refine z_sald (j := 4) (n := 8) (v := 6) gi_9_39 (by decide) rfl (by decide) (by decide) rfl ?_
  refine z_istore (ls1 := [some (.ref 34), some (zi 7), some (zi 3), some (zi x), some (zi y), some (zi 6), some (zi 0)]) gi_9_40 rfl ?_
  refine z_iinc (c := 1) (e := 1) (ls1 := [some (.ref 34), some (zi 7), some (zi 3), some (zi x), some (zi y), some (zi 6), some (zi 1)]) gi_9_42 rfl rfl rfl rfl ?_
  refine z_goto gi_9_45 ?_
  show zW _ _ _ _ [some (.ref 34), some (zi 7), some (zi 3), some (zi x), some (zi y), some (zi 6), some (zi 1)] [] _ _ _ _
  refine z_iload6 gi_9_6 ?_
  refine z_pushJ gp_9_8 ?_
  refine z_icmp_geF gi_9_10 zr_1 zr_8 (by decide) ?_
  refine z_iload5 gi_9_13 ?_
  refine z_cS1 gi_9_15 (Nat.le_of_ble_eq_true rfl) gc_1_I ?_
  refine z_iload0 gi_1_0 ?_
  refine z_if_ltF gi_1_1 zr_6 (by decide) ?_
  refine z_iload0 gi_1_4 ?_
  refine z_pushJ gp_1_5 ?_
  refine z_icmp_geF gi_1_7 zr_6 zr_8 (by decide) ?_
  refine z_pushJ gp_1_10 ?_
  refine z_goto gi_1_11 ?_
  refine z_bret1 gi_1_15 gr_1 ?_
  show zW _ _ _ _ _ _ _ _ _ _
  refine z_if_eqF gi_9_18 zr_1 (by decide) ?_
  refine z_getS gi_9_21 ?_
  refine z_iload5 gi_9_24 ?_
  refine z_pushJ gp_9_26 ?_
  refine z_imul (e := 24) gi_9_27 rfl ?_
  refine z_iload2 gi_9_28 ?_
  refine z_iadd (e := 27) gi_9_29 rfl ?_
  refine z_sald (j := 3) (n := 32) (v := 0) gi_9_30 (by decide) rfl (by decide) (by decide) rfl ?_
  refine z_if_neF gi_9_31 zr_0 (by decide) ?_
  refine z_getS gi_9_34 ?_
  refine z_iload5 gi_9_37 ?_
  refine z_sald (j := 4) (n := 8) (v := 0) gi_9_39 (by decide) rfl (by decide) (by decide) rfl ?_
  refine z_istore (ls1 := [some (.ref 34), some (zi 7), some (zi 3), some (zi x), some (zi y), some (zi 0), some (zi 1)]) gi_9_40 rfl ?_
  refine z_iinc (c := 1) (e := 2) (ls1 := [some (.ref 34), some (zi 7), some (zi 3), some (zi x), some (zi y), some (zi 0), some (zi 2)]) gi_9_42 rfl rfl rfl rfl ?_
  refine z_goto gi_9_45 ?_
  show zW _ _ _ _ [some (.ref 34), some (zi 7), some (zi 3), some (zi x), some (zi y), some (zi 0), some (zi 2)] [] _ _ _ _
  refine z_iload6 gi_9_6 ?_
  refine z_pushJ gp_9_8 ?_
  refine z_icmp_geF gi_9_10 zr_2 zr_8 (by decide) ?_
  refine z_iload5 gi_9_13 ?_
  refine z_cS1 gi_9_15 (Nat.le_of_ble_eq_true rfl) gc_1_I ?_
  refine z_iload0 gi_1_0 ?_
  refine z_if_ltF gi_1_1 zr_0 (by decide) ?_
  refine z_iload0 gi_1_4 ?_
  refine z_pushJ gp_1_5 ?_
  refine z_icmp_geF gi_1_7 zr_0 zr_8 (by decide) ?_
  refine z_pushJ gp_1_10 ?_
  refine z_goto gi_1_11 ?_
  refine z_bret1 gi_1_15 gr_1 ?_
  show zW _ _ _ _ _ _ _ _ _ _
  refine z_if_eqF gi_9_18 zr_1 (by decide) ?_
  refine z_getS gi_9_21 ?_
  refine z_iload5 gi_9_24 ?_
  refine z_pushJ gp_9_26 ?_
  refine z_imul (e := 0) gi_9_27 rfl ?_
  refine z_iload2 gi_9_28 ?_
  refine z_iadd (e := 3) gi_9_29 rfl ?_
  refine z_sald (j := 3) (n := 32) (v := 2) gi_9_30 (by decide) rfl (by decide) (by decide) rfl ?_
  refine z_if_neT gi_9_31 zr_2 (by decide) ?_
  refine z_iload5 gi_9_48 ?_
  refine z_cS1 gi_9_50 (Nat.le_of_ble_eq_true rfl) gc_1_I ?_
  refine z_iload0 gi_1_0 ?_
  refine z_if_ltF gi_1_1 zr_0 (by decide) ?_
  refine z_iload0 gi_1_4 ?_
  refine z_pushJ gp_1_5 ?_
  refine z_icmp_geF gi_1_7 zr_0 zr_8 (by decide) ?_
  refine z_pushJ gp_1_10 ?_
  refine z_goto gi_1_11 ?_
  refine z_bret1 gi_1_15 gr_1 ?_
  show zW _ _ _ _ _ _ _ _ _ _
  refine z_if_eqF gi_9_53 zr_1 (by decide) ?_
  refine z_iload4 gi_9_56 ?_
  refine z_pushJ gp_9_58 ?_
  refine z_icmp_ltT gi_9_60 (by omega) zr_40 (by omega) ?_
  refine z_getS gi_9_65 ?_
  refine z_iload5 gi_9_68 ?_
  refine z_pushJ gp_9_70 ?_
  refine z_imul (e := 0) gi_9_71 rfl ?_
  refine z_iload2 gi_9_72 ?_
  refine z_iadd (e := 3) gi_9_73 rfl ?_
  refine z_sald (j := 3) (n := 32) (v := 2) gi_9_74 (by decide) rfl (by decide) (by decide) rfl ?_
  refine z_istore (ls1 := [some (.ref 34), some (zi 7), some (zi 3), some (zi x), some (zi y), some (zi 0), some (zi 2)]) gi_9_75 rfl ?_
  show zW _ _ _ _ [some (.ref 34), some (zi 7), some (zi 3), some (zi x), some (zi y), some (zi 0), some (zi 2)] [] _ _ _ _
  exact kk
theorem bg_k {X : Nat × (Nat → Int32)} {d : Nat} {J M : zA} {R : zR} {n m v : Int} (hR : zRok R) (h : J 34 3 = n) (hn : 0 ≤ n ∧ n < 24) (hm : n + 1 = m) : zW X d 10 0 (gEn 10 [(.ref 34), (zi v)]) [] J M R (zPx none (zU (zU J 36 n v) 34 3 m) M R) := by
  show zW _ _ _ _ [some (.ref 34), some (zi v)] _ _ _ _ _
  refine z_aload0 rfl ?_
  refine z_getI (v := n) rfl gk_34 (h) ?_
  refine z_pushJ gp_10_4 ?_
  refine z_icmp_geF rfl (by omega) zr_24 (by omega) ?_
  refine z_aload0 rfl ?_
  refine z_getR (r := 36) rfl gk_34 (hR _ rm_34_2) ?_
  refine z_aload0 rfl ?_
  refine z_getI (v := n) rfl gk_34 (h) ?_
  refine z_iload1 rfl ?_
  refine z_iast (e := v) rfl gk_36 (by decide) (by omega) rfl ?_
  refine z_aload0 rfl ?_
  refine z_dup rfl rfl ?_
  refine z_getI (v := n) rfl gk_34 ((zU_n (by decide)).trans (h)) ?_
  refine z_pushJ gp_10_24 ?_
  refine z_iadd (e := n + 1) rfl rfl ?_
  refine z_putI (y := 3) rfl rfl gk_34 ?_
  refine z_vret rfl gr_10 ?_
  exact ⟨rfl, by subst hm; rfl, rfl, rfl⟩
theorem rn_k {X : Nat × (Nat → Int32)} {d : Nat} {J M : zA} {R : zR} {n m v : Int} (hR : zRoR R) (h : J 50 56 = n) (hn : 0 ≤ n ∧ n < 24) (hm : n + 1 = m) : zW X d 231 0 (gEn 231 [(.ref 50), (zi v)]) [] J M R (zPx none (zU (zU J 82 n v) 50 56 m) M R) := by
  show zW _ _ _ _ [some (.ref 50), some (zi v)] _ _ _ _ _
  refine z_aload0 rfl ?_
  refine z_getI (v := n) rfl gk_50 (h) ?_
  refine z_pushJ gp_231_4 ?_
  refine z_icmp_geF rfl (by omega) zr_24 (by omega) ?_
  refine z_aload0 rfl ?_
  refine z_getR (r := 82) rfl gk_50 (hR _ rm_50_57 (by decide)) ?_
  refine z_aload0 rfl ?_
  refine z_getI (v := n) rfl gk_50 (h) ?_
  refine z_iload1 rfl ?_
  refine z_iast (e := v) rfl gk_82 (by decide) (by omega) rfl ?_
  refine z_aload0 rfl ?_
  refine z_dup rfl rfl ?_
  refine z_getI (v := n) rfl gk_50 ((zU_n (by decide)).trans (h)) ?_
  refine z_pushJ gp_231_24 ?_
  refine z_iadd (e := n + 1) rfl rfl ?_
  refine z_putI (y := 56) rfl rfl gk_50 ?_
  refine z_vret rfl gr_231 ?_
  exact ⟨rfl, by subst hm; rfl, rfl, rfl⟩
theorem iu_0_1 {X : Nat × (Nat → Int32)} {d : Nat} {J M : zA} {R : zR} : zW X d 234 0 (gEn 234 [(zi 0), (zi 1)]) [] J M R (zPu 0 J M R) := by
  show zW _ _ _ _ [some (zi 0), some (zi 1)] _ _ _ _ _
  refine z_iload1 gi_234_0 ?_
  refine z_if_eqF gi_234_1 zr_1 (by decide) ?_
  refine z_iload0 gi_234_4 ?_
  refine z_iload1 gi_234_5 ?_
  refine z_icmp_eqF gi_234_6 zr_0 zr_1 (by decide) ?_
  refine z_iload1 gi_234_9 ?_
  refine z_pushJ gp_234_10 ?_
  refine z_icmp_neF gi_234_11 zr_1 zr_1 (by decide) ?_
  refine z_iload0 gi_234_14 ?_
  refine z_pushJ gp_234_15 ?_
  refine z_icmp_eqF gi_234_16 zr_0 zr_4 (by decide) ?_
  refine z_iload1 gi_234_19 ?_
  refine z_pushJ gp_234_20 ?_
  refine z_icmp_neT gi_234_21 zr_1 zr_2 (by decide) ?_
  refine z_iload1 gi_234_34 ?_
  refine z_pushJ gp_234_35 ?_
  refine z_icmp_neT gi_234_36 zr_1 zr_3 (by decide) ?_
  refine z_iload1 gi_234_44 ?_
  refine z_pushJ gp_234_45 ?_
  refine z_icmp_neT gi_234_47 zr_1 zr_6 (by decide) ?_
  refine z_pushJ gp_234_60 ?_
  refine z_bret0 gi_234_61 gr_234 ?_
  exact ⟨rfl, rfl, rfl, rfl⟩
theorem st_act_00 {X : Nat × (Nat → Int32)} {d : Nat} {J M : zA} {R : zR} {b x : Int} (hr : Rel X J M R) (hb : -2147483648 ≤ b ∧ b < 2147483648) (hx : -2147483648 ≤ x ∧ x < 2147483648) (hb1 : 0 ≤ b ∧ b < J 34 1) (hk : J 35 b = 0) : zW X (d + 20) 134 0 (gEn 134 [(.ref 0), (zi b), (zi 0), (zi x)]) [] J M R (stP X (d + 20) 246 [(zi b), (zi 0), (zi x)]) := by
  have hr0 := hr
  obtain ⟨hR, hG, hY, hD, hP, hC, hAc, hS, hTp, hX, hW⟩ := hr0
  have hRr : zRoR R := zRoR_of hR
  have hA0 := hAc
  obtain ⟨a1, a2, a3, a4, a5, a6⟩ := hA0
  show zW _ _ _ _ [some (.ref 0), some (zi b), some (zi 0), some (zi x)] _ _ _ _ _
  refine z_aload0 gi_134_0 ?_
  refine z_getR (r := 34) gi_134_1 gk_0 (hR _ rm_0_10) ?_
  refine z_iload1 gi_134_4 ?_
  refine z_iload2 gi_134_5 ?_
  refine z_iload3 gi_134_6 ?_
  refine z_cV3 gi_134_7 gk_34 go_7 (Nat.le_of_ble_eq_true rfl) gc_7_RIII ?_
  refine z_aload0 gi_7_0 ?_
  refine z_pushJ gp_7_1 ?_
  refine z_putI (y := 3) gi_7_2 rfl gk_34 ?_
  refine z_aload0 gi_7_5 ?_
  refine z_iload1 gi_7_6 ?_
  refine z_cV1 gi_7_7 gk_34 go_3 (Nat.le_of_ble_eq_true rfl) gc_3_RI ?_
  refine z_iload1 gi_3_0 ?_
  refine z_if_ltF gi_3_1 (by omega) (by omega) ?_
  refine z_iload1 gi_3_4 ?_
  refine z_aload0 gi_3_5 ?_
  refine z_getI (v := J 34 1) gi_3_6 gk_34 ((zU_x (by decide)).trans (rfl)) ?_
  refine z_icmp_geF gi_3_9 (by omega) (by omega) (by omega) ?_
  refine z_pushJ gp_3_12 ?_
  refine z_goto gi_3_13 ?_
  refine z_bret1 gi_3_17 gr_3 ?_
  show zW _ _ _ _ _ _ _ _ _ _
  refine z_if_eqF gi_7_10 zr_1 (by decide) ?_
  refine z_iload2 gi_7_13 ?_
  refine z_if_ltF gi_7_14 zr_0 (by decide) ?_
  refine z_iload2 gi_7_17 ?_
  refine z_pushJ gp_7_18 ?_
  refine z_icmp_ltT gi_7_19 zr_0 zr_4 (by decide) ?_
  refine z_aload0 gi_7_24 ?_
  refine z_iload1 gi_7_25 ?_
  refine z_putI (y := 4) gi_7_26 rfl gk_34 ?_
  refine z_aload0 gi_7_29 ?_
  refine z_aload0 gi_7_30 ?_
  refine z_getR (r := 35) gi_7_31 gk_34 (hR _ rm_34_0) ?_
  refine z_iload1 gi_7_34 ?_
  refine z_iald (v := 0) gi_7_35 gk_35 (by decide) (by omega) ((zU_n (by decide)).trans ((zU_n (by decide)).trans (hk))) ?_
  refine z_putI (y := 5) gi_7_36 rfl gk_34 ?_
  refine z_aload0 gi_7_39 ?_
  refine z_iload2 gi_7_40 ?_
  refine z_iload3 gi_7_41 ?_
  refine z_pushJ gp_7_42 ?_
  refine z_cV3 gi_7_43 gk_34 go_8 (Nat.le_of_ble_eq_true rfl) gc_8_RIII ?_
  refine z_aload0 gi_8_0 ?_
  refine z_aload0 gi_8_1 ?_
  refine z_getI (v := 0) gi_8_2 gk_34 (zU_e) ?_
  refine z_iload1 gi_8_5 ?_
  refine z_iload2 gi_8_6 ?_
  refine z_iload3 gi_8_7 ?_
  refine z_callVi (As := [_, _, _, _]) (le := [some _, some _, some _, some _, some _, none, none]) gi_8_8 rfl gk_34 (Nat.le_of_ble_eq_true rfl) (Nat.le_of_ble_eq_true rfl) rfl ?_
  refine ah_0_0 (by decide) ?_
  refine z_aload0 gi_9_77 ?_
  refine z_iload6 gi_9_78 ?_
  refine z_callVx (As := [_]) gi_9_80 rfl rfl (Nat.le_of_ble_eq_true rfl) (Nat.le_of_ble_eq_true rfl) (bg_k (n := 0) (m := 1) hR ((zU_x (by decide)).trans ((zU_x (by decide)).trans (zU_e))) (by decide) (by decide)) ?_
  show zW _ _ _ _ _ _ _ _ _ _
  refine z_iload5 gi_9_83 ?_
  refine z_if_neF gi_9_85 zr_0 (by decide) ?_
  refine z_aload0 gi_9_88 ?_
  refine z_iload6 gi_9_89 ?_
  refine z_iload3 gi_9_91 ?_
  refine z_iload4 gi_9_92 ?_
  refine z_pushJ gp_9_94 ?_
  refine z_iadd (e := 1) gi_9_95 rfl ?_
  refine z_callVi (As := [_, _, _]) (le := [some _, some _, some _, some _, none]) gi_9_96 rfl gk_34 (Nat.le_of_ble_eq_true rfl) (Nat.le_of_ble_eq_true rfl) rfl ?_
  refine z_iload1 gi_11_0 ?_
  refine z_swI (tg := 44) gi_11_1 (by decide) (T := [((1 : Int), 44), ((2 : Int), 51), ((10 : Int), 71), ((11 : Int), 81)]) rfl (by decide) ?_
  refine z_iload2 gi_11_44 ?_
  refine z_aload0 gi_11_45 ?_
  refine z_getI (v := b) gi_11_46 gk_34 ((zU_x (by decide)).trans ((zU_n (by decide)).trans ((zU_x (by decide)).trans (zU_e)))) ?_
  refine z_iadd (e := x + b) gi_11_49 rfl ?_
  refine z_iret gi_11_50 gr_11 ?_
  show zW _ _ _ _ _ _ _ _ _ _
  refine z_iret gi_9_99 gr_9 ?_
  show zW _ _ _ _ _ _ _ _ _ _
  refine z_iret gi_8_11 gr_8 ?_
  show zW _ _ _ _ _ _ _ _ _ _
  refine z_iret gi_7_46 gr_7 ?_
  show zW _ _ _ _ _ _ _ _ _ _
  refine z_iret gi_134_10 gr_134 ?_
  refine ⟨_, rfl, ?_⟩
  show zW _ _ _ _ [some (.ref 50), some (zi b), some (zi 0), some (zi x)] _ _ _ _ _
  refine z_aload0 gi_246_0 ?_
  refine z_pushJ gp_246_1 ?_
  refine z_putI (y := 56) gi_246_2 rfl gk_50 ?_
  refine z_aload0 gi_246_5 ?_
  refine z_iload1 gi_246_6 ?_
  refine z_cV1 gi_246_7 gk_50 go_230 (Nat.le_of_ble_eq_true rfl) gc_230_RI ?_
  refine z_iload1 gi_230_0 ?_
  refine z_pushJ gp_230_1 ?_
  refine z_aload0 gi_230_2 ?_
  refine z_getI (v := J 34 1) gi_230_3 gk_50 ((zU_x (by decide)).trans ((zU_n (by decide)).trans ((zU_n (by decide)).trans ((zU_n (by decide)).trans ((zU_n (by decide)).trans ((zU_n (by decide)).trans (a1.symm))))))) ?_
  refine z_pushJ gp_230_6 ?_
  refine z_isub (e := (J 34 1) - 1) gi_230_7 rfl ?_
  refine z_cS3 gi_230_8 (Nat.le_of_ble_eq_true rfl) gc_148_III ?_
  refine z_iload0 gi_148_0 ?_
  refine z_iload1 gi_148_1 ?_
  refine z_icmp_ltF gi_148_2 (by omega) zr_0 (by omega) ?_
  refine z_iload0 gi_148_5 ?_
  refine z_iload2 gi_148_6 ?_
  refine z_icmp_gtF gi_148_7 (by omega) (by omega) (by omega) ?_
  refine z_pushJ gp_148_10 ?_
  refine z_goto gi_148_11 ?_
  refine z_bret1 gi_148_15 gr_148 ?_
  show zW _ _ _ _ _ _ _ _ _ _
  refine z_bret1 gi_230_11 gr_230 ?_
  show zW _ _ _ _ _ _ _ _ _ _
  refine z_if_eqF gi_246_10 zr_1 (by decide) ?_
  refine z_iload2 gi_246_13 ?_
  refine z_pushJ gp_246_14 ?_
  refine z_pushJ gp_246_15 ?_
  refine z_cS3 gi_246_16 (Nat.le_of_ble_eq_true rfl) gc_148_III ?_
  refine z_iload0 gi_148_0 ?_
  refine z_iload1 gi_148_1 ?_
  refine z_icmp_ltF gi_148_2 zr_0 zr_0 (by decide) ?_
  refine z_iload0 gi_148_5 ?_
  refine z_iload2 gi_148_6 ?_
  refine z_icmp_gtF gi_148_7 zr_0 zr_3 (by decide) ?_
  refine z_pushJ gp_148_10 ?_
  refine z_goto gi_148_11 ?_
  refine z_bret1 gi_148_15 gr_148 ?_
  show zW _ _ _ _ _ _ _ _ _ _
  refine z_if_neT gi_246_19 zr_1 (by decide) ?_
  refine z_iload2 gi_246_24 ?_
  refine z_if_neF gi_246_25 zr_0 (by decide) ?_
  refine z_aload0 gi_246_28 ?_
  refine z_iload1 gi_246_29 ?_
  refine z_iload3 gi_246_30 ?_
  refine z_cV2 gi_246_31 gk_50 go_237 (Nat.le_of_ble_eq_true rfl) gc_237_RII ?_
  refine z_aload0 gi_237_0 ?_
  refine z_getR (r := 81) gi_237_1 gk_50 (hRr _ rm_50_55 (by decide)) ?_
  refine z_iload1 gi_237_4 ?_
  refine z_iald (v := 0) gi_237_5 gk_81 (by decide) (by omega) ((zU_n (by decide)).trans ((zU_n (by decide)).trans ((zU_n (by decide)).trans ((zU_n (by decide)).trans ((zU_n (by decide)).trans ((zU_n (by decide)).trans ((a5 _ hb1.1 hb1.2).1.symm.trans hk))))))) ?_
  refine z_pushJ gp_237_6 ?_
  refine z_callSP (As := [_, _]) (v := 0) gi_237_7 rfl (Nat.le_of_ble_eq_true rfl) (Nat.le_of_ble_eq_true rfl) iu_0_1 ?_
  refine z_if_eqT gi_237_10 zr_0 (by decide) ?_
  refine z_aload0 gi_237_28 ?_
  refine z_getR (r := 81) gi_237_29 gk_50 (hRr _ rm_50_55 (by decide)) ?_
  refine z_iload1 gi_237_32 ?_
  refine z_iald (v := 0) gi_237_33 gk_81 (by decide) (by omega) ((zU_n (by decide)).trans ((zU_n (by decide)).trans ((zU_n (by decide)).trans ((zU_n (by decide)).trans ((zU_n (by decide)).trans ((zU_n (by decide)).trans ((a5 _ hb1.1 hb1.2).1.symm.trans hk))))))) ?_
  refine z_pushJ gp_237_34 ?_
  refine z_icmp_neT gi_237_36 zr_0 zr_7 (by decide) ?_
  refine z_aload0 gi_237_54 ?_
  refine z_getR (r := 81) gi_237_55 gk_50 (hRr _ rm_50_55 (by decide)) ?_
  refine z_iload1 gi_237_58 ?_
  refine z_iald (v := 0) gi_237_59 gk_81 (by decide) (by omega) ((zU_n (by decide)).trans ((zU_n (by decide)).trans ((zU_n (by decide)).trans ((zU_n (by decide)).trans ((zU_n (by decide)).trans ((zU_n (by decide)).trans ((a5 _ hb1.1 hb1.2).1.symm.trans hk))))))) ?_
  refine z_pushJ gp_237_60 ?_
  refine z_icmp_neT gi_237_62 zr_0 zr_6 (by decide) ?_
  refine z_aload0 gi_237_74 ?_
  refine z_iload1 gi_237_75 ?_
  refine z_iload2 gi_237_76 ?_
  refine z_cV2 gi_237_77 gk_50 go_235 (Nat.le_of_ble_eq_true rfl) gc_235_RII ?_
  refine z_aload0 gi_235_0 ?_
  refine z_pushJ gp_235_1 ?_
  refine z_callVx (As := [_]) gi_235_2 rfl rfl (Nat.le_of_ble_eq_true rfl) (Nat.le_of_ble_eq_true rfl) (rn_k (n := 0) (m := 1) hRr (zU_e) (by decide) (by decide)) ?_
  show zW _ _ _ _ _ _ _ _ _ _
  refine z_iload2 gi_235_5 ?_
  refine z_iload1 gi_235_6 ?_
  refine z_iadd (e := x + b) gi_235_7 rfl ?_
  refine z_iret gi_235_8 gr_235 ?_
  show zW _ _ _ _ _ _ _ _ _ _
  refine z_iret gi_237_80 gr_237 ?_
  show zW _ _ _ _ _ _ _ _ _ _
  refine z_goto gi_246_34 ?_
  refine z_iret gi_246_71 gr_246 ?_
  refine ⟨?_, ?_⟩
  · rfl
  · have hk := (zK_x (a := 50) (x := 56) (v := 1) (zK_x (a := 82) (x := 0) (v := 1) (zK_x (a := 50) (x := 56) (v := 0) (zK_x (a := 34) (x := 3) (v := 1) (zK_x (a := 36) (x := 0) (v := 1) (zK_x (a := 34) (x := 5) (v := 0) (zK_x (a := 34) (x := 4) (v := b) (zK_x (a := 34) (x := 3) (v := 0) (zK_r (k := (kL [] [(34, 3), (34, 4), (34, 5), (36, 0), (50, 56), (82, 0)])) (A := J)) rfl) rfl) rfl) rfl) rfl) rfl) rfl) rfl)
    exact ⟨hR, hG, RelY_k hk (by repeat' constructor) (fun p => by repeat' constructor) hY, RelD_k hk (by repeat' constructor) (fun p => by repeat' constructor) hD, RelP_k hk (by repeat' constructor) (fun p => by repeat' constructor) hP, RelC_k hk (by repeat' constructor) (fun p => by repeat' constructor) hC, ⟨(show J 34 1 = J 50 54 from a1), (show 0 ≤ J 34 1 ∧ J 34 1 ≤ 50 from a2), rfl, (show (0 : Int) ≤ 1 ∧ (1 : Int) ≤ 1000 from by decide), (fun i i1 i2 => a5 i i1 i2), (fun i i1 i2 _ => by have i3 : i < 1 := i2; have q : i = 0 := (by omega); subst q; rfl)⟩, RelS_k hk (zK_r (k := kM)) (fun x j a b => ⟨kL_38 (by decide) (by decide) x j a b, kM_38 x j a b⟩) (fun p => ⟨rfl, rfl, rfl⟩) rfl hS, RelT_k hk (by repeat' constructor) (fun p => by repeat' constructor) hTp, RelX_k hk (by repeat' constructor) (fun p => by repeat' constructor) hX, RelW_k hk ⟨rfl, rfl⟩ trivial hW⟩
theorem iu_0_3 {X : Nat × (Nat → Int32)} {d : Nat} {J M : zA} {R : zR} : zW X d 234 0 (gEn 234 [(zi 0), (zi 3)]) [] J M R (zPu 0 J M R) := by
  show zW _ _ _ _ [some (zi 0), some (zi 3)] _ _ _ _ _
  refine z_iload1 gi_234_0 ?_
  refine z_if_eqF gi_234_1 zr_3 (by decide) ?_
  refine z_iload0 gi_234_4 ?_
  refine z_iload1 gi_234_5 ?_
  refine z_icmp_eqF gi_234_6 zr_0 zr_3 (by decide) ?_
  refine z_iload1 gi_234_9 ?_
  refine z_pushJ gp_234_10 ?_
  refine z_icmp_neT gi_234_11 zr_3 zr_1 (by decide) ?_
  refine z_iload1 gi_234_19 ?_
  refine z_pushJ gp_234_20 ?_
  refine z_icmp_neT gi_234_21 zr_3 zr_2 (by decide) ?_
  refine z_iload1 gi_234_34 ?_
  refine z_pushJ gp_234_35 ?_
  refine z_icmp_neF gi_234_36 zr_3 zr_3 (by decide) ?_
  refine z_iload0 gi_234_39 ?_
  refine z_pushJ gp_234_40 ?_
  refine z_icmp_eqF gi_234_41 zr_0 zr_5 (by decide) ?_
  refine z_iload1 gi_234_44 ?_
  refine z_pushJ gp_234_45 ?_
  refine z_icmp_neT gi_234_47 zr_3 zr_6 (by decide) ?_
  refine z_pushJ gp_234_60 ?_
  refine z_bret0 gi_234_61 gr_234 ?_
  exact ⟨rfl, rfl, rfl, rfl⟩
theorem st_act_01 {X : Nat × (Nat → Int32)} {d : Nat} {J M : zA} {R : zR} {b x : Int} (hr : Rel X J M R) (hb : -2147483648 ≤ b ∧ b < 2147483648) (hx : -2147483648 ≤ x ∧ x < 2147483648) (hb1 : 0 ≤ b ∧ b < J 34 1) (hk : J 35 b = 0) : zW X (d + 20) 134 0 (gEn 134 [(.ref 0), (zi b), (zi 1), (zi x)]) [] J M R (stP X (d + 20) 246 [(zi b), (zi 1), (zi x)]) := by
  have hr0 := hr
  obtain ⟨hR, hG, hY, hD, hP, hC, hAc, hS, hTp, hX, hW⟩ := hr0
  have hRr : zRoR R := zRoR_of hR
  have hA0 := hAc
  obtain ⟨a1, a2, a3, a4, a5, a6⟩ := hA0
  show zW _ _ _ _ [some (.ref 0), some (zi b), some (zi 1), some (zi x)] _ _ _ _ _
  refine z_aload0 gi_134_0 ?_
  refine z_getR (r := 34) gi_134_1 gk_0 (hR _ rm_0_10) ?_
  refine z_iload1 gi_134_4 ?_
  refine z_iload2 gi_134_5 ?_
  refine z_iload3 gi_134_6 ?_
  refine z_cV3 gi_134_7 gk_34 go_7 (Nat.le_of_ble_eq_true rfl) gc_7_RIII ?_
  refine z_aload0 gi_7_0 ?_
  refine z_pushJ gp_7_1 ?_
  refine z_putI (y := 3) gi_7_2 rfl gk_34 ?_
  refine z_aload0 gi_7_5 ?_
  refine z_iload1 gi_7_6 ?_
  refine z_cV1 gi_7_7 gk_34 go_3 (Nat.le_of_ble_eq_true rfl) gc_3_RI ?_
  refine z_iload1 gi_3_0 ?_
  refine z_if_ltF gi_3_1 (by omega) (by omega) ?_
  refine z_iload1 gi_3_4 ?_
  refine z_aload0 gi_3_5 ?_
  refine z_getI (v := J 34 1) gi_3_6 gk_34 ((zU_x (by decide)).trans (rfl)) ?_
  refine z_icmp_geF gi_3_9 (by omega) (by omega) (by omega) ?_
  refine z_pushJ gp_3_12 ?_
  refine z_goto gi_3_13 ?_
  refine z_bret1 gi_3_17 gr_3 ?_
  show zW _ _ _ _ _ _ _ _ _ _
  refine z_if_eqF gi_7_10 zr_1 (by decide) ?_
  refine z_iload2 gi_7_13 ?_
  refine z_if_ltF gi_7_14 zr_1 (by decide) ?_
  refine z_iload2 gi_7_17 ?_
  refine z_pushJ gp_7_18 ?_
  refine z_icmp_ltT gi_7_19 zr_1 zr_4 (by decide) ?_
  refine z_aload0 gi_7_24 ?_
  refine z_iload1 gi_7_25 ?_
  refine z_putI (y := 4) gi_7_26 rfl gk_34 ?_
  refine z_aload0 gi_7_29 ?_
  refine z_aload0 gi_7_30 ?_
  refine z_getR (r := 35) gi_7_31 gk_34 (hR _ rm_34_0) ?_
  refine z_iload1 gi_7_34 ?_
  refine z_iald (v := 0) gi_7_35 gk_35 (by decide) (by omega) ((zU_n (by decide)).trans ((zU_n (by decide)).trans (hk))) ?_
  refine z_putI (y := 5) gi_7_36 rfl gk_34 ?_
  refine z_aload0 gi_7_39 ?_
  refine z_iload2 gi_7_40 ?_
  refine z_iload3 gi_7_41 ?_
  refine z_pushJ gp_7_42 ?_
  refine z_cV3 gi_7_43 gk_34 go_8 (Nat.le_of_ble_eq_true rfl) gc_8_RIII ?_
  refine z_aload0 gi_8_0 ?_
  refine z_aload0 gi_8_1 ?_
  refine z_getI (v := 0) gi_8_2 gk_34 (zU_e) ?_
  refine z_iload1 gi_8_5 ?_
  refine z_iload2 gi_8_6 ?_
  refine z_iload3 gi_8_7 ?_
  refine z_callVi (As := [_, _, _, _]) (le := [some _, some _, some _, some _, some _, none, none]) gi_8_8 rfl gk_34 (Nat.le_of_ble_eq_true rfl) (Nat.le_of_ble_eq_true rfl) rfl ?_
  refine ah_0_1 (by decide) ?_
  refine z_aload0 gi_9_77 ?_
  refine z_iload6 gi_9_78 ?_
  refine z_callVx (As := [_]) gi_9_80 rfl rfl (Nat.le_of_ble_eq_true rfl) (Nat.le_of_ble_eq_true rfl) (bg_k (n := 0) (m := 1) hR ((zU_x (by decide)).trans ((zU_x (by decide)).trans (zU_e))) (by decide) (by decide)) ?_
  show zW _ _ _ _ _ _ _ _ _ _
  refine z_iload5 gi_9_83 ?_
  refine z_if_neF gi_9_85 zr_0 (by decide) ?_
  refine z_aload0 gi_9_88 ?_
  refine z_iload6 gi_9_89 ?_
  refine z_iload3 gi_9_91 ?_
  refine z_iload4 gi_9_92 ?_
  refine z_pushJ gp_9_94 ?_
  refine z_iadd (e := 1) gi_9_95 rfl ?_
  refine z_callVi (As := [_, _, _]) (le := [some _, some _, some _, some _, none]) gi_9_96 rfl gk_34 (Nat.le_of_ble_eq_true rfl) (Nat.le_of_ble_eq_true rfl) rfl ?_
  refine z_iload1 gi_11_0 ?_
  refine z_swI (tg := 71) gi_11_1 (by decide) (T := [((1 : Int), 44), ((2 : Int), 51), ((10 : Int), 71), ((11 : Int), 81)]) rfl (by decide) ?_
  refine z_aload0 gi_11_71 ?_
  refine z_pushJ gp_11_72 ?_
  refine z_iload2 gi_11_73 ?_
  refine z_iload3 gi_11_74 ?_
  refine z_cV3 gi_11_75 gk_34 go_8 (Nat.le_of_ble_eq_true rfl) gc_8_RIII ?_
  refine z_aload0 gi_8_0 ?_
  refine z_aload0 gi_8_1 ?_
  refine z_getI (v := 0) gi_8_2 gk_34 ((zU_x (by decide)).trans ((zU_n (by decide)).trans (zU_e))) ?_
  refine z_iload1 gi_8_5 ?_
  refine z_iload2 gi_8_6 ?_
  refine z_iload3 gi_8_7 ?_
  refine z_callVi (As := [_, _, _, _]) (le := [some _, some _, some _, some _, some _, none, none]) gi_8_8 rfl gk_34 (Nat.le_of_ble_eq_true rfl) (Nat.le_of_ble_eq_true rfl) rfl ?_
  refine ah_0_0 (by decide) ?_
  refine z_aload0 gi_9_77 ?_
  refine z_iload6 gi_9_78 ?_
  refine z_callVx (As := [_]) gi_9_80 rfl rfl (Nat.le_of_ble_eq_true rfl) (Nat.le_of_ble_eq_true rfl) (bg_k (n := 1) (m := 2) hR (zU_e) (by decide) (by decide)) ?_
  show zW _ _ _ _ _ _ _ _ _ _
  refine z_iload5 gi_9_83 ?_
  refine z_if_neF gi_9_85 zr_0 (by decide) ?_
  refine z_aload0 gi_9_88 ?_
  refine z_iload6 gi_9_89 ?_
  refine z_iload3 gi_9_91 ?_
  refine z_iload4 gi_9_92 ?_
  refine z_pushJ gp_9_94 ?_
  refine z_iadd (e := 2) gi_9_95 rfl ?_
  refine z_callVi (As := [_, _, _]) (le := [some _, some _, some _, some _, none]) gi_9_96 rfl gk_34 (Nat.le_of_ble_eq_true rfl) (Nat.le_of_ble_eq_true rfl) rfl ?_
  refine z_iload1 gi_11_0 ?_
  refine z_swI (tg := 44) gi_11_1 (by decide) (T := [((1 : Int), 44), ((2 : Int), 51), ((10 : Int), 71), ((11 : Int), 81)]) rfl (by decide) ?_
  refine z_iload2 gi_11_44 ?_
  refine z_aload0 gi_11_45 ?_
  refine z_getI (v := b) gi_11_46 gk_34 ((zU_x (by decide)).trans ((zU_n (by decide)).trans ((zU_x (by decide)).trans ((zU_n (by decide)).trans ((zU_x (by decide)).trans (zU_e)))))) ?_
  refine z_iadd (e := x + b) gi_11_49 rfl ?_
  refine z_iret gi_11_50 gr_11 ?_
  show zW _ _ _ _ _ _ _ _ _ _
  refine z_iret gi_9_99 gr_9 ?_
  show zW _ _ _ _ _ _ _ _ _ _
  refine z_iret gi_8_11 gr_8 ?_
  show zW _ _ _ _ _ _ _ _ _ _
  refine z_pushJ gp_11_78 ?_
  refine z_imul (e := (x + b) * 2) gi_11_79 rfl ?_
  refine z_iret gi_11_80 gr_11 ?_
  show zW _ _ _ _ _ _ _ _ _ _
  refine z_iret gi_9_99 gr_9 ?_
  show zW _ _ _ _ _ _ _ _ _ _
  refine z_iret gi_8_11 gr_8 ?_
  show zW _ _ _ _ _ _ _ _ _ _
  refine z_iret gi_7_46 gr_7 ?_
  show zW _ _ _ _ _ _ _ _ _ _
  refine z_iret gi_134_10 gr_134 ?_
  refine ⟨_, rfl, ?_⟩
  show zW _ _ _ _ [some (.ref 50), some (zi b), some (zi 1), some (zi x)] _ _ _ _ _
  refine z_aload0 gi_246_0 ?_
  refine z_pushJ gp_246_1 ?_
  refine z_putI (y := 56) gi_246_2 rfl gk_50 ?_
  refine z_aload0 gi_246_5 ?_
  refine z_iload1 gi_246_6 ?_
  refine z_cV1 gi_246_7 gk_50 go_230 (Nat.le_of_ble_eq_true rfl) gc_230_RI ?_
  refine z_iload1 gi_230_0 ?_
  refine z_pushJ gp_230_1 ?_
  refine z_aload0 gi_230_2 ?_
  refine z_getI (v := J 34 1) gi_230_3 gk_50 ((zU_x (by decide)).trans ((zU_n (by decide)).trans ((zU_n (by decide)).trans ((zU_n (by decide)).trans ((zU_n (by decide)).trans ((zU_n (by decide)).trans ((zU_n (by decide)).trans ((zU_n (by decide)).trans (a1.symm))))))))) ?_
  refine z_pushJ gp_230_6 ?_
  refine z_isub (e := (J 34 1) - 1) gi_230_7 rfl ?_
  refine z_cS3 gi_230_8 (Nat.le_of_ble_eq_true rfl) gc_148_III ?_
  refine z_iload0 gi_148_0 ?_
  refine z_iload1 gi_148_1 ?_
  refine z_icmp_ltF gi_148_2 (by omega) zr_0 (by omega) ?_
  refine z_iload0 gi_148_5 ?_
  refine z_iload2 gi_148_6 ?_
  refine z_icmp_gtF gi_148_7 (by omega) (by omega) (by omega) ?_
  refine z_pushJ gp_148_10 ?_
  refine z_goto gi_148_11 ?_
  refine z_bret1 gi_148_15 gr_148 ?_
  show zW _ _ _ _ _ _ _ _ _ _
  refine z_bret1 gi_230_11 gr_230 ?_
  show zW _ _ _ _ _ _ _ _ _ _
  refine z_if_eqF gi_246_10 zr_1 (by decide) ?_
  refine z_iload2 gi_246_13 ?_
  refine z_pushJ gp_246_14 ?_
  refine z_pushJ gp_246_15 ?_
  refine z_cS3 gi_246_16 (Nat.le_of_ble_eq_true rfl) gc_148_III ?_
  refine z_iload0 gi_148_0 ?_
  refine z_iload1 gi_148_1 ?_
  refine z_icmp_ltF gi_148_2 zr_1 zr_0 (by decide) ?_
  refine z_iload0 gi_148_5 ?_
  refine z_iload2 gi_148_6 ?_
  refine z_icmp_gtF gi_148_7 zr_1 zr_3 (by decide) ?_
  refine z_pushJ gp_148_10 ?_
  refine z_goto gi_148_11 ?_
  refine z_bret1 gi_148_15 gr_148 ?_
  show zW _ _ _ _ _ _ _ _ _ _
  refine z_if_neT gi_246_19 zr_1 (by decide) ?_
  refine z_iload2 gi_246_24 ?_
  refine z_if_neT gi_246_25 zr_1 (by decide) ?_
  refine z_iload2 gi_246_37 ?_
  refine z_pushJ gp_246_38 ?_
  refine z_icmp_neF gi_246_39 zr_1 zr_1 (by decide) ?_
  refine z_aload0 gi_246_42 ?_
  refine z_iload1 gi_246_43 ?_
  refine z_iload3 gi_246_44 ?_
  refine z_callVi (As := [_, _]) (le := [some _, some _, some _, none]) gi_246_45 rfl gk_50 (Nat.le_of_ble_eq_true rfl) (Nat.le_of_ble_eq_true rfl) rfl ?_
  refine z_aload0 gi_240_0 ?_
  refine z_getR (r := 81) gi_240_1 gk_50 (hRr _ rm_50_55 (by decide)) ?_
  refine z_iload1 gi_240_4 ?_
  refine z_iald (v := 0) gi_240_5 gk_81 (by decide) (by omega) ((zU_n (by decide)).trans ((zU_n (by decide)).trans ((zU_n (by decide)).trans ((zU_n (by decide)).trans ((zU_n (by decide)).trans ((zU_n (by decide)).trans ((zU_n (by decide)).trans ((zU_n (by decide)).trans ((a5 _ hb1.1 hb1.2).1.symm.trans hk))))))))) ?_
  refine z_pushJ gp_240_6 ?_
  refine z_callSP (As := [_, _]) (v := 0) gi_240_7 rfl (Nat.le_of_ble_eq_true rfl) (Nat.le_of_ble_eq_true rfl) iu_0_3 ?_
  refine z_if_eqT gi_240_10 zr_0 (by decide) ?_
  refine z_aload0 gi_240_28 ?_
  refine z_getR (r := 81) gi_240_29 gk_50 (hRr _ rm_50_55 (by decide)) ?_
  refine z_iload1 gi_240_32 ?_
  refine z_iald (v := 0) gi_240_33 gk_81 (by decide) (by omega) ((zU_n (by decide)).trans ((zU_n (by decide)).trans ((zU_n (by decide)).trans ((zU_n (by decide)).trans ((zU_n (by decide)).trans ((zU_n (by decide)).trans ((zU_n (by decide)).trans ((zU_n (by decide)).trans ((a5 _ hb1.1 hb1.2).1.symm.trans hk))))))))) ?_
  refine z_pushJ gp_240_34 ?_
  refine z_icmp_neT gi_240_36 zr_0 zr_7 (by decide) ?_
  refine z_aload0 gi_240_61 ?_
  refine z_getR (r := 81) gi_240_62 gk_50 (hRr _ rm_50_55 (by decide)) ?_
  refine z_iload1 gi_240_65 ?_
  refine z_iald (v := 0) gi_240_66 gk_81 (by decide) (by omega) ((zU_n (by decide)).trans ((zU_n (by decide)).trans ((zU_n (by decide)).trans ((zU_n (by decide)).trans ((zU_n (by decide)).trans ((zU_n (by decide)).trans ((zU_n (by decide)).trans ((zU_n (by decide)).trans ((a5 _ hb1.1 hb1.2).1.symm.trans hk))))))))) ?_
  refine z_pushJ gp_240_67 ?_
  refine z_icmp_neT gi_240_68 zr_0 zr_2 (by decide) ?_
  refine z_aload0 gi_240_80 ?_
  refine z_iload1 gi_240_81 ?_
  refine z_iload2 gi_240_82 ?_
  refine z_cV2 gi_240_83 gk_50 go_238 (Nat.le_of_ble_eq_true rfl) gc_238_RII ?_
  refine z_aload0 gi_238_0 ?_
  refine z_pushJ gp_238_1 ?_
  refine z_callVx (As := [_]) gi_238_3 rfl rfl (Nat.le_of_ble_eq_true rfl) (Nat.le_of_ble_eq_true rfl) (rn_k (n := 0) (m := 1) hRr (zU_e) (by decide) (by decide)) ?_
  show zW _ _ _ _ _ _ _ _ _ _
  refine z_aload0 gi_238_6 ?_
  refine z_iload1 gi_238_7 ?_
  refine z_iload2 gi_238_8 ?_
  refine z_cV2 gi_238_9 gk_50 go_237 (Nat.le_of_ble_eq_true rfl) gc_237_RII ?_
  refine z_aload0 gi_237_0 ?_
  refine z_getR (r := 81) gi_237_1 gk_50 (hRr _ rm_50_55 (by decide)) ?_
  refine z_iload1 gi_237_4 ?_
  refine z_iald (v := 0) gi_237_5 gk_81 (by decide) (by omega) ((zU_n (by decide)).trans ((zU_n (by decide)).trans ((zU_n (by decide)).trans ((zU_n (by decide)).trans ((zU_n (by decide)).trans ((zU_n (by decide)).trans ((zU_n (by decide)).trans ((zU_n (by decide)).trans ((zU_n (by decide)).trans ((zU_n (by decide)).trans ((a5 _ hb1.1 hb1.2).1.symm.trans hk))))))))))) ?_
  refine z_pushJ gp_237_6 ?_
  refine z_callSP (As := [_, _]) (v := 0) gi_237_7 rfl (Nat.le_of_ble_eq_true rfl) (Nat.le_of_ble_eq_true rfl) iu_0_1 ?_
  refine z_if_eqT gi_237_10 zr_0 (by decide) ?_
  refine z_aload0 gi_237_28 ?_
  refine z_getR (r := 81) gi_237_29 gk_50 (hRr _ rm_50_55 (by decide)) ?_
  refine z_iload1 gi_237_32 ?_
  refine z_iald (v := 0) gi_237_33 gk_81 (by decide) (by omega) ((zU_n (by decide)).trans ((zU_n (by decide)).trans ((zU_n (by decide)).trans ((zU_n (by decide)).trans ((zU_n (by decide)).trans ((zU_n (by decide)).trans ((zU_n (by decide)).trans ((zU_n (by decide)).trans ((zU_n (by decide)).trans ((zU_n (by decide)).trans ((a5 _ hb1.1 hb1.2).1.symm.trans hk))))))))))) ?_
  refine z_pushJ gp_237_34 ?_
  refine z_icmp_neT gi_237_36 zr_0 zr_7 (by decide) ?_
  refine z_aload0 gi_237_54 ?_
  refine z_getR (r := 81) gi_237_55 gk_50 (hRr _ rm_50_55 (by decide)) ?_
  refine z_iload1 gi_237_58 ?_
  refine z_iald (v := 0) gi_237_59 gk_81 (by decide) (by omega) ((zU_n (by decide)).trans ((zU_n (by decide)).trans ((zU_n (by decide)).trans ((zU_n (by decide)).trans ((zU_n (by decide)).trans ((zU_n (by decide)).trans ((zU_n (by decide)).trans ((zU_n (by decide)).trans ((zU_n (by decide)).trans ((zU_n (by decide)).trans ((a5 _ hb1.1 hb1.2).1.symm.trans hk))))))))))) ?_
  refine z_pushJ gp_237_60 ?_
  refine z_icmp_neT gi_237_62 zr_0 zr_6 (by decide) ?_
  refine z_aload0 gi_237_74 ?_
  refine z_iload1 gi_237_75 ?_
  refine z_iload2 gi_237_76 ?_
  refine z_cV2 gi_237_77 gk_50 go_235 (Nat.le_of_ble_eq_true rfl) gc_235_RII ?_
  refine z_aload0 gi_235_0 ?_
  refine z_pushJ gp_235_1 ?_
  refine z_callVx (As := [_]) gi_235_2 rfl rfl (Nat.le_of_ble_eq_true rfl) (Nat.le_of_ble_eq_true rfl) (rn_k (n := 1) (m := 2) hRr (zU_e) (by decide) (by decide)) ?_
  show zW _ _ _ _ _ _ _ _ _ _
  refine z_iload2 gi_235_5 ?_
  refine z_iload1 gi_235_6 ?_
  refine z_iadd (e := x + b) gi_235_7 rfl ?_
  refine z_iret gi_235_8 gr_235 ?_
  show zW _ _ _ _ _ _ _ _ _ _
  refine z_iret gi_237_80 gr_237 ?_
  show zW _ _ _ _ _ _ _ _ _ _
  refine z_pushJ gp_238_12 ?_
  refine z_imul (e := (x + b) * 2) gi_238_13 rfl ?_
  refine z_iret gi_238_14 gr_238 ?_
  show zW _ _ _ _ _ _ _ _ _ _
  refine z_iret gi_240_86 gr_240 ?_
  show zW _ _ _ _ _ _ _ _ _ _
  refine z_goto gi_246_48 ?_
  refine z_iret gi_246_71 gr_246 ?_
  refine ⟨?_, ?_⟩
  · rfl
  · have hk := (zK_x (a := 50) (x := 56) (v := 2) (zK_x (a := 82) (x := 1) (v := 1) (zK_x (a := 50) (x := 56) (v := 1) (zK_x (a := 82) (x := 0) (v := 10) (zK_x (a := 50) (x := 56) (v := 0) (zK_x (a := 34) (x := 3) (v := 2) (zK_x (a := 36) (x := 1) (v := 1) (zK_x (a := 34) (x := 3) (v := 1) (zK_x (a := 36) (x := 0) (v := 10) (zK_x (a := 34) (x := 5) (v := 0) (zK_x (a := 34) (x := 4) (v := b) (zK_x (a := 34) (x := 3) (v := 0) (zK_r (k := (kL [] [(34, 3), (34, 4), (34, 5), (36, 0), (36, 1), (50, 56), (82, 0), (82, 1)])) (A := J)) rfl) rfl) rfl) rfl) rfl) rfl) rfl) rfl) rfl) rfl) rfl) rfl)
    exact ⟨hR, hG, RelY_k hk (by repeat' constructor) (fun p => by repeat' constructor) hY, RelD_k hk (by repeat' constructor) (fun p => by repeat' constructor) hD, RelP_k hk (by repeat' constructor) (fun p => by repeat' constructor) hP, RelC_k hk (by repeat' constructor) (fun p => by repeat' constructor) hC, ⟨(show J 34 1 = J 50 54 from a1), (show 0 ≤ J 34 1 ∧ J 34 1 ≤ 50 from a2), rfl, (show (0 : Int) ≤ 2 ∧ (2 : Int) ≤ 1000 from by decide), (fun i i1 i2 => a5 i i1 i2), (fun i i1 i2 _ => by have i3 : i < 2 := i2; have q : i = 0 ∨ i = 1 := (by omega); rcases q with rfl | rfl <;> rfl)⟩, RelS_k hk (zK_r (k := kM)) (fun x j a b => ⟨kL_38 (by decide) (by decide) x j a b, kM_38 x j a b⟩) (fun p => ⟨rfl, rfl, rfl⟩) rfl hS, RelT_k hk (by repeat' constructor) (fun p => by repeat' constructor) hTp, RelX_k hk (by repeat' constructor) (fun p => by repeat' constructor) hX, RelW_k hk ⟨rfl, rfl⟩ trivial hW⟩
theorem st_act_02 {X : Nat × (Nat → Int32)} {d : Nat} {J M : zA} {R : zR} {b x : Int} (hr : Rel X J M R) (hb : -2147483648 ≤ b ∧ b < 2147483648) (hx : -2147483648 ≤ x ∧ x < 2147483648) (hb1 : 0 ≤ b ∧ b < J 34 1) (hk : J 35 b = 0) : zW X (d + 20) 134 0 (gEn 134 [(.ref 0), (zi b), (zi 2), (zi x)]) [] J M R (stP X (d + 20) 246 [(zi b), (zi 2), (zi x)]) := by
  have hr0 := hr
  obtain ⟨hR, hG, hY, hD, hP, hC, hAc, hS, hTp, hX, hW⟩ := hr0
  have hRr : zRoR R := zRoR_of hR
  have hA0 := hAc
  obtain ⟨a1, a2, a3, a4, a5, a6⟩ := hA0
  show zW _ _ _ _ [some (.ref 0), some (zi b), some (zi 2), some (zi x)] _ _ _ _ _
  refine z_aload0 gi_134_0 ?_
  refine z_getR (r := 34) gi_134_1 gk_0 (hR _ rm_0_10) ?_
  refine z_iload1 gi_134_4 ?_
  refine z_iload2 gi_134_5 ?_
  refine z_iload3 gi_134_6 ?_
  refine z_cV3 gi_134_7 gk_34 go_7 (Nat.le_of_ble_eq_true rfl) gc_7_RIII ?_
  refine z_aload0 gi_7_0 ?_
  refine z_pushJ gp_7_1 ?_
  refine z_putI (y := 3) gi_7_2 rfl gk_34 ?_
  refine z_aload0 gi_7_5 ?_
  refine z_iload1 gi_7_6 ?_
  refine z_cV1 gi_7_7 gk_34 go_3 (Nat.le_of_ble_eq_true rfl) gc_3_RI ?_
  refine z_iload1 gi_3_0 ?_
  refine z_if_ltF gi_3_1 (by omega) (by omega) ?_
  refine z_iload1 gi_3_4 ?_
  refine z_aload0 gi_3_5 ?_
  refine z_getI (v := J 34 1) gi_3_6 gk_34 ((zU_x (by decide)).trans (rfl)) ?_
  refine z_icmp_geF gi_3_9 (by omega) (by omega) (by omega) ?_
  refine z_pushJ gp_3_12 ?_
  refine z_goto gi_3_13 ?_
  refine z_bret1 gi_3_17 gr_3 ?_
  show zW _ _ _ _ _ _ _ _ _ _
  refine z_if_eqF gi_7_10 zr_1 (by decide) ?_
  refine z_iload2 gi_7_13 ?_
  refine z_if_ltF gi_7_14 zr_2 (by decide) ?_
  refine z_iload2 gi_7_17 ?_
  refine z_pushJ gp_7_18 ?_
  refine z_icmp_ltT gi_7_19 zr_2 zr_4 (by decide) ?_
  refine z_aload0 gi_7_24 ?_
  refine z_iload1 gi_7_25 ?_
  refine z_putI (y := 4) gi_7_26 rfl gk_34 ?_
  refine z_aload0 gi_7_29 ?_
  refine z_aload0 gi_7_30 ?_
  refine z_getR (r := 35) gi_7_31 gk_34 (hR _ rm_34_0) ?_
  refine z_iload1 gi_7_34 ?_
  refine z_iald (v := 0) gi_7_35 gk_35 (by decide) (by omega) ((zU_n (by decide)).trans ((zU_n (by decide)).trans (hk))) ?_
  refine z_putI (y := 5) gi_7_36 rfl gk_34 ?_
  refine z_aload0 gi_7_39 ?_
  refine z_iload2 gi_7_40 ?_
  refine z_iload3 gi_7_41 ?_
  refine z_pushJ gp_7_42 ?_
  refine z_cV3 gi_7_43 gk_34 go_8 (Nat.le_of_ble_eq_true rfl) gc_8_RIII ?_
  refine z_aload0 gi_8_0 ?_
  refine z_aload0 gi_8_1 ?_
  refine z_getI (v := 0) gi_8_2 gk_34 (zU_e) ?_
  refine z_iload1 gi_8_5 ?_
  refine z_iload2 gi_8_6 ?_
  refine z_iload3 gi_8_7 ?_
  refine z_callVi (As := [_, _, _, _]) (le := [some _, some _, some _, some _, some _, none, none]) gi_8_8 rfl gk_34 (Nat.le_of_ble_eq_true rfl) (Nat.le_of_ble_eq_true rfl) rfl ?_
  refine ah_0_2 (by decide) ?_
  refine z_aload0 gi_9_77 ?_
  refine z_iload6 gi_9_78 ?_
  refine z_callVx (As := [_]) gi_9_80 rfl rfl (Nat.le_of_ble_eq_true rfl) (Nat.le_of_ble_eq_true rfl) (bg_k (n := 0) (m := 1) hR ((zU_x (by decide)).trans ((zU_x (by decide)).trans (zU_e))) (by decide) (by decide)) ?_
  show zW _ _ _ _ _ _ _ _ _ _
  refine z_iload5 gi_9_83 ?_
  refine z_if_neF gi_9_85 zr_0 (by decide) ?_
  refine z_aload0 gi_9_88 ?_
  refine z_iload6 gi_9_89 ?_
  refine z_iload3 gi_9_91 ?_
  refine z_iload4 gi_9_92 ?_
  refine z_pushJ gp_9_94 ?_
  refine z_iadd (e := 1) gi_9_95 rfl ?_
  refine z_callVi (As := [_, _, _]) (le := [some _, some _, some _, some _, none]) gi_9_96 rfl gk_34 (Nat.le_of_ble_eq_true rfl) (Nat.le_of_ble_eq_true rfl) rfl ?_
  refine z_iload1 gi_11_0 ?_
  refine z_swI (tg := 81) gi_11_1 (by decide) (T := [((1 : Int), 44), ((2 : Int), 51), ((10 : Int), 71), ((11 : Int), 81)]) rfl (by decide) ?_
  refine z_iload2 gi_11_81 ?_
  refine z_aload0 gi_11_82 ?_
  refine z_getI (v := b) gi_11_83 gk_34 ((zU_x (by decide)).trans ((zU_n (by decide)).trans ((zU_x (by decide)).trans (zU_e)))) ?_
  refine z_ixor (e := zxor x b) gi_11_86 rfl ?_
  refine z_iret gi_11_87 gr_11 ?_
  show zW _ _ _ _ _ _ _ _ _ _
  refine z_iret gi_9_99 gr_9 ?_
  show zW _ _ _ _ _ _ _ _ _ _
  refine z_iret gi_8_11 gr_8 ?_
  show zW _ _ _ _ _ _ _ _ _ _
  refine z_iret gi_7_46 gr_7 ?_
  show zW _ _ _ _ _ _ _ _ _ _
  refine z_iret gi_134_10 gr_134 ?_
  refine ⟨_, rfl, ?_⟩
  show zW _ _ _ _ [some (.ref 50), some (zi b), some (zi 2), some (zi x)] _ _ _ _ _
  refine z_aload0 gi_246_0 ?_
  refine z_pushJ gp_246_1 ?_
  refine z_putI (y := 56) gi_246_2 rfl gk_50 ?_
  refine z_aload0 gi_246_5 ?_
  refine z_iload1 gi_246_6 ?_
  refine z_cV1 gi_246_7 gk_50 go_230 (Nat.le_of_ble_eq_true rfl) gc_230_RI ?_
  refine z_iload1 gi_230_0 ?_
  refine z_pushJ gp_230_1 ?_
  refine z_aload0 gi_230_2 ?_
  refine z_getI (v := J 34 1) gi_230_3 gk_50 ((zU_x (by decide)).trans ((zU_n (by decide)).trans ((zU_n (by decide)).trans ((zU_n (by decide)).trans ((zU_n (by decide)).trans ((zU_n (by decide)).trans (a1.symm))))))) ?_
  refine z_pushJ gp_230_6 ?_
  refine z_isub (e := (J 34 1) - 1) gi_230_7 rfl ?_
  refine z_cS3 gi_230_8 (Nat.le_of_ble_eq_true rfl) gc_148_III ?_
  refine z_iload0 gi_148_0 ?_
  refine z_iload1 gi_148_1 ?_
  refine z_icmp_ltF gi_148_2 (by omega) zr_0 (by omega) ?_
  refine z_iload0 gi_148_5 ?_
  refine z_iload2 gi_148_6 ?_
  refine z_icmp_gtF gi_148_7 (by omega) (by omega) (by omega) ?_
  refine z_pushJ gp_148_10 ?_
  refine z_goto gi_148_11 ?_
  refine z_bret1 gi_148_15 gr_148 ?_
  show zW _ _ _ _ _ _ _ _ _ _
  refine z_bret1 gi_230_11 gr_230 ?_
  show zW _ _ _ _ _ _ _ _ _ _
  refine z_if_eqF gi_246_10 zr_1 (by decide) ?_
  refine z_iload2 gi_246_13 ?_
  refine z_pushJ gp_246_14 ?_
  refine z_pushJ gp_246_15 ?_
  refine z_cS3 gi_246_16 (Nat.le_of_ble_eq_true rfl) gc_148_III ?_
  refine z_iload0 gi_148_0 ?_
  refine z_iload1 gi_148_1 ?_
  refine z_icmp_ltF gi_148_2 zr_2 zr_0 (by decide) ?_
  refine z_iload0 gi_148_5 ?_
  refine z_iload2 gi_148_6 ?_
  refine z_icmp_gtF gi_148_7 zr_2 zr_3 (by decide) ?_
  refine z_pushJ gp_148_10 ?_
  refine z_goto gi_148_11 ?_
  refine z_bret1 gi_148_15 gr_148 ?_
  show zW _ _ _ _ _ _ _ _ _ _
  refine z_if_neT gi_246_19 zr_1 (by decide) ?_
  refine z_iload2 gi_246_24 ?_
  refine z_if_neT gi_246_25 zr_2 (by decide) ?_
  refine z_iload2 gi_246_37 ?_
  refine z_pushJ gp_246_38 ?_
  refine z_icmp_neT gi_246_39 zr_2 zr_1 (by decide) ?_
  refine z_iload2 gi_246_51 ?_
  refine z_pushJ gp_246_52 ?_
  refine z_icmp_neF gi_246_53 zr_2 zr_2 (by decide) ?_
  refine z_aload0 gi_246_56 ?_
  refine z_iload1 gi_246_57 ?_
  refine z_iload3 gi_246_58 ?_
  refine z_callVi (As := [_, _]) (le := [some _, some _, some _, none]) gi_246_59 rfl gk_50 (Nat.le_of_ble_eq_true rfl) (Nat.le_of_ble_eq_true rfl) rfl ?_
  refine z_aload0 gi_243_0 ?_
  refine z_getR (r := 81) gi_243_1 gk_50 (hRr _ rm_50_55 (by decide)) ?_
  refine z_iload1 gi_243_4 ?_
  refine z_iald (v := 0) gi_243_5 gk_81 (by decide) (by omega) ((zU_n (by decide)).trans ((zU_n (by decide)).trans ((zU_n (by decide)).trans ((zU_n (by decide)).trans ((zU_n (by decide)).trans ((zU_n (by decide)).trans ((a5 _ hb1.1 hb1.2).1.symm.trans hk))))))) ?_
  refine z_pushJ gp_243_6 ?_
  refine z_icmp_neT gi_243_7 zr_0 zr_5 (by decide) ?_
  refine z_aload0 gi_243_32 ?_
  refine z_getR (r := 81) gi_243_33 gk_50 (hRr _ rm_50_55 (by decide)) ?_
  refine z_iload1 gi_243_36 ?_
  refine z_iald (v := 0) gi_243_37 gk_81 (by decide) (by omega) ((zU_n (by decide)).trans ((zU_n (by decide)).trans ((zU_n (by decide)).trans ((zU_n (by decide)).trans ((zU_n (by decide)).trans ((zU_n (by decide)).trans ((a5 _ hb1.1 hb1.2).1.symm.trans hk))))))) ?_
  refine z_pushJ gp_243_38 ?_
  refine z_icmp_neT gi_243_39 zr_0 zr_3 (by decide) ?_
  refine z_aload0 gi_243_51 ?_
  refine z_iload1 gi_243_52 ?_
  refine z_iload2 gi_243_53 ?_
  refine z_cV2 gi_243_54 gk_50 go_241 (Nat.le_of_ble_eq_true rfl) gc_241_RII ?_
  refine z_aload0 gi_241_0 ?_
  refine z_pushJ gp_241_1 ?_
  refine z_callVx (As := [_]) gi_241_3 rfl rfl (Nat.le_of_ble_eq_true rfl) (Nat.le_of_ble_eq_true rfl) (rn_k (n := 0) (m := 1) hRr (zU_e) (by decide) (by decide)) ?_
  show zW _ _ _ _ _ _ _ _ _ _
  refine z_iload2 gi_241_6 ?_
  refine z_iload1 gi_241_7 ?_
  refine z_ixor (e := zxor x b) gi_241_8 rfl ?_
  refine z_iret gi_241_9 gr_241 ?_
  show zW _ _ _ _ _ _ _ _ _ _
  refine z_iret gi_243_57 gr_243 ?_
  show zW _ _ _ _ _ _ _ _ _ _
  refine z_goto gi_246_62 ?_
  refine z_iret gi_246_71 gr_246 ?_
  refine ⟨?_, ?_⟩
  · rfl
  · have hk := (zK_x (a := 50) (x := 56) (v := 1) (zK_x (a := 82) (x := 0) (v := 11) (zK_x (a := 50) (x := 56) (v := 0) (zK_x (a := 34) (x := 3) (v := 1) (zK_x (a := 36) (x := 0) (v := 11) (zK_x (a := 34) (x := 5) (v := 0) (zK_x (a := 34) (x := 4) (v := b) (zK_x (a := 34) (x := 3) (v := 0) (zK_r (k := (kL [] [(34, 3), (34, 4), (34, 5), (36, 0), (50, 56), (82, 0)])) (A := J)) rfl) rfl) rfl) rfl) rfl) rfl) rfl) rfl)
    exact ⟨hR, hG, RelY_k hk (by repeat' constructor) (fun p => by repeat' constructor) hY, RelD_k hk (by repeat' constructor) (fun p => by repeat' constructor) hD, RelP_k hk (by repeat' constructor) (fun p => by repeat' constructor) hP, RelC_k hk (by repeat' constructor) (fun p => by repeat' constructor) hC, ⟨(show J 34 1 = J 50 54 from a1), (show 0 ≤ J 34 1 ∧ J 34 1 ≤ 50 from a2), rfl, (show (0 : Int) ≤ 1 ∧ (1 : Int) ≤ 1000 from by decide), (fun i i1 i2 => a5 i i1 i2), (fun i i1 i2 _ => by have i3 : i < 1 := i2; have q : i = 0 := (by omega); subst q; rfl)⟩, RelS_k hk (zK_r (k := kM)) (fun x j a b => ⟨kL_38 (by decide) (by decide) x j a b, kM_38 x j a b⟩) (fun p => ⟨rfl, rfl, rfl⟩) rfl hS, RelT_k hk (by repeat' constructor) (fun p => by repeat' constructor) hTp, RelX_k hk (by repeat' constructor) (fun p => by repeat' constructor) hX, RelW_k hk ⟨rfl, rfl⟩ trivial hW⟩
theorem st_act_03 {X : Nat × (Nat → Int32)} {d : Nat} {J M : zA} {R : zR} {b x : Int} (hr : Rel X J M R) (hb : -2147483648 ≤ b ∧ b < 2147483648) (hx : -2147483648 ≤ x ∧ x < 2147483648) (hb1 : 0 ≤ b ∧ b < J 34 1) (hk : J 35 b = 0) : zW X (d + 20) 134 0 (gEn 134 [(.ref 0), (zi b), (zi 3), (zi x)]) [] J M R (stP X (d + 20) 246 [(zi b), (zi 3), (zi x)]) := by
  have hr0 := hr
  obtain ⟨hR, hG, hY, hD, hP, hC, hAc, hS, hTp, hX, hW⟩ := hr0
  have hRr : zRoR R := zRoR_of hR
  have hA0 := hAc
  obtain ⟨a1, a2, a3, a4, a5, a6⟩ := hA0
  show zW _ _ _ _ [some (.ref 0), some (zi b), some (zi 3), some (zi x)] _ _ _ _ _
  refine z_aload0 gi_134_0 ?_
  refine z_getR (r := 34) gi_134_1 gk_0 (hR _ rm_0_10) ?_
  refine z_iload1 gi_134_4 ?_
  refine z_iload2 gi_134_5 ?_
  refine z_iload3 gi_134_6 ?_
  refine z_cV3 gi_134_7 gk_34 go_7 (Nat.le_of_ble_eq_true rfl) gc_7_RIII ?_
  refine z_aload0 gi_7_0 ?_
  refine z_pushJ gp_7_1 ?_
  refine z_putI (y := 3) gi_7_2 rfl gk_34 ?_
  refine z_aload0 gi_7_5 ?_
  refine z_iload1 gi_7_6 ?_
  refine z_cV1 gi_7_7 gk_34 go_3 (Nat.le_of_ble_eq_true rfl) gc_3_RI ?_
  refine z_iload1 gi_3_0 ?_
  refine z_if_ltF gi_3_1 (by omega) (by omega) ?_
  refine z_iload1 gi_3_4 ?_
  refine z_aload0 gi_3_5 ?_
  refine z_getI (v := J 34 1) gi_3_6 gk_34 ((zU_x (by decide)).trans (rfl)) ?_
  refine z_icmp_geF gi_3_9 (by omega) (by omega) (by omega) ?_
  refine z_pushJ gp_3_12 ?_
  refine z_goto gi_3_13 ?_
  refine z_bret1 gi_3_17 gr_3 ?_
  show zW _ _ _ _ _ _ _ _ _ _
  refine z_if_eqF gi_7_10 zr_1 (by decide) ?_
  refine z_iload2 gi_7_13 ?_
  refine z_if_ltF gi_7_14 zr_3 (by decide) ?_
  refine z_iload2 gi_7_17 ?_
  refine z_pushJ gp_7_18 ?_
  refine z_icmp_ltT gi_7_19 zr_3 zr_4 (by decide) ?_
  refine z_aload0 gi_7_24 ?_
  refine z_iload1 gi_7_25 ?_
  refine z_putI (y := 4) gi_7_26 rfl gk_34 ?_
  refine z_aload0 gi_7_29 ?_
  refine z_aload0 gi_7_30 ?_
  refine z_getR (r := 35) gi_7_31 gk_34 (hR _ rm_34_0) ?_
  refine z_iload1 gi_7_34 ?_
  refine z_iald (v := 0) gi_7_35 gk_35 (by decide) (by omega) ((zU_n (by decide)).trans ((zU_n (by decide)).trans (hk))) ?_
  refine z_putI (y := 5) gi_7_36 rfl gk_34 ?_
  refine z_aload0 gi_7_39 ?_
  refine z_iload2 gi_7_40 ?_
  refine z_iload3 gi_7_41 ?_
  refine z_pushJ gp_7_42 ?_
  refine z_cV3 gi_7_43 gk_34 go_8 (Nat.le_of_ble_eq_true rfl) gc_8_RIII ?_
  refine z_aload0 gi_8_0 ?_
  refine z_aload0 gi_8_1 ?_
  refine z_getI (v := 0) gi_8_2 gk_34 (zU_e) ?_
  refine z_iload1 gi_8_5 ?_
  refine z_iload2 gi_8_6 ?_
  refine z_iload3 gi_8_7 ?_
  refine z_callVi (As := [_, _, _, _]) (le := [some _, some _, some _, some _, some _, none, none]) gi_8_8 rfl gk_34 (Nat.le_of_ble_eq_true rfl) (Nat.le_of_ble_eq_true rfl) rfl ?_
  refine ah_0_3 (by decide) ?_
  refine z_aload0 gi_9_77 ?_
  refine z_iload6 gi_9_78 ?_
  refine z_callVx (As := [_]) gi_9_80 rfl rfl (Nat.le_of_ble_eq_true rfl) (Nat.le_of_ble_eq_true rfl) (bg_k (n := 0) (m := 1) hR ((zU_x (by decide)).trans ((zU_x (by decide)).trans (zU_e))) (by decide) (by decide)) ?_
  show zW _ _ _ _ _ _ _ _ _ _
  refine z_iload5 gi_9_83 ?_
  refine z_if_neF gi_9_85 zr_0 (by decide) ?_
  refine z_aload0 gi_9_88 ?_
  refine z_iload6 gi_9_89 ?_
  refine z_iload3 gi_9_91 ?_
  refine z_iload4 gi_9_92 ?_
  refine z_pushJ gp_9_94 ?_
  refine z_iadd (e := 1) gi_9_95 rfl ?_
  refine z_callVi (As := [_, _, _]) (le := [some _, some _, some _, some _, none]) gi_9_96 rfl gk_34 (Nat.le_of_ble_eq_true rfl) (Nat.le_of_ble_eq_true rfl) rfl ?_
  refine z_iload1 gi_11_0 ?_
  refine z_swI (tg := 51) gi_11_1 (by decide) (T := [((1 : Int), 44), ((2 : Int), 51), ((10 : Int), 71), ((11 : Int), 81)]) rfl (by decide) ?_
  refine z_aload0 gi_11_51 ?_
  refine z_pushJ gp_11_52 ?_
  refine z_iload2 gi_11_53 ?_
  refine z_iload3 gi_11_54 ?_
  refine z_cV3 gi_11_55 gk_34 go_8 (Nat.le_of_ble_eq_true rfl) gc_8_RIII ?_
  refine z_aload0 gi_8_0 ?_
  refine z_aload0 gi_8_1 ?_
  refine z_getI (v := 0) gi_8_2 gk_34 ((zU_x (by decide)).trans ((zU_n (by decide)).trans (zU_e))) ?_
  refine z_iload1 gi_8_5 ?_
  refine z_iload2 gi_8_6 ?_
  refine z_iload3 gi_8_7 ?_
  refine z_callVi (As := [_, _, _, _]) (le := [some _, some _, some _, some _, some _, none, none]) gi_8_8 rfl gk_34 (Nat.le_of_ble_eq_true rfl) (Nat.le_of_ble_eq_true rfl) rfl ?_
  refine ah_0_1 (by decide) ?_
  refine z_aload0 gi_9_77 ?_
  refine z_iload6 gi_9_78 ?_
  refine z_callVx (As := [_]) gi_9_80 rfl rfl (Nat.le_of_ble_eq_true rfl) (Nat.le_of_ble_eq_true rfl) (bg_k (n := 1) (m := 2) hR (zU_e) (by decide) (by decide)) ?_
  show zW _ _ _ _ _ _ _ _ _ _
  refine z_iload5 gi_9_83 ?_
  refine z_if_neF gi_9_85 zr_0 (by decide) ?_
  refine z_aload0 gi_9_88 ?_
  refine z_iload6 gi_9_89 ?_
  refine z_iload3 gi_9_91 ?_
  refine z_iload4 gi_9_92 ?_
  refine z_pushJ gp_9_94 ?_
  refine z_iadd (e := 2) gi_9_95 rfl ?_
  refine z_callVi (As := [_, _, _]) (le := [some _, some _, some _, some _, none]) gi_9_96 rfl gk_34 (Nat.le_of_ble_eq_true rfl) (Nat.le_of_ble_eq_true rfl) rfl ?_
  refine z_iload1 gi_11_0 ?_
  refine z_swI (tg := 71) gi_11_1 (by decide) (T := [((1 : Int), 44), ((2 : Int), 51), ((10 : Int), 71), ((11 : Int), 81)]) rfl (by decide) ?_
  refine z_aload0 gi_11_71 ?_
  refine z_pushJ gp_11_72 ?_
  refine z_iload2 gi_11_73 ?_
  refine z_iload3 gi_11_74 ?_
  refine z_cV3 gi_11_75 gk_34 go_8 (Nat.le_of_ble_eq_true rfl) gc_8_RIII ?_
  refine z_aload0 gi_8_0 ?_
  refine z_aload0 gi_8_1 ?_
  refine z_getI (v := 0) gi_8_2 gk_34 ((zU_x (by decide)).trans ((zU_n (by decide)).trans ((zU_x (by decide)).trans ((zU_n (by decide)).trans (zU_e))))) ?_
  refine z_iload1 gi_8_5 ?_
  refine z_iload2 gi_8_6 ?_
  refine z_iload3 gi_8_7 ?_
  refine z_callVi (As := [_, _, _, _]) (le := [some _, some _, some _, some _, some _, none, none]) gi_8_8 rfl gk_34 (Nat.le_of_ble_eq_true rfl) (Nat.le_of_ble_eq_true rfl) rfl ?_
  refine ah_0_0 (by decide) ?_
  refine z_aload0 gi_9_77 ?_
  refine z_iload6 gi_9_78 ?_
  refine z_callVx (As := [_]) gi_9_80 rfl rfl (Nat.le_of_ble_eq_true rfl) (Nat.le_of_ble_eq_true rfl) (bg_k (n := 2) (m := 3) hR (zU_e) (by decide) (by decide)) ?_
  show zW _ _ _ _ _ _ _ _ _ _
  refine z_iload5 gi_9_83 ?_
  refine z_if_neF gi_9_85 zr_0 (by decide) ?_
  refine z_aload0 gi_9_88 ?_
  refine z_iload6 gi_9_89 ?_
  refine z_iload3 gi_9_91 ?_
  refine z_iload4 gi_9_92 ?_
  refine z_pushJ gp_9_94 ?_
  refine z_iadd (e := 3) gi_9_95 rfl ?_
  refine z_callVi (As := [_, _, _]) (le := [some _, some _, some _, some _, none]) gi_9_96 rfl gk_34 (Nat.le_of_ble_eq_true rfl) (Nat.le_of_ble_eq_true rfl) rfl ?_
  refine z_iload1 gi_11_0 ?_
  refine z_swI (tg := 44) gi_11_1 (by decide) (T := [((1 : Int), 44), ((2 : Int), 51), ((10 : Int), 71), ((11 : Int), 81)]) rfl (by decide) ?_
  refine z_iload2 gi_11_44 ?_
  refine z_aload0 gi_11_45 ?_
  refine z_getI (v := b) gi_11_46 gk_34 ((zU_x (by decide)).trans ((zU_n (by decide)).trans ((zU_x (by decide)).trans ((zU_n (by decide)).trans ((zU_x (by decide)).trans ((zU_n (by decide)).trans ((zU_x (by decide)).trans (zU_e)))))))) ?_
  refine z_iadd (e := x + b) gi_11_49 rfl ?_
  refine z_iret gi_11_50 gr_11 ?_
  show zW _ _ _ _ _ _ _ _ _ _
  refine z_iret gi_9_99 gr_9 ?_
  show zW _ _ _ _ _ _ _ _ _ _
  refine z_iret gi_8_11 gr_8 ?_
  show zW _ _ _ _ _ _ _ _ _ _
  refine z_pushJ gp_11_78 ?_
  refine z_imul (e := (x + b) * 2) gi_11_79 rfl ?_
  refine z_iret gi_11_80 gr_11 ?_
  show zW _ _ _ _ _ _ _ _ _ _
  refine z_iret gi_9_99 gr_9 ?_
  show zW _ _ _ _ _ _ _ _ _ _
  refine z_iret gi_8_11 gr_8 ?_
  show zW _ _ _ _ _ _ _ _ _ _
  refine z_istore (ls1 := [some (.ref 34), some (zi 2), some (zi x), some (zi 1), some (zi ((x + b) * 2))]) gi_11_58 rfl ?_
  refine z_iload4 gi_11_60 ?_
  refine z_aload0 gi_11_62 ?_
  refine z_pushJ gp_11_63 ?_
  refine z_pushJ gp_11_64 ?_
  refine z_iload3 gi_11_65 ?_
  refine z_cV3 gi_11_66 gk_34 go_8 (Nat.le_of_ble_eq_true rfl) gc_8_RIII ?_
  refine z_aload0 gi_8_0 ?_
  refine z_aload0 gi_8_1 ?_
  refine z_getI (v := 0) gi_8_2 gk_34 ((zU_x (by decide)).trans ((zU_n (by decide)).trans ((zU_x (by decide)).trans ((zU_n (by decide)).trans ((zU_x (by decide)).trans ((zU_n (by decide)).trans (zU_e))))))) ?_
  refine z_iload1 gi_8_5 ?_
  refine z_iload2 gi_8_6 ?_
  refine z_iload3 gi_8_7 ?_
  refine z_callVi (As := [_, _, _, _]) (le := [some _, some _, some _, some _, some _, none, none]) gi_8_8 rfl gk_34 (Nat.le_of_ble_eq_true rfl) (Nat.le_of_ble_eq_true rfl) rfl ?_
  refine ah_0_2 (by decide) ?_
  refine z_aload0 gi_9_77 ?_
  refine z_iload6 gi_9_78 ?_
  refine z_callVx (As := [_]) gi_9_80 rfl rfl (Nat.le_of_ble_eq_true rfl) (Nat.le_of_ble_eq_true rfl) (bg_k (n := 3) (m := 4) hR (zU_e) (by decide) (by decide)) ?_
  show zW _ _ _ _ _ _ _ _ _ _
  refine z_iload5 gi_9_83 ?_
  refine z_if_neF gi_9_85 zr_0 (by decide) ?_
  refine z_aload0 gi_9_88 ?_
  refine z_iload6 gi_9_89 ?_
  refine z_iload3 gi_9_91 ?_
  refine z_iload4 gi_9_92 ?_
  refine z_pushJ gp_9_94 ?_
  refine z_iadd (e := 2) gi_9_95 rfl ?_
  refine z_callVi (As := [_, _, _]) (le := [some _, some _, some _, some _, none]) gi_9_96 rfl gk_34 (Nat.le_of_ble_eq_true rfl) (Nat.le_of_ble_eq_true rfl) rfl ?_
  refine z_iload1 gi_11_0 ?_
  refine z_swI (tg := 81) gi_11_1 (by decide) (T := [((1 : Int), 44), ((2 : Int), 51), ((10 : Int), 71), ((11 : Int), 81)]) rfl (by decide) ?_
  refine z_iload2 gi_11_81 ?_
  refine z_aload0 gi_11_82 ?_
  refine z_getI (v := b) gi_11_83 gk_34 ((zU_x (by decide)).trans ((zU_n (by decide)).trans ((zU_x (by decide)).trans ((zU_n (by decide)).trans ((zU_x (by decide)).trans ((zU_n (by decide)).trans ((zU_x (by decide)).trans ((zU_n (by decide)).trans ((zU_x (by decide)).trans (zU_e)))))))))) ?_
  refine z_ixor (e := zxor 1 b) gi_11_86 rfl ?_
  refine z_iret gi_11_87 gr_11 ?_
  show zW _ _ _ _ _ _ _ _ _ _
  refine z_iret gi_9_99 gr_9 ?_
  show zW _ _ _ _ _ _ _ _ _ _
  refine z_iret gi_8_11 gr_8 ?_
  show zW _ _ _ _ _ _ _ _ _ _
  refine z_isub (e := (x + b) * 2 - (zxor 1 b)) gi_11_69 rfl ?_
  refine z_iret gi_11_70 gr_11 ?_
  show zW _ _ _ _ _ _ _ _ _ _
  refine z_iret gi_9_99 gr_9 ?_
  show zW _ _ _ _ _ _ _ _ _ _
  refine z_iret gi_8_11 gr_8 ?_
  show zW _ _ _ _ _ _ _ _ _ _
  refine z_iret gi_7_46 gr_7 ?_
  show zW _ _ _ _ _ _ _ _ _ _
  refine z_iret gi_134_10 gr_134 ?_
  refine ⟨_, rfl, ?_⟩
  show zW _ _ _ _ [some (.ref 50), some (zi b), some (zi 3), some (zi x)] _ _ _ _ _
  refine z_aload0 gi_246_0 ?_
  refine z_pushJ gp_246_1 ?_
  refine z_putI (y := 56) gi_246_2 rfl gk_50 ?_
  refine z_aload0 gi_246_5 ?_
  refine z_iload1 gi_246_6 ?_
  refine z_cV1 gi_246_7 gk_50 go_230 (Nat.le_of_ble_eq_true rfl) gc_230_RI ?_
  refine z_iload1 gi_230_0 ?_
  refine z_pushJ gp_230_1 ?_
  refine z_aload0 gi_230_2 ?_
  refine z_getI (v := J 34 1) gi_230_3 gk_50 ((zU_x (by decide)).trans ((zU_n (by decide)).trans ((zU_n (by decide)).trans ((zU_n (by decide)).trans ((zU_n (by decide)).trans ((zU_n (by decide)).trans ((zU_n (by decide)).trans ((zU_n (by decide)).trans ((zU_n (by decide)).trans ((zU_n (by decide)).trans ((zU_n (by decide)).trans ((zU_n (by decide)).trans (a1.symm))))))))))))) ?_
  refine z_pushJ gp_230_6 ?_
  refine z_isub (e := (J 34 1) - 1) gi_230_7 rfl ?_
  refine z_cS3 gi_230_8 (Nat.le_of_ble_eq_true rfl) gc_148_III ?_
  refine z_iload0 gi_148_0 ?_
  refine z_iload1 gi_148_1 ?_
  refine z_icmp_ltF gi_148_2 (by omega) zr_0 (by omega) ?_
  refine z_iload0 gi_148_5 ?_
  refine z_iload2 gi_148_6 ?_
  refine z_icmp_gtF gi_148_7 (by omega) (by omega) (by omega) ?_
  refine z_pushJ gp_148_10 ?_
  refine z_goto gi_148_11 ?_
  refine z_bret1 gi_148_15 gr_148 ?_
  show zW _ _ _ _ _ _ _ _ _ _
  refine z_bret1 gi_230_11 gr_230 ?_
  show zW _ _ _ _ _ _ _ _ _ _
  refine z_if_eqF gi_246_10 zr_1 (by decide) ?_
  refine z_iload2 gi_246_13 ?_
  refine z_pushJ gp_246_14 ?_
  refine z_pushJ gp_246_15 ?_
  refine z_cS3 gi_246_16 (Nat.le_of_ble_eq_true rfl) gc_148_III ?_
  refine z_iload0 gi_148_0 ?_
  refine z_iload1 gi_148_1 ?_
  refine z_icmp_ltF gi_148_2 zr_3 zr_0 (by decide) ?_
  refine z_iload0 gi_148_5 ?_
  refine z_iload2 gi_148_6 ?_
  refine z_icmp_gtF gi_148_7 zr_3 zr_3 (by decide) ?_
  refine z_pushJ gp_148_10 ?_
  refine z_goto gi_148_11 ?_
  refine z_bret1 gi_148_15 gr_148 ?_
  show zW _ _ _ _ _ _ _ _ _ _
  refine z_if_neT gi_246_19 zr_1 (by decide) ?_
  refine z_iload2 gi_246_24 ?_
  refine z_if_neT gi_246_25 zr_3 (by decide) ?_
  refine z_iload2 gi_246_37 ?_
  refine z_pushJ gp_246_38 ?_
  refine z_icmp_neT gi_246_39 zr_3 zr_1 (by decide) ?_
  refine z_iload2 gi_246_51 ?_
  refine z_pushJ gp_246_52 ?_
  refine z_icmp_neT gi_246_53 zr_3 zr_2 (by decide) ?_
  refine z_aload0 gi_246_65 ?_
  refine z_iload1 gi_246_66 ?_
  refine z_iload3 gi_246_67 ?_
  refine z_cV2 gi_246_68 gk_50 go_245 (Nat.le_of_ble_eq_true rfl) gc_245_RII ?_
  refine z_aload0 gi_245_0 ?_
  refine z_getR (r := 81) gi_245_1 gk_50 (hRr _ rm_50_55 (by decide)) ?_
  refine z_iload1 gi_245_4 ?_
  refine z_iald (v := 0) gi_245_5 gk_81 (by decide) (by omega) ((zU_n (by decide)).trans ((zU_n (by decide)).trans ((zU_n (by decide)).trans ((zU_n (by decide)).trans ((zU_n (by decide)).trans ((zU_n (by decide)).trans ((zU_n (by decide)).trans ((zU_n (by decide)).trans ((zU_n (by decide)).trans ((zU_n (by decide)).trans ((zU_n (by decide)).trans ((zU_n (by decide)).trans ((a5 _ hb1.1 hb1.2).1.symm.trans hk))))))))))))) ?_
  refine z_pushJ gp_245_6 ?_
  refine z_icmp_neT gi_245_7 zr_0 zr_4 (by decide) ?_
  refine z_aload0 gi_245_25 ?_
  refine z_getR (r := 81) gi_245_26 gk_50 (hRr _ rm_50_55 (by decide)) ?_
  refine z_iload1 gi_245_29 ?_
  refine z_iald (v := 0) gi_245_30 gk_81 (by decide) (by omega) ((zU_n (by decide)).trans ((zU_n (by decide)).trans ((zU_n (by decide)).trans ((zU_n (by decide)).trans ((zU_n (by decide)).trans ((zU_n (by decide)).trans ((zU_n (by decide)).trans ((zU_n (by decide)).trans ((zU_n (by decide)).trans ((zU_n (by decide)).trans ((zU_n (by decide)).trans ((zU_n (by decide)).trans ((a5 _ hb1.1 hb1.2).1.symm.trans hk))))))))))))) ?_
  refine z_pushJ gp_245_31 ?_
  refine z_icmp_neT gi_245_32 zr_0 zr_5 (by decide) ?_
  refine z_aload0 gi_245_50 ?_
  refine z_iload1 gi_245_51 ?_
  refine z_iload2 gi_245_52 ?_
  refine z_callVi (As := [_, _]) (le := [some _, some _, some _, none]) gi_245_53 rfl gk_50 (Nat.le_of_ble_eq_true rfl) (Nat.le_of_ble_eq_true rfl) rfl ?_
  refine z_aload0 gi_244_0 ?_
  refine z_pushJ gp_244_1 ?_
  refine z_callVx (As := [_]) gi_244_2 rfl rfl (Nat.le_of_ble_eq_true rfl) (Nat.le_of_ble_eq_true rfl) (rn_k (n := 0) (m := 1) hRr (zU_e) (by decide) (by decide)) ?_
  show zW _ _ _ _ _ _ _ _ _ _
  refine z_aload0 gi_244_5 ?_
  refine z_iload1 gi_244_6 ?_
  refine z_iload2 gi_244_7 ?_
  refine z_callVi (As := [_, _]) (le := [some _, some _, some _, none]) gi_244_8 rfl gk_50 (Nat.le_of_ble_eq_true rfl) (Nat.le_of_ble_eq_true rfl) rfl ?_
  refine z_aload0 gi_240_0 ?_
  refine z_getR (r := 81) gi_240_1 gk_50 (hRr _ rm_50_55 (by decide)) ?_
  refine z_iload1 gi_240_4 ?_
  refine z_iald (v := 0) gi_240_5 gk_81 (by decide) (by omega) ((zU_n (by decide)).trans ((zU_n (by decide)).trans ((zU_n (by decide)).trans ((zU_n (by decide)).trans ((zU_n (by decide)).trans ((zU_n (by decide)).trans ((zU_n (by decide)).trans ((zU_n (by decide)).trans ((zU_n (by decide)).trans ((zU_n (by decide)).trans ((zU_n (by decide)).trans ((zU_n (by decide)).trans ((zU_n (by decide)).trans ((zU_n (by decide)).trans ((a5 _ hb1.1 hb1.2).1.symm.trans hk))))))))))))))) ?_
  refine z_pushJ gp_240_6 ?_
  refine z_callSP (As := [_, _]) (v := 0) gi_240_7 rfl (Nat.le_of_ble_eq_true rfl) (Nat.le_of_ble_eq_true rfl) iu_0_3 ?_
  refine z_if_eqT gi_240_10 zr_0 (by decide) ?_
  refine z_aload0 gi_240_28 ?_
  refine z_getR (r := 81) gi_240_29 gk_50 (hRr _ rm_50_55 (by decide)) ?_
  refine z_iload1 gi_240_32 ?_
  refine z_iald (v := 0) gi_240_33 gk_81 (by decide) (by omega) ((zU_n (by decide)).trans ((zU_n (by decide)).trans ((zU_n (by decide)).trans ((zU_n (by decide)).trans ((zU_n (by decide)).trans ((zU_n (by decide)).trans ((zU_n (by decide)).trans ((zU_n (by decide)).trans ((zU_n (by decide)).trans ((zU_n (by decide)).trans ((zU_n (by decide)).trans ((zU_n (by decide)).trans ((zU_n (by decide)).trans ((zU_n (by decide)).trans ((a5 _ hb1.1 hb1.2).1.symm.trans hk))))))))))))))) ?_
  refine z_pushJ gp_240_34 ?_
  refine z_icmp_neT gi_240_36 zr_0 zr_7 (by decide) ?_
  refine z_aload0 gi_240_61 ?_
  refine z_getR (r := 81) gi_240_62 gk_50 (hRr _ rm_50_55 (by decide)) ?_
  refine z_iload1 gi_240_65 ?_
  refine z_iald (v := 0) gi_240_66 gk_81 (by decide) (by omega) ((zU_n (by decide)).trans ((zU_n (by decide)).trans ((zU_n (by decide)).trans ((zU_n (by decide)).trans ((zU_n (by decide)).trans ((zU_n (by decide)).trans ((zU_n (by decide)).trans ((zU_n (by decide)).trans ((zU_n (by decide)).trans ((zU_n (by decide)).trans ((zU_n (by decide)).trans ((zU_n (by decide)).trans ((zU_n (by decide)).trans ((zU_n (by decide)).trans ((a5 _ hb1.1 hb1.2).1.symm.trans hk))))))))))))))) ?_
  refine z_pushJ gp_240_67 ?_
  refine z_icmp_neT gi_240_68 zr_0 zr_2 (by decide) ?_
  refine z_aload0 gi_240_80 ?_
  refine z_iload1 gi_240_81 ?_
  refine z_iload2 gi_240_82 ?_
  refine z_cV2 gi_240_83 gk_50 go_238 (Nat.le_of_ble_eq_true rfl) gc_238_RII ?_
  refine z_aload0 gi_238_0 ?_
  refine z_pushJ gp_238_1 ?_
  refine z_callVx (As := [_]) gi_238_3 rfl rfl (Nat.le_of_ble_eq_true rfl) (Nat.le_of_ble_eq_true rfl) (rn_k (n := 1) (m := 2) hRr (zU_e) (by decide) (by decide)) ?_
  show zW _ _ _ _ _ _ _ _ _ _
  refine z_aload0 gi_238_6 ?_
  refine z_iload1 gi_238_7 ?_
  refine z_iload2 gi_238_8 ?_
  refine z_cV2 gi_238_9 gk_50 go_237 (Nat.le_of_ble_eq_true rfl) gc_237_RII ?_
  refine z_aload0 gi_237_0 ?_
  refine z_getR (r := 81) gi_237_1 gk_50 (hRr _ rm_50_55 (by decide)) ?_
  refine z_iload1 gi_237_4 ?_
  refine z_iald (v := 0) gi_237_5 gk_81 (by decide) (by omega) ((zU_n (by decide)).trans ((zU_n (by decide)).trans ((zU_n (by decide)).trans ((zU_n (by decide)).trans ((zU_n (by decide)).trans ((zU_n (by decide)).trans ((zU_n (by decide)).trans ((zU_n (by decide)).trans ((zU_n (by decide)).trans ((zU_n (by decide)).trans ((zU_n (by decide)).trans ((zU_n (by decide)).trans ((zU_n (by decide)).trans ((zU_n (by decide)).trans ((zU_n (by decide)).trans ((zU_n (by decide)).trans ((a5 _ hb1.1 hb1.2).1.symm.trans hk))))))))))))))))) ?_
  refine z_pushJ gp_237_6 ?_
  refine z_callSP (As := [_, _]) (v := 0) gi_237_7 rfl (Nat.le_of_ble_eq_true rfl) (Nat.le_of_ble_eq_true rfl) iu_0_1 ?_
  refine z_if_eqT gi_237_10 zr_0 (by decide) ?_
  refine z_aload0 gi_237_28 ?_
  refine z_getR (r := 81) gi_237_29 gk_50 (hRr _ rm_50_55 (by decide)) ?_
  refine z_iload1 gi_237_32 ?_
  refine z_iald (v := 0) gi_237_33 gk_81 (by decide) (by omega) ((zU_n (by decide)).trans ((zU_n (by decide)).trans ((zU_n (by decide)).trans ((zU_n (by decide)).trans ((zU_n (by decide)).trans ((zU_n (by decide)).trans ((zU_n (by decide)).trans ((zU_n (by decide)).trans ((zU_n (by decide)).trans ((zU_n (by decide)).trans ((zU_n (by decide)).trans ((zU_n (by decide)).trans ((zU_n (by decide)).trans ((zU_n (by decide)).trans ((zU_n (by decide)).trans ((zU_n (by decide)).trans ((a5 _ hb1.1 hb1.2).1.symm.trans hk))))))))))))))))) ?_
  refine z_pushJ gp_237_34 ?_
  refine z_icmp_neT gi_237_36 zr_0 zr_7 (by decide) ?_
  refine z_aload0 gi_237_54 ?_
  refine z_getR (r := 81) gi_237_55 gk_50 (hRr _ rm_50_55 (by decide)) ?_
  refine z_iload1 gi_237_58 ?_
  refine z_iald (v := 0) gi_237_59 gk_81 (by decide) (by omega) ((zU_n (by decide)).trans ((zU_n (by decide)).trans ((zU_n (by decide)).trans ((zU_n (by decide)).trans ((zU_n (by decide)).trans ((zU_n (by decide)).trans ((zU_n (by decide)).trans ((zU_n (by decide)).trans ((zU_n (by decide)).trans ((zU_n (by decide)).trans ((zU_n (by decide)).trans ((zU_n (by decide)).trans ((zU_n (by decide)).trans ((zU_n (by decide)).trans ((zU_n (by decide)).trans ((zU_n (by decide)).trans ((a5 _ hb1.1 hb1.2).1.symm.trans hk))))))))))))))))) ?_
  refine z_pushJ gp_237_60 ?_
  refine z_icmp_neT gi_237_62 zr_0 zr_6 (by decide) ?_
  refine z_aload0 gi_237_74 ?_
  refine z_iload1 gi_237_75 ?_
  refine z_iload2 gi_237_76 ?_
  refine z_cV2 gi_237_77 gk_50 go_235 (Nat.le_of_ble_eq_true rfl) gc_235_RII ?_
  refine z_aload0 gi_235_0 ?_
  refine z_pushJ gp_235_1 ?_
  refine z_callVx (As := [_]) gi_235_2 rfl rfl (Nat.le_of_ble_eq_true rfl) (Nat.le_of_ble_eq_true rfl) (rn_k (n := 2) (m := 3) hRr (zU_e) (by decide) (by decide)) ?_
  show zW _ _ _ _ _ _ _ _ _ _
  refine z_iload2 gi_235_5 ?_
  refine z_iload1 gi_235_6 ?_
  refine z_iadd (e := x + b) gi_235_7 rfl ?_
  refine z_iret gi_235_8 gr_235 ?_
  show zW _ _ _ _ _ _ _ _ _ _
  refine z_iret gi_237_80 gr_237 ?_
  show zW _ _ _ _ _ _ _ _ _ _
  refine z_pushJ gp_238_12 ?_
  refine z_imul (e := (x + b) * 2) gi_238_13 rfl ?_
  refine z_iret gi_238_14 gr_238 ?_
  show zW _ _ _ _ _ _ _ _ _ _
  refine z_iret gi_240_86 gr_240 ?_
  show zW _ _ _ _ _ _ _ _ _ _
  refine z_istore (ls1 := [some (.ref 50), some (zi b), some (zi x), some (zi ((x + b) * 2))]) gi_244_11 rfl ?_
  refine z_iload3 gi_244_12 ?_
  refine z_aload0 gi_244_13 ?_
  refine z_iload1 gi_244_14 ?_
  refine z_pushJ gp_244_15 ?_
  refine z_callVi (As := [_, _]) (le := [some _, some _, some _, none]) gi_244_16 rfl gk_50 (Nat.le_of_ble_eq_true rfl) (Nat.le_of_ble_eq_true rfl) rfl ?_
  refine z_aload0 gi_243_0 ?_
  refine z_getR (r := 81) gi_243_1 gk_50 (hRr _ rm_50_55 (by decide)) ?_
  refine z_iload1 gi_243_4 ?_
  refine z_iald (v := 0) gi_243_5 gk_81 (by decide) (by omega) ((zU_n (by decide)).trans ((zU_n (by decide)).trans ((zU_n (by decide)).trans ((zU_n (by decide)).trans ((zU_n (by decide)).trans ((zU_n (by decide)).trans ((zU_n (by decide)).trans ((zU_n (by decide)).trans ((zU_n (by decide)).trans ((zU_n (by decide)).trans ((zU_n (by decide)).trans ((zU_n (by decide)).trans ((zU_n (by decide)).trans ((zU_n (by decide)).trans ((zU_n (by decide)).trans ((zU_n (by decide)).trans ((zU_n (by decide)).trans ((zU_n (by decide)).trans ((a5 _ hb1.1 hb1.2).1.symm.trans hk))))))))))))))))))) ?_
  refine z_pushJ gp_243_6 ?_
  refine z_icmp_neT gi_243_7 zr_0 zr_5 (by decide) ?_
  refine z_aload0 gi_243_32 ?_
  refine z_getR (r := 81) gi_243_33 gk_50 (hRr _ rm_50_55 (by decide)) ?_
  refine z_iload1 gi_243_36 ?_
  refine z_iald (v := 0) gi_243_37 gk_81 (by decide) (by omega) ((zU_n (by decide)).trans ((zU_n (by decide)).trans ((zU_n (by decide)).trans ((zU_n (by decide)).trans ((zU_n (by decide)).trans ((zU_n (by decide)).trans ((zU_n (by decide)).trans ((zU_n (by decide)).trans ((zU_n (by decide)).trans ((zU_n (by decide)).trans ((zU_n (by decide)).trans ((zU_n (by decide)).trans ((zU_n (by decide)).trans ((zU_n (by decide)).trans ((zU_n (by decide)).trans ((zU_n (by decide)).trans ((zU_n (by decide)).trans ((zU_n (by decide)).trans ((a5 _ hb1.1 hb1.2).1.symm.trans hk))))))))))))))))))) ?_
  refine z_pushJ gp_243_38 ?_
  refine z_icmp_neT gi_243_39 zr_0 zr_3 (by decide) ?_
  refine z_aload0 gi_243_51 ?_
  refine z_iload1 gi_243_52 ?_
  refine z_iload2 gi_243_53 ?_
  refine z_cV2 gi_243_54 gk_50 go_241 (Nat.le_of_ble_eq_true rfl) gc_241_RII ?_
  refine z_aload0 gi_241_0 ?_
  refine z_pushJ gp_241_1 ?_
  refine z_callVx (As := [_]) gi_241_3 rfl rfl (Nat.le_of_ble_eq_true rfl) (Nat.le_of_ble_eq_true rfl) (rn_k (n := 3) (m := 4) hRr (zU_e) (by decide) (by decide)) ?_
  show zW _ _ _ _ _ _ _ _ _ _
  refine z_iload2 gi_241_6 ?_
  refine z_iload1 gi_241_7 ?_
  refine z_ixor (e := zxor 1 b) gi_241_8 rfl ?_
  refine z_iret gi_241_9 gr_241 ?_
  show zW _ _ _ _ _ _ _ _ _ _
  refine z_iret gi_243_57 gr_243 ?_
  show zW _ _ _ _ _ _ _ _ _ _
  refine z_isub (e := (x + b) * 2 - (zxor 1 b)) gi_244_19 rfl ?_
  refine z_iret gi_244_20 gr_244 ?_
  show zW _ _ _ _ _ _ _ _ _ _
  refine z_iret gi_245_56 gr_245 ?_
  show zW _ _ _ _ _ _ _ _ _ _
  refine z_iret gi_246_71 gr_246 ?_
  refine ⟨?_, ?_⟩
  · rfl
  · have hk := (zK_x (a := 50) (x := 56) (v := 4) (zK_x (a := 82) (x := 3) (v := 11) (zK_x (a := 50) (x := 56) (v := 3) (zK_x (a := 82) (x := 2) (v := 1) (zK_x (a := 50) (x := 56) (v := 2) (zK_x (a := 82) (x := 1) (v := 10) (zK_x (a := 50) (x := 56) (v := 1) (zK_x (a := 82) (x := 0) (v := 2) (zK_x (a := 50) (x := 56) (v := 0) (zK_x (a := 34) (x := 3) (v := 4) (zK_x (a := 36) (x := 3) (v := 11) (zK_x (a := 34) (x := 3) (v := 3) (zK_x (a := 36) (x := 2) (v := 1) (zK_x (a := 34) (x := 3) (v := 2) (zK_x (a := 36) (x := 1) (v := 10) (zK_x (a := 34) (x := 3) (v := 1) (zK_x (a := 36) (x := 0) (v := 2) (zK_x (a := 34) (x := 5) (v := 0) (zK_x (a := 34) (x := 4) (v := b) (zK_x (a := 34) (x := 3) (v := 0) (zK_r (k := (kL [] [(34, 3), (34, 4), (34, 5), (36, 0), (36, 1), (36, 2), (36, 3), (50, 56), (82, 0), (82, 1), (82, 2), (82, 3)])) (A := J)) rfl) rfl) rfl) rfl) rfl) rfl) rfl) rfl) rfl) rfl) rfl) rfl) rfl) rfl) rfl) rfl) rfl) rfl) rfl) rfl)
    exact ⟨hR, hG, RelY_k hk (by repeat' constructor) (fun p => by repeat' constructor) hY, RelD_k hk (by repeat' constructor) (fun p => by repeat' constructor) hD, RelP_k hk (by repeat' constructor) (fun p => by repeat' constructor) hP, RelC_k hk (by repeat' constructor) (fun p => by repeat' constructor) hC, ⟨(show J 34 1 = J 50 54 from a1), (show 0 ≤ J 34 1 ∧ J 34 1 ≤ 50 from a2), rfl, (show (0 : Int) ≤ 4 ∧ (4 : Int) ≤ 1000 from by decide), (fun i i1 i2 => a5 i i1 i2), (fun i i1 i2 _ => by have i3 : i < 4 := i2; have q : i = 0 ∨ i = 1 ∨ i = 2 ∨ i = 3 := (by omega); rcases q with rfl | rfl | rfl | rfl <;> rfl)⟩, RelS_k hk (zK_r (k := kM)) (fun x j a b => ⟨kL_38 (by decide) (by decide) x j a b, kM_38 x j a b⟩) (fun p => ⟨rfl, rfl, rfl⟩) rfl hS, RelT_k hk (by repeat' constructor) (fun p => by repeat' constructor) hTp, RelX_k hk (by repeat' constructor) (fun p => by repeat' constructor) hX, RelW_k hk ⟨rfl, rfl⟩ trivial hW⟩
theorem iu_1_1 {X : Nat × (Nat → Int32)} {d : Nat} {J M : zA} {R : zR} : zW X d 234 0 (gEn 234 [(zi 1), (zi 1)]) [] J M R (zPu 1 J M R) := by
  show zW _ _ _ _ [some (zi 1), some (zi 1)] _ _ _ _ _
  refine z_iload1 gi_234_0 ?_
  refine z_if_eqF gi_234_1 zr_1 (by decide) ?_
  refine z_iload0 gi_234_4 ?_
  refine z_iload1 gi_234_5 ?_
  refine z_icmp_eqT gi_234_6 zr_1 zr_1 (by decide) ?_
  refine z_pushJ gp_234_56 ?_
  refine z_goto gi_234_57 ?_
  refine z_bret1 gi_234_61 gr_234 ?_
  exact ⟨rfl, rfl, rfl, rfl⟩
theorem st_act_10 {X : Nat × (Nat → Int32)} {d : Nat} {J M : zA} {R : zR} {b x : Int} (hr : Rel X J M R) (hb : -2147483648 ≤ b ∧ b < 2147483648) (hx : -2147483648 ≤ x ∧ x < 2147483648) (hb1 : 0 ≤ b ∧ b < J 34 1) (hk : J 35 b = 1) : zW X (d + 20) 134 0 (gEn 134 [(.ref 0), (zi b), (zi 0), (zi x)]) [] J M R (stP X (d + 20) 246 [(zi b), (zi 0), (zi x)]) := by
  have hr0 := hr
  obtain ⟨hR, hG, hY, hD, hP, hC, hAc, hS, hTp, hX, hW⟩ := hr0
  have hRr : zRoR R := zRoR_of hR
  have hA0 := hAc
  obtain ⟨a1, a2, a3, a4, a5, a6⟩ := hA0
  show zW _ _ _ _ [some (.ref 0), some (zi b), some (zi 0), some (zi x)] _ _ _ _ _
  refine z_aload0 gi_134_0 ?_
  refine z_getR (r := 34) gi_134_1 gk_0 (hR _ rm_0_10) ?_
  refine z_iload1 gi_134_4 ?_
  refine z_iload2 gi_134_5 ?_
  refine z_iload3 gi_134_6 ?_
  refine z_cV3 gi_134_7 gk_34 go_7 (Nat.le_of_ble_eq_true rfl) gc_7_RIII ?_
  refine z_aload0 gi_7_0 ?_
  refine z_pushJ gp_7_1 ?_
  refine z_putI (y := 3) gi_7_2 rfl gk_34 ?_
  refine z_aload0 gi_7_5 ?_
  refine z_iload1 gi_7_6 ?_
  refine z_cV1 gi_7_7 gk_34 go_3 (Nat.le_of_ble_eq_true rfl) gc_3_RI ?_
  refine z_iload1 gi_3_0 ?_
  refine z_if_ltF gi_3_1 (by omega) (by omega) ?_
  refine z_iload1 gi_3_4 ?_
  refine z_aload0 gi_3_5 ?_
  refine z_getI (v := J 34 1) gi_3_6 gk_34 ((zU_x (by decide)).trans (rfl)) ?_
  refine z_icmp_geF gi_3_9 (by omega) (by omega) (by omega) ?_
  refine z_pushJ gp_3_12 ?_
  refine z_goto gi_3_13 ?_
  refine z_bret1 gi_3_17 gr_3 ?_
  show zW _ _ _ _ _ _ _ _ _ _
  refine z_if_eqF gi_7_10 zr_1 (by decide) ?_
  refine z_iload2 gi_7_13 ?_
  refine z_if_ltF gi_7_14 zr_0 (by decide) ?_
  refine z_iload2 gi_7_17 ?_
  refine z_pushJ gp_7_18 ?_
  refine z_icmp_ltT gi_7_19 zr_0 zr_4 (by decide) ?_
  refine z_aload0 gi_7_24 ?_
  refine z_iload1 gi_7_25 ?_
  refine z_putI (y := 4) gi_7_26 rfl gk_34 ?_
  refine z_aload0 gi_7_29 ?_
  refine z_aload0 gi_7_30 ?_
  refine z_getR (r := 35) gi_7_31 gk_34 (hR _ rm_34_0) ?_
  refine z_iload1 gi_7_34 ?_
  refine z_iald (v := 1) gi_7_35 gk_35 (by decide) (by omega) ((zU_n (by decide)).trans ((zU_n (by decide)).trans (hk))) ?_
  refine z_putI (y := 5) gi_7_36 rfl gk_34 ?_
  refine z_aload0 gi_7_39 ?_
  refine z_iload2 gi_7_40 ?_
  refine z_iload3 gi_7_41 ?_
  refine z_pushJ gp_7_42 ?_
  refine z_cV3 gi_7_43 gk_34 go_8 (Nat.le_of_ble_eq_true rfl) gc_8_RIII ?_
  refine z_aload0 gi_8_0 ?_
  refine z_aload0 gi_8_1 ?_
  refine z_getI (v := 1) gi_8_2 gk_34 (zU_e) ?_
  refine z_iload1 gi_8_5 ?_
  refine z_iload2 gi_8_6 ?_
  refine z_iload3 gi_8_7 ?_
  refine z_callVi (As := [_, _, _, _]) (le := [some _, some _, some _, some _, some _, none, none]) gi_8_8 rfl gk_34 (Nat.le_of_ble_eq_true rfl) (Nat.le_of_ble_eq_true rfl) rfl ?_
  refine ah_1_0 (by decide) ?_
  refine z_aload0 gi_9_77 ?_
  refine z_iload6 gi_9_78 ?_
  refine z_callVx (As := [_]) gi_9_80 rfl rfl (Nat.le_of_ble_eq_true rfl) (Nat.le_of_ble_eq_true rfl) (bg_k (n := 0) (m := 1) hR ((zU_x (by decide)).trans ((zU_x (by decide)).trans (zU_e))) (by decide) (by decide)) ?_
  show zW _ _ _ _ _ _ _ _ _ _
  refine z_iload5 gi_9_83 ?_
  refine z_if_neT gi_9_85 zr_1 (by decide) ?_
  refine z_aload0 gi_9_100 ?_
  refine z_iload6 gi_9_101 ?_
  refine z_getS gi_9_103 ?_
  refine z_iload5 gi_9_106 ?_
  refine z_sald (j := 4) (n := 8) (v := 0) gi_9_108 (by decide) rfl (by decide) (by decide) rfl ?_
  refine z_iload3 gi_9_109 ?_
  refine z_iload4 gi_9_110 ?_
  refine z_pushJ gp_9_112 ?_
  refine z_iadd (e := 1) gi_9_113 rfl ?_
  refine z_callVi (As := [_, _, _, _]) (le := [some _, some _, some _, some _, some _, none, none]) gi_9_114 rfl gk_34 (Nat.le_of_ble_eq_true rfl) (Nat.le_of_ble_eq_true rfl) rfl ?_
  refine z_iload1 gi_12_0 ?_
  refine z_swI (tg := 92) gi_12_1 (by decide) (T := [((20 : Int), 92), ((30 : Int), 104), ((40 : Int), 115), ((41 : Int), 127), ((50 : Int), 139), ((60 : Int), 151), ((61 : Int), 174), ((70 : Int), 186), ((80 : Int), 198), ((81 : Int), 221)]) rfl (by decide) ?_
  refine z_aload0 gi_12_92 ?_
  refine z_iload2 gi_12_93 ?_
  refine z_pushJ gp_12_94 ?_
  refine z_iload3 gi_12_95 ?_
  refine z_iload4 gi_12_96 ?_
  refine z_callVi (As := [_, _, _, _]) (le := [some _, some _, some _, some _, some _, none, none]) gi_12_98 rfl gk_34 (Nat.le_of_ble_eq_true rfl) (Nat.le_of_ble_eq_true rfl) rfl ?_
  refine ah_0_0 (by decide) ?_
  refine z_aload0 gi_9_77 ?_
  refine z_iload6 gi_9_78 ?_
  refine z_callVx (As := [_]) gi_9_80 rfl rfl (Nat.le_of_ble_eq_true rfl) (Nat.le_of_ble_eq_true rfl) (bg_k (n := 1) (m := 2) hR (zU_e) (by decide) (by decide)) ?_
  show zW _ _ _ _ _ _ _ _ _ _
  refine z_iload5 gi_9_83 ?_
  refine z_if_neF gi_9_85 zr_0 (by decide) ?_
  refine z_aload0 gi_9_88 ?_
  refine z_iload6 gi_9_89 ?_
  refine z_iload3 gi_9_91 ?_
  refine z_iload4 gi_9_92 ?_
  refine z_pushJ gp_9_94 ?_
  refine z_iadd (e := 2) gi_9_95 rfl ?_
  refine z_callVi (As := [_, _, _]) (le := [some _, some _, some _, some _, none]) gi_9_96 rfl gk_34 (Nat.le_of_ble_eq_true rfl) (Nat.le_of_ble_eq_true rfl) rfl ?_
  refine z_iload1 gi_11_0 ?_
  refine z_swI (tg := 44) gi_11_1 (by decide) (T := [((1 : Int), 44), ((2 : Int), 51), ((10 : Int), 71), ((11 : Int), 81)]) rfl (by decide) ?_
  refine z_iload2 gi_11_44 ?_
  refine z_aload0 gi_11_45 ?_
  refine z_getI (v := b) gi_11_46 gk_34 ((zU_x (by decide)).trans ((zU_n (by decide)).trans ((zU_x (by decide)).trans ((zU_n (by decide)).trans ((zU_x (by decide)).trans (zU_e)))))) ?_
  refine z_iadd (e := x + b) gi_11_49 rfl ?_
  refine z_iret gi_11_50 gr_11 ?_
  show zW _ _ _ _ _ _ _ _ _ _
  refine z_iret gi_9_99 gr_9 ?_
  show zW _ _ _ _ _ _ _ _ _ _
  refine z_pushJ gp_12_101 ?_
  refine z_iadd (e := x + b + 3) gi_12_102 rfl ?_
  refine z_iret gi_12_103 gr_12 ?_
  show zW _ _ _ _ _ _ _ _ _ _
  refine z_iret gi_9_117 gr_9 ?_
  show zW _ _ _ _ _ _ _ _ _ _
  refine z_iret gi_8_11 gr_8 ?_
  show zW _ _ _ _ _ _ _ _ _ _
  refine z_iret gi_7_46 gr_7 ?_
  show zW _ _ _ _ _ _ _ _ _ _
  refine z_iret gi_134_10 gr_134 ?_
  refine ⟨_, rfl, ?_⟩
  show zW _ _ _ _ [some (.ref 50), some (zi b), some (zi 0), some (zi x)] _ _ _ _ _
  refine z_aload0 gi_246_0 ?_
  refine z_pushJ gp_246_1 ?_
  refine z_putI (y := 56) gi_246_2 rfl gk_50 ?_
  refine z_aload0 gi_246_5 ?_
  refine z_iload1 gi_246_6 ?_
  refine z_cV1 gi_246_7 gk_50 go_230 (Nat.le_of_ble_eq_true rfl) gc_230_RI ?_
  refine z_iload1 gi_230_0 ?_
  refine z_pushJ gp_230_1 ?_
  refine z_aload0 gi_230_2 ?_
  refine z_getI (v := J 34 1) gi_230_3 gk_50 ((zU_x (by decide)).trans ((zU_n (by decide)).trans ((zU_n (by decide)).trans ((zU_n (by decide)).trans ((zU_n (by decide)).trans ((zU_n (by decide)).trans ((zU_n (by decide)).trans ((zU_n (by decide)).trans (a1.symm))))))))) ?_
  refine z_pushJ gp_230_6 ?_
  refine z_isub (e := (J 34 1) - 1) gi_230_7 rfl ?_
  refine z_cS3 gi_230_8 (Nat.le_of_ble_eq_true rfl) gc_148_III ?_
  refine z_iload0 gi_148_0 ?_
  refine z_iload1 gi_148_1 ?_
  refine z_icmp_ltF gi_148_2 (by omega) zr_0 (by omega) ?_
  refine z_iload0 gi_148_5 ?_
  refine z_iload2 gi_148_6 ?_
  refine z_icmp_gtF gi_148_7 (by omega) (by omega) (by omega) ?_
  refine z_pushJ gp_148_10 ?_
  refine z_goto gi_148_11 ?_
  refine z_bret1 gi_148_15 gr_148 ?_
  show zW _ _ _ _ _ _ _ _ _ _
  refine z_bret1 gi_230_11 gr_230 ?_
  show zW _ _ _ _ _ _ _ _ _ _
  refine z_if_eqF gi_246_10 zr_1 (by decide) ?_
  refine z_iload2 gi_246_13 ?_
  refine z_pushJ gp_246_14 ?_
  refine z_pushJ gp_246_15 ?_
  refine z_cS3 gi_246_16 (Nat.le_of_ble_eq_true rfl) gc_148_III ?_
  refine z_iload0 gi_148_0 ?_
  refine z_iload1 gi_148_1 ?_
  refine z_icmp_ltF gi_148_2 zr_0 zr_0 (by decide) ?_
  refine z_iload0 gi_148_5 ?_
  refine z_iload2 gi_148_6 ?_
  refine z_icmp_gtF gi_148_7 zr_0 zr_3 (by decide) ?_
  refine z_pushJ gp_148_10 ?_
  refine z_goto gi_148_11 ?_
  refine z_bret1 gi_148_15 gr_148 ?_
  show zW _ _ _ _ _ _ _ _ _ _
  refine z_if_neT gi_246_19 zr_1 (by decide) ?_
  refine z_iload2 gi_246_24 ?_
  refine z_if_neF gi_246_25 zr_0 (by decide) ?_
  refine z_aload0 gi_246_28 ?_
  refine z_iload1 gi_246_29 ?_
  refine z_iload3 gi_246_30 ?_
  refine z_cV2 gi_246_31 gk_50 go_237 (Nat.le_of_ble_eq_true rfl) gc_237_RII ?_
  refine z_aload0 gi_237_0 ?_
  refine z_getR (r := 81) gi_237_1 gk_50 (hRr _ rm_50_55 (by decide)) ?_
  refine z_iload1 gi_237_4 ?_
  refine z_iald (v := 1) gi_237_5 gk_81 (by decide) (by omega) ((zU_n (by decide)).trans ((zU_n (by decide)).trans ((zU_n (by decide)).trans ((zU_n (by decide)).trans ((zU_n (by decide)).trans ((zU_n (by decide)).trans ((zU_n (by decide)).trans ((zU_n (by decide)).trans ((a5 _ hb1.1 hb1.2).1.symm.trans hk))))))))) ?_
  refine z_pushJ gp_237_6 ?_
  refine z_callSP (As := [_, _]) (v := 1) gi_237_7 rfl (Nat.le_of_ble_eq_true rfl) (Nat.le_of_ble_eq_true rfl) iu_1_1 ?_
  refine z_if_eqF gi_237_10 zr_1 (by decide) ?_
  refine z_aload0 gi_237_13 ?_
  refine z_pushJ gp_237_14 ?_
  refine z_callVx (As := [_]) gi_237_16 rfl rfl (Nat.le_of_ble_eq_true rfl) (Nat.le_of_ble_eq_true rfl) (rn_k (n := 0) (m := 1) hRr (zU_e) (by decide) (by decide)) ?_
  show zW _ _ _ _ _ _ _ _ _ _
  refine z_aload0 gi_237_19 ?_
  refine z_iload1 gi_237_20 ?_
  refine z_iload2 gi_237_21 ?_
  refine z_cV2 gi_237_22 gk_50 go_235 (Nat.le_of_ble_eq_true rfl) gc_235_RII ?_
  refine z_aload0 gi_235_0 ?_
  refine z_pushJ gp_235_1 ?_
  refine z_callVx (As := [_]) gi_235_2 rfl rfl (Nat.le_of_ble_eq_true rfl) (Nat.le_of_ble_eq_true rfl) (rn_k (n := 1) (m := 2) hRr (zU_e) (by decide) (by decide)) ?_
  show zW _ _ _ _ _ _ _ _ _ _
  refine z_iload2 gi_235_5 ?_
  refine z_iload1 gi_235_6 ?_
  refine z_iadd (e := x + b) gi_235_7 rfl ?_
  refine z_iret gi_235_8 gr_235 ?_
  show zW _ _ _ _ _ _ _ _ _ _
  refine z_pushJ gp_237_25 ?_
  refine z_iadd (e := x + b + 3) gi_237_26 rfl ?_
  refine z_iret gi_237_27 gr_237 ?_
  show zW _ _ _ _ _ _ _ _ _ _
  refine z_goto gi_246_34 ?_
  refine z_iret gi_246_71 gr_246 ?_
  refine ⟨?_, ?_⟩
  · rfl
  · have hk := (zK_x (a := 50) (x := 56) (v := 2) (zK_x (a := 82) (x := 1) (v := 1) (zK_x (a := 50) (x := 56) (v := 1) (zK_x (a := 82) (x := 0) (v := 20) (zK_x (a := 50) (x := 56) (v := 0) (zK_x (a := 34) (x := 3) (v := 2) (zK_x (a := 36) (x := 1) (v := 1) (zK_x (a := 34) (x := 3) (v := 1) (zK_x (a := 36) (x := 0) (v := 20) (zK_x (a := 34) (x := 5) (v := 1) (zK_x (a := 34) (x := 4) (v := b) (zK_x (a := 34) (x := 3) (v := 0) (zK_r (k := (kL [] [(34, 3), (34, 4), (34, 5), (36, 0), (36, 1), (50, 56), (82, 0), (82, 1)])) (A := J)) rfl) rfl) rfl) rfl) rfl) rfl) rfl) rfl) rfl) rfl) rfl) rfl)
    exact ⟨hR, hG, RelY_k hk (by repeat' constructor) (fun p => by repeat' constructor) hY, RelD_k hk (by repeat' constructor) (fun p => by repeat' constructor) hD, RelP_k hk (by repeat' constructor) (fun p => by repeat' constructor) hP, RelC_k hk (by repeat' constructor) (fun p => by repeat' constructor) hC, ⟨(show J 34 1 = J 50 54 from a1), (show 0 ≤ J 34 1 ∧ J 34 1 ≤ 50 from a2), rfl, (show (0 : Int) ≤ 2 ∧ (2 : Int) ≤ 1000 from by decide), (fun i i1 i2 => a5 i i1 i2), (fun i i1 i2 _ => by have i3 : i < 2 := i2; have q : i = 0 ∨ i = 1 := (by omega); rcases q with rfl | rfl <;> rfl)⟩, RelS_k hk (zK_r (k := kM)) (fun x j a b => ⟨kL_38 (by decide) (by decide) x j a b, kM_38 x j a b⟩) (fun p => ⟨rfl, rfl, rfl⟩) rfl hS, RelT_k hk (by repeat' constructor) (fun p => by repeat' constructor) hTp, RelX_k hk (by repeat' constructor) (fun p => by repeat' constructor) hX, RelW_k hk ⟨rfl, rfl⟩ trivial hW⟩
theorem iu_1_3 {X : Nat × (Nat → Int32)} {d : Nat} {J M : zA} {R : zR} : zW X d 234 0 (gEn 234 [(zi 1), (zi 3)]) [] J M R (zPu 0 J M R) := by
  show zW _ _ _ _ [some (zi 1), some (zi 3)] _ _ _ _ _
  refine z_iload1 gi_234_0 ?_
  refine z_if_eqF gi_234_1 zr_3 (by decide) ?_
  refine z_iload0 gi_234_4 ?_
  refine z_iload1 gi_234_5 ?_
  refine z_icmp_eqF gi_234_6 zr_1 zr_3 (by decide) ?_
  refine z_iload1 gi_234_9 ?_
  refine z_pushJ gp_234_10 ?_
  refine z_icmp_neT gi_234_11 zr_3 zr_1 (by decide) ?_
  refine z_iload1 gi_234_19 ?_
  refine z_pushJ gp_234_20 ?_
  refine z_icmp_neT gi_234_21 zr_3 zr_2 (by decide) ?_
  refine z_iload1 gi_234_34 ?_
  refine z_pushJ gp_234_35 ?_
  refine z_icmp_neF gi_234_36 zr_3 zr_3 (by decide) ?_
  refine z_iload0 gi_234_39 ?_
  refine z_pushJ gp_234_40 ?_
  refine z_icmp_eqF gi_234_41 zr_1 zr_5 (by decide) ?_
  refine z_iload1 gi_234_44 ?_
  refine z_pushJ gp_234_45 ?_
  refine z_icmp_neT gi_234_47 zr_3 zr_6 (by decide) ?_
  refine z_pushJ gp_234_60 ?_
  refine z_bret0 gi_234_61 gr_234 ?_
  exact ⟨rfl, rfl, rfl, rfl⟩
theorem st_act_11 {X : Nat × (Nat → Int32)} {d : Nat} {J M : zA} {R : zR} {b x : Int} (hr : Rel X J M R) (hb : -2147483648 ≤ b ∧ b < 2147483648) (hx : -2147483648 ≤ x ∧ x < 2147483648) (hb1 : 0 ≤ b ∧ b < J 34 1) (hk : J 35 b = 1) : zW X (d + 20) 134 0 (gEn 134 [(.ref 0), (zi b), (zi 1), (zi x)]) [] J M R (stP X (d + 20) 246 [(zi b), (zi 1), (zi x)]) := by
  have hr0 := hr
  obtain ⟨hR, hG, hY, hD, hP, hC, hAc, hS, hTp, hX, hW⟩ := hr0
  have hRr : zRoR R := zRoR_of hR
  have hA0 := hAc
  obtain ⟨a1, a2, a3, a4, a5, a6⟩ := hA0
  show zW _ _ _ _ [some (.ref 0), some (zi b), some (zi 1), some (zi x)] _ _ _ _ _
  refine z_aload0 gi_134_0 ?_
  refine z_getR (r := 34) gi_134_1 gk_0 (hR _ rm_0_10) ?_
  refine z_iload1 gi_134_4 ?_
  refine z_iload2 gi_134_5 ?_
  refine z_iload3 gi_134_6 ?_
  refine z_cV3 gi_134_7 gk_34 go_7 (Nat.le_of_ble_eq_true rfl) gc_7_RIII ?_
  refine z_aload0 gi_7_0 ?_
  refine z_pushJ gp_7_1 ?_
  refine z_putI (y := 3) gi_7_2 rfl gk_34 ?_
  refine z_aload0 gi_7_5 ?_
  refine z_iload1 gi_7_6 ?_
  refine z_cV1 gi_7_7 gk_34 go_3 (Nat.le_of_ble_eq_true rfl) gc_3_RI ?_
  refine z_iload1 gi_3_0 ?_
  refine z_if_ltF gi_3_1 (by omega) (by omega) ?_
  refine z_iload1 gi_3_4 ?_
  refine z_aload0 gi_3_5 ?_
  refine z_getI (v := J 34 1) gi_3_6 gk_34 ((zU_x (by decide)).trans (rfl)) ?_
  refine z_icmp_geF gi_3_9 (by omega) (by omega) (by omega) ?_
  refine z_pushJ gp_3_12 ?_
  refine z_goto gi_3_13 ?_
  refine z_bret1 gi_3_17 gr_3 ?_
  show zW _ _ _ _ _ _ _ _ _ _
  refine z_if_eqF gi_7_10 zr_1 (by decide) ?_
  refine z_iload2 gi_7_13 ?_
  refine z_if_ltF gi_7_14 zr_1 (by decide) ?_
  refine z_iload2 gi_7_17 ?_
  refine z_pushJ gp_7_18 ?_
  refine z_icmp_ltT gi_7_19 zr_1 zr_4 (by decide) ?_
  refine z_aload0 gi_7_24 ?_
  refine z_iload1 gi_7_25 ?_
  refine z_putI (y := 4) gi_7_26 rfl gk_34 ?_
  refine z_aload0 gi_7_29 ?_
  refine z_aload0 gi_7_30 ?_
  refine z_getR (r := 35) gi_7_31 gk_34 (hR _ rm_34_0) ?_
  refine z_iload1 gi_7_34 ?_
  refine z_iald (v := 1) gi_7_35 gk_35 (by decide) (by omega) ((zU_n (by decide)).trans ((zU_n (by decide)).trans (hk))) ?_
  refine z_putI (y := 5) gi_7_36 rfl gk_34 ?_
  refine z_aload0 gi_7_39 ?_
  refine z_iload2 gi_7_40 ?_
  refine z_iload3 gi_7_41 ?_
  refine z_pushJ gp_7_42 ?_
  refine z_cV3 gi_7_43 gk_34 go_8 (Nat.le_of_ble_eq_true rfl) gc_8_RIII ?_
  refine z_aload0 gi_8_0 ?_
  refine z_aload0 gi_8_1 ?_
  refine z_getI (v := 1) gi_8_2 gk_34 (zU_e) ?_
  refine z_iload1 gi_8_5 ?_
  refine z_iload2 gi_8_6 ?_
  refine z_iload3 gi_8_7 ?_
  refine z_callVi (As := [_, _, _, _]) (le := [some _, some _, some _, some _, some _, none, none]) gi_8_8 rfl gk_34 (Nat.le_of_ble_eq_true rfl) (Nat.le_of_ble_eq_true rfl) rfl ?_
  refine ah_1_1 (by decide) ?_
  refine z_aload0 gi_9_77 ?_
  refine z_iload6 gi_9_78 ?_
  refine z_callVx (As := [_]) gi_9_80 rfl rfl (Nat.le_of_ble_eq_true rfl) (Nat.le_of_ble_eq_true rfl) (bg_k (n := 0) (m := 1) hR ((zU_x (by decide)).trans ((zU_x (by decide)).trans (zU_e))) (by decide) (by decide)) ?_
  show zW _ _ _ _ _ _ _ _ _ _
  refine z_iload5 gi_9_83 ?_
  refine z_if_neF gi_9_85 zr_0 (by decide) ?_
  refine z_aload0 gi_9_88 ?_
  refine z_iload6 gi_9_89 ?_
  refine z_iload3 gi_9_91 ?_
  refine z_iload4 gi_9_92 ?_
  refine z_pushJ gp_9_94 ?_
  refine z_iadd (e := 1) gi_9_95 rfl ?_
  refine z_callVi (As := [_, _, _]) (le := [some _, some _, some _, some _, none]) gi_9_96 rfl gk_34 (Nat.le_of_ble_eq_true rfl) (Nat.le_of_ble_eq_true rfl) rfl ?_
  refine z_iload1 gi_11_0 ?_
  refine z_swI (tg := 71) gi_11_1 (by decide) (T := [((1 : Int), 44), ((2 : Int), 51), ((10 : Int), 71), ((11 : Int), 81)]) rfl (by decide) ?_
  refine z_aload0 gi_11_71 ?_
  refine z_pushJ gp_11_72 ?_
  refine z_iload2 gi_11_73 ?_
  refine z_iload3 gi_11_74 ?_
  refine z_cV3 gi_11_75 gk_34 go_8 (Nat.le_of_ble_eq_true rfl) gc_8_RIII ?_
  refine z_aload0 gi_8_0 ?_
  refine z_aload0 gi_8_1 ?_
  refine z_getI (v := 1) gi_8_2 gk_34 ((zU_x (by decide)).trans ((zU_n (by decide)).trans (zU_e))) ?_
  refine z_iload1 gi_8_5 ?_
  refine z_iload2 gi_8_6 ?_
  refine z_iload3 gi_8_7 ?_
  refine z_callVi (As := [_, _, _, _]) (le := [some _, some _, some _, some _, some _, none, none]) gi_8_8 rfl gk_34 (Nat.le_of_ble_eq_true rfl) (Nat.le_of_ble_eq_true rfl) rfl ?_
  refine ah_1_0 (by decide) ?_
  refine z_aload0 gi_9_77 ?_
  refine z_iload6 gi_9_78 ?_
  refine z_callVx (As := [_]) gi_9_80 rfl rfl (Nat.le_of_ble_eq_true rfl) (Nat.le_of_ble_eq_true rfl) (bg_k (n := 1) (m := 2) hR (zU_e) (by decide) (by decide)) ?_
  show zW _ _ _ _ _ _ _ _ _ _
  refine z_iload5 gi_9_83 ?_
  refine z_if_neT gi_9_85 zr_1 (by decide) ?_
  refine z_aload0 gi_9_100 ?_
  refine z_iload6 gi_9_101 ?_
  refine z_getS gi_9_103 ?_
  refine z_iload5 gi_9_106 ?_
  refine z_sald (j := 4) (n := 8) (v := 0) gi_9_108 (by decide) rfl (by decide) (by decide) rfl ?_
  refine z_iload3 gi_9_109 ?_
  refine z_iload4 gi_9_110 ?_
  refine z_pushJ gp_9_112 ?_
  refine z_iadd (e := 2) gi_9_113 rfl ?_
  refine z_callVi (As := [_, _, _, _]) (le := [some _, some _, some _, some _, some _, none, none]) gi_9_114 rfl gk_34 (Nat.le_of_ble_eq_true rfl) (Nat.le_of_ble_eq_true rfl) rfl ?_
  refine z_iload1 gi_12_0 ?_
  refine z_swI (tg := 92) gi_12_1 (by decide) (T := [((20 : Int), 92), ((30 : Int), 104), ((40 : Int), 115), ((41 : Int), 127), ((50 : Int), 139), ((60 : Int), 151), ((61 : Int), 174), ((70 : Int), 186), ((80 : Int), 198), ((81 : Int), 221)]) rfl (by decide) ?_
  refine z_aload0 gi_12_92 ?_
  refine z_iload2 gi_12_93 ?_
  refine z_pushJ gp_12_94 ?_
  refine z_iload3 gi_12_95 ?_
  refine z_iload4 gi_12_96 ?_
  refine z_callVi (As := [_, _, _, _]) (le := [some _, some _, some _, some _, some _, none, none]) gi_12_98 rfl gk_34 (Nat.le_of_ble_eq_true rfl) (Nat.le_of_ble_eq_true rfl) rfl ?_
  refine ah_0_0 (by decide) ?_
  refine z_aload0 gi_9_77 ?_
  refine z_iload6 gi_9_78 ?_
  refine z_callVx (As := [_]) gi_9_80 rfl rfl (Nat.le_of_ble_eq_true rfl) (Nat.le_of_ble_eq_true rfl) (bg_k (n := 2) (m := 3) hR (zU_e) (by decide) (by decide)) ?_
  show zW _ _ _ _ _ _ _ _ _ _
  refine z_iload5 gi_9_83 ?_
  refine z_if_neF gi_9_85 zr_0 (by decide) ?_
  refine z_aload0 gi_9_88 ?_
  refine z_iload6 gi_9_89 ?_
  refine z_iload3 gi_9_91 ?_
  refine z_iload4 gi_9_92 ?_
  refine z_pushJ gp_9_94 ?_
  refine z_iadd (e := 3) gi_9_95 rfl ?_
  refine z_callVi (As := [_, _, _]) (le := [some _, some _, some _, some _, none]) gi_9_96 rfl gk_34 (Nat.le_of_ble_eq_true rfl) (Nat.le_of_ble_eq_true rfl) rfl ?_
  refine z_iload1 gi_11_0 ?_
  refine z_swI (tg := 44) gi_11_1 (by decide) (T := [((1 : Int), 44), ((2 : Int), 51), ((10 : Int), 71), ((11 : Int), 81)]) rfl (by decide) ?_
  refine z_iload2 gi_11_44 ?_
  refine z_aload0 gi_11_45 ?_
  refine z_getI (v := b) gi_11_46 gk_34 ((zU_x (by decide)).trans ((zU_n (by decide)).trans ((zU_x (by decide)).trans ((zU_n (by decide)).trans ((zU_x (by decide)).trans ((zU_n (by decide)).trans ((zU_x (by decide)).trans (zU_e)))))))) ?_
  refine z_iadd (e := x + b) gi_11_49 rfl ?_
  refine z_iret gi_11_50 gr_11 ?_
  show zW _ _ _ _ _ _ _ _ _ _
  refine z_iret gi_9_99 gr_9 ?_
  show zW _ _ _ _ _ _ _ _ _ _
  refine z_pushJ gp_12_101 ?_
  refine z_iadd (e := x + b + 3) gi_12_102 rfl ?_
  refine z_iret gi_12_103 gr_12 ?_
  show zW _ _ _ _ _ _ _ _ _ _
  refine z_iret gi_9_117 gr_9 ?_
  show zW _ _ _ _ _ _ _ _ _ _
  refine z_iret gi_8_11 gr_8 ?_
  show zW _ _ _ _ _ _ _ _ _ _
  refine z_pushJ gp_11_78 ?_
  refine z_imul (e := (x + b + 3) * 2) gi_11_79 rfl ?_
  refine z_iret gi_11_80 gr_11 ?_
  show zW _ _ _ _ _ _ _ _ _ _
  refine z_iret gi_9_99 gr_9 ?_
  show zW _ _ _ _ _ _ _ _ _ _
  refine z_iret gi_8_11 gr_8 ?_
  show zW _ _ _ _ _ _ _ _ _ _
  refine z_iret gi_7_46 gr_7 ?_
  show zW _ _ _ _ _ _ _ _ _ _
  refine z_iret gi_134_10 gr_134 ?_
  refine ⟨_, rfl, ?_⟩
  show zW _ _ _ _ [some (.ref 50), some (zi b), some (zi 1), some (zi x)] _ _ _ _ _
  refine z_aload0 gi_246_0 ?_
  refine z_pushJ gp_246_1 ?_
  refine z_putI (y := 56) gi_246_2 rfl gk_50 ?_
  refine z_aload0 gi_246_5 ?_
  refine z_iload1 gi_246_6 ?_
  refine z_cV1 gi_246_7 gk_50 go_230 (Nat.le_of_ble_eq_true rfl) gc_230_RI ?_
  refine z_iload1 gi_230_0 ?_
  refine z_pushJ gp_230_1 ?_
  refine z_aload0 gi_230_2 ?_
  refine z_getI (v := J 34 1) gi_230_3 gk_50 ((zU_x (by decide)).trans ((zU_n (by decide)).trans ((zU_n (by decide)).trans ((zU_n (by decide)).trans ((zU_n (by decide)).trans ((zU_n (by decide)).trans ((zU_n (by decide)).trans ((zU_n (by decide)).trans ((zU_n (by decide)).trans ((zU_n (by decide)).trans (a1.symm))))))))))) ?_
  refine z_pushJ gp_230_6 ?_
  refine z_isub (e := (J 34 1) - 1) gi_230_7 rfl ?_
  refine z_cS3 gi_230_8 (Nat.le_of_ble_eq_true rfl) gc_148_III ?_
  refine z_iload0 gi_148_0 ?_
  refine z_iload1 gi_148_1 ?_
  refine z_icmp_ltF gi_148_2 (by omega) zr_0 (by omega) ?_
  refine z_iload0 gi_148_5 ?_
  refine z_iload2 gi_148_6 ?_
  refine z_icmp_gtF gi_148_7 (by omega) (by omega) (by omega) ?_
  refine z_pushJ gp_148_10 ?_
  refine z_goto gi_148_11 ?_
  refine z_bret1 gi_148_15 gr_148 ?_
  show zW _ _ _ _ _ _ _ _ _ _
  refine z_bret1 gi_230_11 gr_230 ?_
  show zW _ _ _ _ _ _ _ _ _ _
  refine z_if_eqF gi_246_10 zr_1 (by decide) ?_
  refine z_iload2 gi_246_13 ?_
  refine z_pushJ gp_246_14 ?_
  refine z_pushJ gp_246_15 ?_
  refine z_cS3 gi_246_16 (Nat.le_of_ble_eq_true rfl) gc_148_III ?_
  refine z_iload0 gi_148_0 ?_
  refine z_iload1 gi_148_1 ?_
  refine z_icmp_ltF gi_148_2 zr_1 zr_0 (by decide) ?_
  refine z_iload0 gi_148_5 ?_
  refine z_iload2 gi_148_6 ?_
  refine z_icmp_gtF gi_148_7 zr_1 zr_3 (by decide) ?_
  refine z_pushJ gp_148_10 ?_
  refine z_goto gi_148_11 ?_
  refine z_bret1 gi_148_15 gr_148 ?_
  show zW _ _ _ _ _ _ _ _ _ _
  refine z_if_neT gi_246_19 zr_1 (by decide) ?_
  refine z_iload2 gi_246_24 ?_
  refine z_if_neT gi_246_25 zr_1 (by decide) ?_
  refine z_iload2 gi_246_37 ?_
  refine z_pushJ gp_246_38 ?_
  refine z_icmp_neF gi_246_39 zr_1 zr_1 (by decide) ?_
  refine z_aload0 gi_246_42 ?_
  refine z_iload1 gi_246_43 ?_
  refine z_iload3 gi_246_44 ?_
  refine z_callVi (As := [_, _]) (le := [some _, some _, some _, none]) gi_246_45 rfl gk_50 (Nat.le_of_ble_eq_true rfl) (Nat.le_of_ble_eq_true rfl) rfl ?_
  refine z_aload0 gi_240_0 ?_
  refine z_getR (r := 81) gi_240_1 gk_50 (hRr _ rm_50_55 (by decide)) ?_
  refine z_iload1 gi_240_4 ?_
  refine z_iald (v := 1) gi_240_5 gk_81 (by decide) (by omega) ((zU_n (by decide)).trans ((zU_n (by decide)).trans ((zU_n (by decide)).trans ((zU_n (by decide)).trans ((zU_n (by decide)).trans ((zU_n (by decide)).trans ((zU_n (by decide)).trans ((zU_n (by decide)).trans ((zU_n (by decide)).trans ((zU_n (by decide)).trans ((a5 _ hb1.1 hb1.2).1.symm.trans hk))))))))))) ?_
  refine z_pushJ gp_240_6 ?_
  refine z_callSP (As := [_, _]) (v := 0) gi_240_7 rfl (Nat.le_of_ble_eq_true rfl) (Nat.le_of_ble_eq_true rfl) iu_1_3 ?_
  refine z_if_eqT gi_240_10 zr_0 (by decide) ?_
  refine z_aload0 gi_240_28 ?_
  refine z_getR (r := 81) gi_240_29 gk_50 (hRr _ rm_50_55 (by decide)) ?_
  refine z_iload1 gi_240_32 ?_
  refine z_iald (v := 1) gi_240_33 gk_81 (by decide) (by omega) ((zU_n (by decide)).trans ((zU_n (by decide)).trans ((zU_n (by decide)).trans ((zU_n (by decide)).trans ((zU_n (by decide)).trans ((zU_n (by decide)).trans ((zU_n (by decide)).trans ((zU_n (by decide)).trans ((zU_n (by decide)).trans ((zU_n (by decide)).trans ((a5 _ hb1.1 hb1.2).1.symm.trans hk))))))))))) ?_
  refine z_pushJ gp_240_34 ?_
  refine z_icmp_neT gi_240_36 zr_1 zr_7 (by decide) ?_
  refine z_aload0 gi_240_61 ?_
  refine z_getR (r := 81) gi_240_62 gk_50 (hRr _ rm_50_55 (by decide)) ?_
  refine z_iload1 gi_240_65 ?_
  refine z_iald (v := 1) gi_240_66 gk_81 (by decide) (by omega) ((zU_n (by decide)).trans ((zU_n (by decide)).trans ((zU_n (by decide)).trans ((zU_n (by decide)).trans ((zU_n (by decide)).trans ((zU_n (by decide)).trans ((zU_n (by decide)).trans ((zU_n (by decide)).trans ((zU_n (by decide)).trans ((zU_n (by decide)).trans ((a5 _ hb1.1 hb1.2).1.symm.trans hk))))))))))) ?_
  refine z_pushJ gp_240_67 ?_
  refine z_icmp_neT gi_240_68 zr_1 zr_2 (by decide) ?_
  refine z_aload0 gi_240_80 ?_
  refine z_iload1 gi_240_81 ?_
  refine z_iload2 gi_240_82 ?_
  refine z_cV2 gi_240_83 gk_50 go_238 (Nat.le_of_ble_eq_true rfl) gc_238_RII ?_
  refine z_aload0 gi_238_0 ?_
  refine z_pushJ gp_238_1 ?_
  refine z_callVx (As := [_]) gi_238_3 rfl rfl (Nat.le_of_ble_eq_true rfl) (Nat.le_of_ble_eq_true rfl) (rn_k (n := 0) (m := 1) hRr (zU_e) (by decide) (by decide)) ?_
  show zW _ _ _ _ _ _ _ _ _ _
  refine z_aload0 gi_238_6 ?_
  refine z_iload1 gi_238_7 ?_
  refine z_iload2 gi_238_8 ?_
  refine z_cV2 gi_238_9 gk_50 go_237 (Nat.le_of_ble_eq_true rfl) gc_237_RII ?_
  refine z_aload0 gi_237_0 ?_
  refine z_getR (r := 81) gi_237_1 gk_50 (hRr _ rm_50_55 (by decide)) ?_
  refine z_iload1 gi_237_4 ?_
  refine z_iald (v := 1) gi_237_5 gk_81 (by decide) (by omega) ((zU_n (by decide)).trans ((zU_n (by decide)).trans ((zU_n (by decide)).trans ((zU_n (by decide)).trans ((zU_n (by decide)).trans ((zU_n (by decide)).trans ((zU_n (by decide)).trans ((zU_n (by decide)).trans ((zU_n (by decide)).trans ((zU_n (by decide)).trans ((zU_n (by decide)).trans ((zU_n (by decide)).trans ((a5 _ hb1.1 hb1.2).1.symm.trans hk))))))))))))) ?_
  refine z_pushJ gp_237_6 ?_
  refine z_callSP (As := [_, _]) (v := 1) gi_237_7 rfl (Nat.le_of_ble_eq_true rfl) (Nat.le_of_ble_eq_true rfl) iu_1_1 ?_
  refine z_if_eqF gi_237_10 zr_1 (by decide) ?_
  refine z_aload0 gi_237_13 ?_
  refine z_pushJ gp_237_14 ?_
  refine z_callVx (As := [_]) gi_237_16 rfl rfl (Nat.le_of_ble_eq_true rfl) (Nat.le_of_ble_eq_true rfl) (rn_k (n := 1) (m := 2) hRr (zU_e) (by decide) (by decide)) ?_
  show zW _ _ _ _ _ _ _ _ _ _
  refine z_aload0 gi_237_19 ?_
  refine z_iload1 gi_237_20 ?_
  refine z_iload2 gi_237_21 ?_
  refine z_cV2 gi_237_22 gk_50 go_235 (Nat.le_of_ble_eq_true rfl) gc_235_RII ?_
  refine z_aload0 gi_235_0 ?_
  refine z_pushJ gp_235_1 ?_
  refine z_callVx (As := [_]) gi_235_2 rfl rfl (Nat.le_of_ble_eq_true rfl) (Nat.le_of_ble_eq_true rfl) (rn_k (n := 2) (m := 3) hRr (zU_e) (by decide) (by decide)) ?_
  show zW _ _ _ _ _ _ _ _ _ _
  refine z_iload2 gi_235_5 ?_
  refine z_iload1 gi_235_6 ?_
  refine z_iadd (e := x + b) gi_235_7 rfl ?_
  refine z_iret gi_235_8 gr_235 ?_
  show zW _ _ _ _ _ _ _ _ _ _
  refine z_pushJ gp_237_25 ?_
  refine z_iadd (e := x + b + 3) gi_237_26 rfl ?_
  refine z_iret gi_237_27 gr_237 ?_
  show zW _ _ _ _ _ _ _ _ _ _
  refine z_pushJ gp_238_12 ?_
  refine z_imul (e := (x + b + 3) * 2) gi_238_13 rfl ?_
  refine z_iret gi_238_14 gr_238 ?_
  show zW _ _ _ _ _ _ _ _ _ _
  refine z_iret gi_240_86 gr_240 ?_
  show zW _ _ _ _ _ _ _ _ _ _
  refine z_goto gi_246_48 ?_
  refine z_iret gi_246_71 gr_246 ?_
  refine ⟨?_, ?_⟩
  · rfl
  · have hk := (zK_x (a := 50) (x := 56) (v := 3) (zK_x (a := 82) (x := 2) (v := 1) (zK_x (a := 50) (x := 56) (v := 2) (zK_x (a := 82) (x := 1) (v := 20) (zK_x (a := 50) (x := 56) (v := 1) (zK_x (a := 82) (x := 0) (v := 10) (zK_x (a := 50) (x := 56) (v := 0) (zK_x (a := 34) (x := 3) (v := 3) (zK_x (a := 36) (x := 2) (v := 1) (zK_x (a := 34) (x := 3) (v := 2) (zK_x (a := 36) (x := 1) (v := 20) (zK_x (a := 34) (x := 3) (v := 1) (zK_x (a := 36) (x := 0) (v := 10) (zK_x (a := 34) (x := 5) (v := 1) (zK_x (a := 34) (x := 4) (v := b) (zK_x (a := 34) (x := 3) (v := 0) (zK_r (k := (kL [] [(34, 3), (34, 4), (34, 5), (36, 0), (36, 1), (36, 2), (50, 56), (82, 0), (82, 1), (82, 2)])) (A := J)) rfl) rfl) rfl) rfl) rfl) rfl) rfl) rfl) rfl) rfl) rfl) rfl) rfl) rfl) rfl) rfl)
    exact ⟨hR, hG, RelY_k hk (by repeat' constructor) (fun p => by repeat' constructor) hY, RelD_k hk (by repeat' constructor) (fun p => by repeat' constructor) hD, RelP_k hk (by repeat' constructor) (fun p => by repeat' constructor) hP, RelC_k hk (by repeat' constructor) (fun p => by repeat' constructor) hC, ⟨(show J 34 1 = J 50 54 from a1), (show 0 ≤ J 34 1 ∧ J 34 1 ≤ 50 from a2), rfl, (show (0 : Int) ≤ 3 ∧ (3 : Int) ≤ 1000 from by decide), (fun i i1 i2 => a5 i i1 i2), (fun i i1 i2 _ => by have i3 : i < 3 := i2; have q : i = 0 ∨ i = 1 ∨ i = 2 := (by omega); rcases q with rfl | rfl | rfl <;> rfl)⟩, RelS_k hk (zK_r (k := kM)) (fun x j a b => ⟨kL_38 (by decide) (by decide) x j a b, kM_38 x j a b⟩) (fun p => ⟨rfl, rfl, rfl⟩) rfl hS, RelT_k hk (by repeat' constructor) (fun p => by repeat' constructor) hTp, RelX_k hk (by repeat' constructor) (fun p => by repeat' constructor) hX, RelW_k hk ⟨rfl, rfl⟩ trivial hW⟩
theorem st_act_12 {X : Nat × (Nat → Int32)} {d : Nat} {J M : zA} {R : zR} {b x : Int} (hr : Rel X J M R) (hb : -2147483648 ≤ b ∧ b < 2147483648) (hx : -2147483648 ≤ x ∧ x < 2147483648) (hb1 : 0 ≤ b ∧ b < J 34 1) (hk : J 35 b = 1) : zW X (d + 20) 134 0 (gEn 134 [(.ref 0), (zi b), (zi 2), (zi x)]) [] J M R (stP X (d + 20) 246 [(zi b), (zi 2), (zi x)]) := by
  have hr0 := hr
  obtain ⟨hR, hG, hY, hD, hP, hC, hAc, hS, hTp, hX, hW⟩ := hr0
  have hRr : zRoR R := zRoR_of hR
  have hA0 := hAc
  obtain ⟨a1, a2, a3, a4, a5, a6⟩ := hA0
  show zW _ _ _ _ [some (.ref 0), some (zi b), some (zi 2), some (zi x)] _ _ _ _ _
  refine z_aload0 gi_134_0 ?_
  refine z_getR (r := 34) gi_134_1 gk_0 (hR _ rm_0_10) ?_
  refine z_iload1 gi_134_4 ?_
  refine z_iload2 gi_134_5 ?_
  refine z_iload3 gi_134_6 ?_
  refine z_cV3 gi_134_7 gk_34 go_7 (Nat.le_of_ble_eq_true rfl) gc_7_RIII ?_
  refine z_aload0 gi_7_0 ?_
  refine z_pushJ gp_7_1 ?_
  refine z_putI (y := 3) gi_7_2 rfl gk_34 ?_
  refine z_aload0 gi_7_5 ?_
  refine z_iload1 gi_7_6 ?_
  refine z_cV1 gi_7_7 gk_34 go_3 (Nat.le_of_ble_eq_true rfl) gc_3_RI ?_
  refine z_iload1 gi_3_0 ?_
  refine z_if_ltF gi_3_1 (by omega) (by omega) ?_
  refine z_iload1 gi_3_4 ?_
  refine z_aload0 gi_3_5 ?_
  refine z_getI (v := J 34 1) gi_3_6 gk_34 ((zU_x (by decide)).trans (rfl)) ?_
  refine z_icmp_geF gi_3_9 (by omega) (by omega) (by omega) ?_
  refine z_pushJ gp_3_12 ?_
  refine z_goto gi_3_13 ?_
  refine z_bret1 gi_3_17 gr_3 ?_
  show zW _ _ _ _ _ _ _ _ _ _
  refine z_if_eqF gi_7_10 zr_1 (by decide) ?_
  refine z_iload2 gi_7_13 ?_
  refine z_if_ltF gi_7_14 zr_2 (by decide) ?_
  refine z_iload2 gi_7_17 ?_
  refine z_pushJ gp_7_18 ?_
  refine z_icmp_ltT gi_7_19 zr_2 zr_4 (by decide) ?_
  refine z_aload0 gi_7_24 ?_
  refine z_iload1 gi_7_25 ?_
  refine z_putI (y := 4) gi_7_26 rfl gk_34 ?_
  refine z_aload0 gi_7_29 ?_
  refine z_aload0 gi_7_30 ?_
  refine z_getR (r := 35) gi_7_31 gk_34 (hR _ rm_34_0) ?_
  refine z_iload1 gi_7_34 ?_
  refine z_iald (v := 1) gi_7_35 gk_35 (by decide) (by omega) ((zU_n (by decide)).trans ((zU_n (by decide)).trans (hk))) ?_
  refine z_putI (y := 5) gi_7_36 rfl gk_34 ?_
  refine z_aload0 gi_7_39 ?_
  refine z_iload2 gi_7_40 ?_
  refine z_iload3 gi_7_41 ?_
  refine z_pushJ gp_7_42 ?_
  refine z_cV3 gi_7_43 gk_34 go_8 (Nat.le_of_ble_eq_true rfl) gc_8_RIII ?_
  refine z_aload0 gi_8_0 ?_
  refine z_aload0 gi_8_1 ?_
  refine z_getI (v := 1) gi_8_2 gk_34 (zU_e) ?_
  refine z_iload1 gi_8_5 ?_
  refine z_iload2 gi_8_6 ?_
  refine z_iload3 gi_8_7 ?_
  refine z_callVi (As := [_, _, _, _]) (le := [some _, some _, some _, some _, some _, none, none]) gi_8_8 rfl gk_34 (Nat.le_of_ble_eq_true rfl) (Nat.le_of_ble_eq_true rfl) rfl ?_
  refine ah_1_2 (by decide) ?_
  refine z_aload0 gi_9_77 ?_
  refine z_iload6 gi_9_78 ?_
  refine z_callVx (As := [_]) gi_9_80 rfl rfl (Nat.le_of_ble_eq_true rfl) (Nat.le_of_ble_eq_true rfl) (bg_k (n := 0) (m := 1) hR ((zU_x (by decide)).trans ((zU_x (by decide)).trans (zU_e))) (by decide) (by decide)) ?_
  show zW _ _ _ _ _ _ _ _ _ _
  refine z_iload5 gi_9_83 ?_
  refine z_if_neF gi_9_85 zr_0 (by decide) ?_
  refine z_aload0 gi_9_88 ?_
  refine z_iload6 gi_9_89 ?_
  refine z_iload3 gi_9_91 ?_
  refine z_iload4 gi_9_92 ?_
  refine z_pushJ gp_9_94 ?_
  refine z_iadd (e := 1) gi_9_95 rfl ?_
  refine z_callVi (As := [_, _, _]) (le := [some _, some _, some _, some _, none]) gi_9_96 rfl gk_34 (Nat.le_of_ble_eq_true rfl) (Nat.le_of_ble_eq_true rfl) rfl ?_
  refine z_iload1 gi_11_0 ?_
  refine z_swI (tg := 81) gi_11_1 (by decide) (T := [((1 : Int), 44), ((2 : Int), 51), ((10 : Int), 71), ((11 : Int), 81)]) rfl (by decide) ?_
  refine z_iload2 gi_11_81 ?_
  refine z_aload0 gi_11_82 ?_
  refine z_getI (v := b) gi_11_83 gk_34 ((zU_x (by decide)).trans ((zU_n (by decide)).trans ((zU_x (by decide)).trans (zU_e)))) ?_
  refine z_ixor (e := zxor x b) gi_11_86 rfl ?_
  refine z_iret gi_11_87 gr_11 ?_
  show zW _ _ _ _ _ _ _ _ _ _
  refine z_iret gi_9_99 gr_9 ?_
  show zW _ _ _ _ _ _ _ _ _ _
  refine z_iret gi_8_11 gr_8 ?_
  show zW _ _ _ _ _ _ _ _ _ _
  refine z_iret gi_7_46 gr_7 ?_
  show zW _ _ _ _ _ _ _ _ _ _
  refine z_iret gi_134_10 gr_134 ?_
  refine ⟨_, rfl, ?_⟩
  show zW _ _ _ _ [some (.ref 50), some (zi b), some (zi 2), some (zi x)] _ _ _ _ _
  refine z_aload0 gi_246_0 ?_
  refine z_pushJ gp_246_1 ?_
  refine z_putI (y := 56) gi_246_2 rfl gk_50 ?_
  refine z_aload0 gi_246_5 ?_
  refine z_iload1 gi_246_6 ?_
  refine z_cV1 gi_246_7 gk_50 go_230 (Nat.le_of_ble_eq_true rfl) gc_230_RI ?_
  refine z_iload1 gi_230_0 ?_
  refine z_pushJ gp_230_1 ?_
  refine z_aload0 gi_230_2 ?_
  refine z_getI (v := J 34 1) gi_230_3 gk_50 ((zU_x (by decide)).trans ((zU_n (by decide)).trans ((zU_n (by decide)).trans ((zU_n (by decide)).trans ((zU_n (by decide)).trans ((zU_n (by decide)).trans (a1.symm))))))) ?_
  refine z_pushJ gp_230_6 ?_
  refine z_isub (e := (J 34 1) - 1) gi_230_7 rfl ?_
  refine z_cS3 gi_230_8 (Nat.le_of_ble_eq_true rfl) gc_148_III ?_
  refine z_iload0 gi_148_0 ?_
  refine z_iload1 gi_148_1 ?_
  refine z_icmp_ltF gi_148_2 (by omega) zr_0 (by omega) ?_
  refine z_iload0 gi_148_5 ?_
  refine z_iload2 gi_148_6 ?_
  refine z_icmp_gtF gi_148_7 (by omega) (by omega) (by omega) ?_
  refine z_pushJ gp_148_10 ?_
  refine z_goto gi_148_11 ?_
  refine z_bret1 gi_148_15 gr_148 ?_
  show zW _ _ _ _ _ _ _ _ _ _
  refine z_bret1 gi_230_11 gr_230 ?_
  show zW _ _ _ _ _ _ _ _ _ _
  refine z_if_eqF gi_246_10 zr_1 (by decide) ?_
  refine z_iload2 gi_246_13 ?_
  refine z_pushJ gp_246_14 ?_
  refine z_pushJ gp_246_15 ?_
  refine z_cS3 gi_246_16 (Nat.le_of_ble_eq_true rfl) gc_148_III ?_
  refine z_iload0 gi_148_0 ?_
  refine z_iload1 gi_148_1 ?_
  refine z_icmp_ltF gi_148_2 zr_2 zr_0 (by decide) ?_
  refine z_iload0 gi_148_5 ?_
  refine z_iload2 gi_148_6 ?_
  refine z_icmp_gtF gi_148_7 zr_2 zr_3 (by decide) ?_
  refine z_pushJ gp_148_10 ?_
  refine z_goto gi_148_11 ?_
  refine z_bret1 gi_148_15 gr_148 ?_
  show zW _ _ _ _ _ _ _ _ _ _
  refine z_if_neT gi_246_19 zr_1 (by decide) ?_
  refine z_iload2 gi_246_24 ?_
  refine z_if_neT gi_246_25 zr_2 (by decide) ?_
  refine z_iload2 gi_246_37 ?_
  refine z_pushJ gp_246_38 ?_
  refine z_icmp_neT gi_246_39 zr_2 zr_1 (by decide) ?_
  refine z_iload2 gi_246_51 ?_
  refine z_pushJ gp_246_52 ?_
  refine z_icmp_neF gi_246_53 zr_2 zr_2 (by decide) ?_
  refine z_aload0 gi_246_56 ?_
  refine z_iload1 gi_246_57 ?_
  refine z_iload3 gi_246_58 ?_
  refine z_callVi (As := [_, _]) (le := [some _, some _, some _, none]) gi_246_59 rfl gk_50 (Nat.le_of_ble_eq_true rfl) (Nat.le_of_ble_eq_true rfl) rfl ?_
  refine z_aload0 gi_243_0 ?_
  refine z_getR (r := 81) gi_243_1 gk_50 (hRr _ rm_50_55 (by decide)) ?_
  refine z_iload1 gi_243_4 ?_
  refine z_iald (v := 1) gi_243_5 gk_81 (by decide) (by omega) ((zU_n (by decide)).trans ((zU_n (by decide)).trans ((zU_n (by decide)).trans ((zU_n (by decide)).trans ((zU_n (by decide)).trans ((zU_n (by decide)).trans ((a5 _ hb1.1 hb1.2).1.symm.trans hk))))))) ?_
  refine z_pushJ gp_243_6 ?_
  refine z_icmp_neT gi_243_7 zr_1 zr_5 (by decide) ?_
  refine z_aload0 gi_243_32 ?_
  refine z_getR (r := 81) gi_243_33 gk_50 (hRr _ rm_50_55 (by decide)) ?_
  refine z_iload1 gi_243_36 ?_
  refine z_iald (v := 1) gi_243_37 gk_81 (by decide) (by omega) ((zU_n (by decide)).trans ((zU_n (by decide)).trans ((zU_n (by decide)).trans ((zU_n (by decide)).trans ((zU_n (by decide)).trans ((zU_n (by decide)).trans ((a5 _ hb1.1 hb1.2).1.symm.trans hk))))))) ?_
  refine z_pushJ gp_243_38 ?_
  refine z_icmp_neT gi_243_39 zr_1 zr_3 (by decide) ?_
  refine z_aload0 gi_243_51 ?_
  refine z_iload1 gi_243_52 ?_
  refine z_iload2 gi_243_53 ?_
  refine z_cV2 gi_243_54 gk_50 go_241 (Nat.le_of_ble_eq_true rfl) gc_241_RII ?_
  refine z_aload0 gi_241_0 ?_
  refine z_pushJ gp_241_1 ?_
  refine z_callVx (As := [_]) gi_241_3 rfl rfl (Nat.le_of_ble_eq_true rfl) (Nat.le_of_ble_eq_true rfl) (rn_k (n := 0) (m := 1) hRr (zU_e) (by decide) (by decide)) ?_
  show zW _ _ _ _ _ _ _ _ _ _
  refine z_iload2 gi_241_6 ?_
  refine z_iload1 gi_241_7 ?_
  refine z_ixor (e := zxor x b) gi_241_8 rfl ?_
  refine z_iret gi_241_9 gr_241 ?_
  show zW _ _ _ _ _ _ _ _ _ _
  refine z_iret gi_243_57 gr_243 ?_
  show zW _ _ _ _ _ _ _ _ _ _
  refine z_goto gi_246_62 ?_
  refine z_iret gi_246_71 gr_246 ?_
  refine ⟨?_, ?_⟩
  · rfl
  · have hk := (zK_x (a := 50) (x := 56) (v := 1) (zK_x (a := 82) (x := 0) (v := 11) (zK_x (a := 50) (x := 56) (v := 0) (zK_x (a := 34) (x := 3) (v := 1) (zK_x (a := 36) (x := 0) (v := 11) (zK_x (a := 34) (x := 5) (v := 1) (zK_x (a := 34) (x := 4) (v := b) (zK_x (a := 34) (x := 3) (v := 0) (zK_r (k := (kL [] [(34, 3), (34, 4), (34, 5), (36, 0), (50, 56), (82, 0)])) (A := J)) rfl) rfl) rfl) rfl) rfl) rfl) rfl) rfl)
    exact ⟨hR, hG, RelY_k hk (by repeat' constructor) (fun p => by repeat' constructor) hY, RelD_k hk (by repeat' constructor) (fun p => by repeat' constructor) hD, RelP_k hk (by repeat' constructor) (fun p => by repeat' constructor) hP, RelC_k hk (by repeat' constructor) (fun p => by repeat' constructor) hC, ⟨(show J 34 1 = J 50 54 from a1), (show 0 ≤ J 34 1 ∧ J 34 1 ≤ 50 from a2), rfl, (show (0 : Int) ≤ 1 ∧ (1 : Int) ≤ 1000 from by decide), (fun i i1 i2 => a5 i i1 i2), (fun i i1 i2 _ => by have i3 : i < 1 := i2; have q : i = 0 := (by omega); subst q; rfl)⟩, RelS_k hk (zK_r (k := kM)) (fun x j a b => ⟨kL_38 (by decide) (by decide) x j a b, kM_38 x j a b⟩) (fun p => ⟨rfl, rfl, rfl⟩) rfl hS, RelT_k hk (by repeat' constructor) (fun p => by repeat' constructor) hTp, RelX_k hk (by repeat' constructor) (fun p => by repeat' constructor) hX, RelW_k hk ⟨rfl, rfl⟩ trivial hW⟩
theorem st_act_13 {X : Nat × (Nat → Int32)} {d : Nat} {J M : zA} {R : zR} {b x : Int} (hr : Rel X J M R) (hb : -2147483648 ≤ b ∧ b < 2147483648) (hx : -2147483648 ≤ x ∧ x < 2147483648) (hb1 : 0 ≤ b ∧ b < J 34 1) (hk : J 35 b = 1) : zW X (d + 20) 134 0 (gEn 134 [(.ref 0), (zi b), (zi 3), (zi x)]) [] J M R (stP X (d + 20) 246 [(zi b), (zi 3), (zi x)]) := by
  have hr0 := hr
  obtain ⟨hR, hG, hY, hD, hP, hC, hAc, hS, hTp, hX, hW⟩ := hr0
  have hRr : zRoR R := zRoR_of hR
  have hA0 := hAc
  obtain ⟨a1, a2, a3, a4, a5, a6⟩ := hA0
  show zW _ _ _ _ [some (.ref 0), some (zi b), some (zi 3), some (zi x)] _ _ _ _ _
  refine z_aload0 gi_134_0 ?_
  refine z_getR (r := 34) gi_134_1 gk_0 (hR _ rm_0_10) ?_
  refine z_iload1 gi_134_4 ?_
  refine z_iload2 gi_134_5 ?_
  refine z_iload3 gi_134_6 ?_
  refine z_cV3 gi_134_7 gk_34 go_7 (Nat.le_of_ble_eq_true rfl) gc_7_RIII ?_
  refine z_aload0 gi_7_0 ?_
  refine z_pushJ gp_7_1 ?_
  refine z_putI (y := 3) gi_7_2 rfl gk_34 ?_
  refine z_aload0 gi_7_5 ?_
  refine z_iload1 gi_7_6 ?_
  refine z_cV1 gi_7_7 gk_34 go_3 (Nat.le_of_ble_eq_true rfl) gc_3_RI ?_
  refine z_iload1 gi_3_0 ?_
  refine z_if_ltF gi_3_1 (by omega) (by omega) ?_
  refine z_iload1 gi_3_4 ?_
  refine z_aload0 gi_3_5 ?_
  refine z_getI (v := J 34 1) gi_3_6 gk_34 ((zU_x (by decide)).trans (rfl)) ?_
  refine z_icmp_geF gi_3_9 (by omega) (by omega) (by omega) ?_
  refine z_pushJ gp_3_12 ?_
  refine z_goto gi_3_13 ?_
  refine z_bret1 gi_3_17 gr_3 ?_
  show zW _ _ _ _ _ _ _ _ _ _
  refine z_if_eqF gi_7_10 zr_1 (by decide) ?_
  refine z_iload2 gi_7_13 ?_
  refine z_if_ltF gi_7_14 zr_3 (by decide) ?_
  refine z_iload2 gi_7_17 ?_
  refine z_pushJ gp_7_18 ?_
  refine z_icmp_ltT gi_7_19 zr_3 zr_4 (by decide) ?_
  refine z_aload0 gi_7_24 ?_
  refine z_iload1 gi_7_25 ?_
  refine z_putI (y := 4) gi_7_26 rfl gk_34 ?_
  refine z_aload0 gi_7_29 ?_
  refine z_aload0 gi_7_30 ?_
  refine z_getR (r := 35) gi_7_31 gk_34 (hR _ rm_34_0) ?_
  refine z_iload1 gi_7_34 ?_
  refine z_iald (v := 1) gi_7_35 gk_35 (by decide) (by omega) ((zU_n (by decide)).trans ((zU_n (by decide)).trans (hk))) ?_
  refine z_putI (y := 5) gi_7_36 rfl gk_34 ?_
  refine z_aload0 gi_7_39 ?_
  refine z_iload2 gi_7_40 ?_
  refine z_iload3 gi_7_41 ?_
  refine z_pushJ gp_7_42 ?_
  refine z_cV3 gi_7_43 gk_34 go_8 (Nat.le_of_ble_eq_true rfl) gc_8_RIII ?_
  refine z_aload0 gi_8_0 ?_
  refine z_aload0 gi_8_1 ?_
  refine z_getI (v := 1) gi_8_2 gk_34 (zU_e) ?_
  refine z_iload1 gi_8_5 ?_
  refine z_iload2 gi_8_6 ?_
  refine z_iload3 gi_8_7 ?_
  refine z_callVi (As := [_, _, _, _]) (le := [some _, some _, some _, some _, some _, none, none]) gi_8_8 rfl gk_34 (Nat.le_of_ble_eq_true rfl) (Nat.le_of_ble_eq_true rfl) rfl ?_
  refine ah_1_3 (by decide) ?_
  refine z_aload0 gi_9_77 ?_
  refine z_iload6 gi_9_78 ?_
  refine z_callVx (As := [_]) gi_9_80 rfl rfl (Nat.le_of_ble_eq_true rfl) (Nat.le_of_ble_eq_true rfl) (bg_k (n := 0) (m := 1) hR ((zU_x (by decide)).trans ((zU_x (by decide)).trans (zU_e))) (by decide) (by decide)) ?_
  show zW _ _ _ _ _ _ _ _ _ _
  refine z_iload5 gi_9_83 ?_
  refine z_if_neF gi_9_85 zr_0 (by decide) ?_
  refine z_aload0 gi_9_88 ?_
  refine z_iload6 gi_9_89 ?_
  refine z_iload3 gi_9_91 ?_
  refine z_iload4 gi_9_92 ?_
  refine z_pushJ gp_9_94 ?_
  refine z_iadd (e := 1) gi_9_95 rfl ?_
  refine z_callVi (As := [_, _, _]) (le := [some _, some _, some _, some _, none]) gi_9_96 rfl gk_34 (Nat.le_of_ble_eq_true rfl) (Nat.le_of_ble_eq_true rfl) rfl ?_
  refine z_iload1 gi_11_0 ?_
  refine z_swI (tg := 51) gi_11_1 (by decide) (T := [((1 : Int), 44), ((2 : Int), 51), ((10 : Int), 71), ((11 : Int), 81)]) rfl (by decide) ?_
  refine z_aload0 gi_11_51 ?_
  refine z_pushJ gp_11_52 ?_
  refine z_iload2 gi_11_53 ?_
  refine z_iload3 gi_11_54 ?_
  refine z_cV3 gi_11_55 gk_34 go_8 (Nat.le_of_ble_eq_true rfl) gc_8_RIII ?_
  refine z_aload0 gi_8_0 ?_
  refine z_aload0 gi_8_1 ?_
  refine z_getI (v := 1) gi_8_2 gk_34 ((zU_x (by decide)).trans ((zU_n (by decide)).trans (zU_e))) ?_
  refine z_iload1 gi_8_5 ?_
  refine z_iload2 gi_8_6 ?_
  refine z_iload3 gi_8_7 ?_
  refine z_callVi (As := [_, _, _, _]) (le := [some _, some _, some _, some _, some _, none, none]) gi_8_8 rfl gk_34 (Nat.le_of_ble_eq_true rfl) (Nat.le_of_ble_eq_true rfl) rfl ?_
  refine ah_1_1 (by decide) ?_
  refine z_aload0 gi_9_77 ?_
  refine z_iload6 gi_9_78 ?_
  refine z_callVx (As := [_]) gi_9_80 rfl rfl (Nat.le_of_ble_eq_true rfl) (Nat.le_of_ble_eq_true rfl) (bg_k (n := 1) (m := 2) hR (zU_e) (by decide) (by decide)) ?_
  show zW _ _ _ _ _ _ _ _ _ _
  refine z_iload5 gi_9_83 ?_
  refine z_if_neF gi_9_85 zr_0 (by decide) ?_
  refine z_aload0 gi_9_88 ?_
  refine z_iload6 gi_9_89 ?_
  refine z_iload3 gi_9_91 ?_
  refine z_iload4 gi_9_92 ?_
  refine z_pushJ gp_9_94 ?_
  refine z_iadd (e := 2) gi_9_95 rfl ?_
  refine z_callVi (As := [_, _, _]) (le := [some _, some _, some _, some _, none]) gi_9_96 rfl gk_34 (Nat.le_of_ble_eq_true rfl) (Nat.le_of_ble_eq_true rfl) rfl ?_
  refine z_iload1 gi_11_0 ?_
  refine z_swI (tg := 71) gi_11_1 (by decide) (T := [((1 : Int), 44), ((2 : Int), 51), ((10 : Int), 71), ((11 : Int), 81)]) rfl (by decide) ?_
  refine z_aload0 gi_11_71 ?_
  refine z_pushJ gp_11_72 ?_
  refine z_iload2 gi_11_73 ?_
  refine z_iload3 gi_11_74 ?_
  refine z_cV3 gi_11_75 gk_34 go_8 (Nat.le_of_ble_eq_true rfl) gc_8_RIII ?_
  refine z_aload0 gi_8_0 ?_
  refine z_aload0 gi_8_1 ?_
  refine z_getI (v := 1) gi_8_2 gk_34 ((zU_x (by decide)).trans ((zU_n (by decide)).trans ((zU_x (by decide)).trans ((zU_n (by decide)).trans (zU_e))))) ?_
  refine z_iload1 gi_8_5 ?_
  refine z_iload2 gi_8_6 ?_
  refine z_iload3 gi_8_7 ?_
  refine z_callVi (As := [_, _, _, _]) (le := [some _, some _, some _, some _, some _, none, none]) gi_8_8 rfl gk_34 (Nat.le_of_ble_eq_true rfl) (Nat.le_of_ble_eq_true rfl) rfl ?_
  refine ah_1_0 (by decide) ?_
  refine z_aload0 gi_9_77 ?_
  refine z_iload6 gi_9_78 ?_
  refine z_callVx (As := [_]) gi_9_80 rfl rfl (Nat.le_of_ble_eq_true rfl) (Nat.le_of_ble_eq_true rfl) (bg_k (n := 2) (m := 3) hR (zU_e) (by decide) (by decide)) ?_
  show zW _ _ _ _ _ _ _ _ _ _
  refine z_iload5 gi_9_83 ?_
  refine z_if_neT gi_9_85 zr_1 (by decide) ?_
  refine z_aload0 gi_9_100 ?_
  refine z_iload6 gi_9_101 ?_
  refine z_getS gi_9_103 ?_
  refine z_iload5 gi_9_106 ?_
  refine z_sald (j := 4) (n := 8) (v := 0) gi_9_108 (by decide) rfl (by decide) (by decide) rfl ?_
  refine z_iload3 gi_9_109 ?_
  refine z_iload4 gi_9_110 ?_
  refine z_pushJ gp_9_112 ?_
  refine z_iadd (e := 3) gi_9_113 rfl ?_
  refine z_callVi (As := [_, _, _, _]) (le := [some _, some _, some _, some _, some _, none, none]) gi_9_114 rfl gk_34 (Nat.le_of_ble_eq_true rfl) (Nat.le_of_ble_eq_true rfl) rfl ?_
  refine z_iload1 gi_12_0 ?_
  refine z_swI (tg := 92) gi_12_1 (by decide) (T := [((20 : Int), 92), ((30 : Int), 104), ((40 : Int), 115), ((41 : Int), 127), ((50 : Int), 139), ((60 : Int), 151), ((61 : Int), 174), ((70 : Int), 186), ((80 : Int), 198), ((81 : Int), 221)]) rfl (by decide) ?_
  refine z_aload0 gi_12_92 ?_
  refine z_iload2 gi_12_93 ?_
  refine z_pushJ gp_12_94 ?_
  refine z_iload3 gi_12_95 ?_
  refine z_iload4 gi_12_96 ?_
  refine z_callVi (As := [_, _, _, _]) (le := [some _, some _, some _, some _, some _, none, none]) gi_12_98 rfl gk_34 (Nat.le_of_ble_eq_true rfl) (Nat.le_of_ble_eq_true rfl) rfl ?_
  refine ah_0_0 (by decide) ?_
  refine z_aload0 gi_9_77 ?_
  refine z_iload6 gi_9_78 ?_
  refine z_callVx (As := [_]) gi_9_80 rfl rfl (Nat.le_of_ble_eq_true rfl) (Nat.le_of_ble_eq_true rfl) (bg_k (n := 3) (m := 4) hR (zU_e) (by decide) (by decide)) ?_
  show zW _ _ _ _ _ _ _ _ _ _
  refine z_iload5 gi_9_83 ?_
  refine z_if_neF gi_9_85 zr_0 (by decide) ?_
  refine z_aload0 gi_9_88 ?_
  refine z_iload6 gi_9_89 ?_
  refine z_iload3 gi_9_91 ?_
  refine z_iload4 gi_9_92 ?_
  refine z_pushJ gp_9_94 ?_
  refine z_iadd (e := 4) gi_9_95 rfl ?_
  refine z_callVi (As := [_, _, _]) (le := [some _, some _, some _, some _, none]) gi_9_96 rfl gk_34 (Nat.le_of_ble_eq_true rfl) (Nat.le_of_ble_eq_true rfl) rfl ?_
  refine z_iload1 gi_11_0 ?_
  refine z_swI (tg := 44) gi_11_1 (by decide) (T := [((1 : Int), 44), ((2 : Int), 51), ((10 : Int), 71), ((11 : Int), 81)]) rfl (by decide) ?_
  refine z_iload2 gi_11_44 ?_
  refine z_aload0 gi_11_45 ?_
  refine z_getI (v := b) gi_11_46 gk_34 ((zU_x (by decide)).trans ((zU_n (by decide)).trans ((zU_x (by decide)).trans ((zU_n (by decide)).trans ((zU_x (by decide)).trans ((zU_n (by decide)).trans ((zU_x (by decide)).trans ((zU_n (by decide)).trans ((zU_x (by decide)).trans (zU_e)))))))))) ?_
  refine z_iadd (e := x + b) gi_11_49 rfl ?_
  refine z_iret gi_11_50 gr_11 ?_
  show zW _ _ _ _ _ _ _ _ _ _
  refine z_iret gi_9_99 gr_9 ?_
  show zW _ _ _ _ _ _ _ _ _ _
  refine z_pushJ gp_12_101 ?_
  refine z_iadd (e := x + b + 3) gi_12_102 rfl ?_
  refine z_iret gi_12_103 gr_12 ?_
  show zW _ _ _ _ _ _ _ _ _ _
  refine z_iret gi_9_117 gr_9 ?_
  show zW _ _ _ _ _ _ _ _ _ _
  refine z_iret gi_8_11 gr_8 ?_
  show zW _ _ _ _ _ _ _ _ _ _
  refine z_pushJ gp_11_78 ?_
  refine z_imul (e := (x + b + 3) * 2) gi_11_79 rfl ?_
  refine z_iret gi_11_80 gr_11 ?_
  show zW _ _ _ _ _ _ _ _ _ _
  refine z_iret gi_9_99 gr_9 ?_
  show zW _ _ _ _ _ _ _ _ _ _
  refine z_iret gi_8_11 gr_8 ?_
  show zW _ _ _ _ _ _ _ _ _ _
  refine z_istore (ls1 := [some (.ref 34), some (zi 2), some (zi x), some (zi 1), some (zi ((x + b + 3) * 2))]) gi_11_58 rfl ?_
  refine z_iload4 gi_11_60 ?_
  refine z_aload0 gi_11_62 ?_
  refine z_pushJ gp_11_63 ?_
  refine z_pushJ gp_11_64 ?_
  refine z_iload3 gi_11_65 ?_
  refine z_cV3 gi_11_66 gk_34 go_8 (Nat.le_of_ble_eq_true rfl) gc_8_RIII ?_
  refine z_aload0 gi_8_0 ?_
  refine z_aload0 gi_8_1 ?_
  refine z_getI (v := 1) gi_8_2 gk_34 ((zU_x (by decide)).trans ((zU_n (by decide)).trans ((zU_x (by decide)).trans ((zU_n (by decide)).trans ((zU_x (by decide)).trans ((zU_n (by decide)).trans ((zU_x (by decide)).trans ((zU_n (by decide)).trans (zU_e))))))))) ?_
  refine z_iload1 gi_8_5 ?_
  refine z_iload2 gi_8_6 ?_
  refine z_iload3 gi_8_7 ?_
  refine z_callVi (As := [_, _, _, _]) (le := [some _, some _, some _, some _, some _, none, none]) gi_8_8 rfl gk_34 (Nat.le_of_ble_eq_true rfl) (Nat.le_of_ble_eq_true rfl) rfl ?_
  refine ah_1_2 (by decide) ?_
  refine z_aload0 gi_9_77 ?_
  refine z_iload6 gi_9_78 ?_
  refine z_callVx (As := [_]) gi_9_80 rfl rfl (Nat.le_of_ble_eq_true rfl) (Nat.le_of_ble_eq_true rfl) (bg_k (n := 4) (m := 5) hR (zU_e) (by decide) (by decide)) ?_
  show zW _ _ _ _ _ _ _ _ _ _
  refine z_iload5 gi_9_83 ?_
  refine z_if_neF gi_9_85 zr_0 (by decide) ?_
  refine z_aload0 gi_9_88 ?_
  refine z_iload6 gi_9_89 ?_
  refine z_iload3 gi_9_91 ?_
  refine z_iload4 gi_9_92 ?_
  refine z_pushJ gp_9_94 ?_
  refine z_iadd (e := 2) gi_9_95 rfl ?_
  refine z_callVi (As := [_, _, _]) (le := [some _, some _, some _, some _, none]) gi_9_96 rfl gk_34 (Nat.le_of_ble_eq_true rfl) (Nat.le_of_ble_eq_true rfl) rfl ?_
  refine z_iload1 gi_11_0 ?_
  refine z_swI (tg := 81) gi_11_1 (by decide) (T := [((1 : Int), 44), ((2 : Int), 51), ((10 : Int), 71), ((11 : Int), 81)]) rfl (by decide) ?_
  refine z_iload2 gi_11_81 ?_
  refine z_aload0 gi_11_82 ?_
  refine z_getI (v := b) gi_11_83 gk_34 ((zU_x (by decide)).trans ((zU_n (by decide)).trans ((zU_x (by decide)).trans ((zU_n (by decide)).trans ((zU_x (by decide)).trans ((zU_n (by decide)).trans ((zU_x (by decide)).trans ((zU_n (by decide)).trans ((zU_x (by decide)).trans ((zU_n (by decide)).trans ((zU_x (by decide)).trans (zU_e)))))))))))) ?_
  refine z_ixor (e := zxor 1 b) gi_11_86 rfl ?_
  refine z_iret gi_11_87 gr_11 ?_
  show zW _ _ _ _ _ _ _ _ _ _
  refine z_iret gi_9_99 gr_9 ?_
  show zW _ _ _ _ _ _ _ _ _ _
  refine z_iret gi_8_11 gr_8 ?_
  show zW _ _ _ _ _ _ _ _ _ _
  refine z_isub (e := (x + b + 3) * 2 - (zxor 1 b)) gi_11_69 rfl ?_
  refine z_iret gi_11_70 gr_11 ?_
  show zW _ _ _ _ _ _ _ _ _ _
  refine z_iret gi_9_99 gr_9 ?_
  show zW _ _ _ _ _ _ _ _ _ _
  refine z_iret gi_8_11 gr_8 ?_
  show zW _ _ _ _ _ _ _ _ _ _
  refine z_iret gi_7_46 gr_7 ?_
  show zW _ _ _ _ _ _ _ _ _ _
  refine z_iret gi_134_10 gr_134 ?_
  refine ⟨_, rfl, ?_⟩
  show zW _ _ _ _ [some (.ref 50), some (zi b), some (zi 3), some (zi x)] _ _ _ _ _
  refine z_aload0 gi_246_0 ?_
  refine z_pushJ gp_246_1 ?_
  refine z_putI (y := 56) gi_246_2 rfl gk_50 ?_
  refine z_aload0 gi_246_5 ?_
  refine z_iload1 gi_246_6 ?_
  refine z_cV1 gi_246_7 gk_50 go_230 (Nat.le_of_ble_eq_true rfl) gc_230_RI ?_
  refine z_iload1 gi_230_0 ?_
  refine z_pushJ gp_230_1 ?_
  refine z_aload0 gi_230_2 ?_
  refine z_getI (v := J 34 1) gi_230_3 gk_50 ((zU_x (by decide)).trans ((zU_n (by decide)).trans ((zU_n (by decide)).trans ((zU_n (by decide)).trans ((zU_n (by decide)).trans ((zU_n (by decide)).trans ((zU_n (by decide)).trans ((zU_n (by decide)).trans ((zU_n (by decide)).trans ((zU_n (by decide)).trans ((zU_n (by decide)).trans ((zU_n (by decide)).trans ((zU_n (by decide)).trans ((zU_n (by decide)).trans (a1.symm))))))))))))))) ?_
  refine z_pushJ gp_230_6 ?_
  refine z_isub (e := (J 34 1) - 1) gi_230_7 rfl ?_
  refine z_cS3 gi_230_8 (Nat.le_of_ble_eq_true rfl) gc_148_III ?_
  refine z_iload0 gi_148_0 ?_
  refine z_iload1 gi_148_1 ?_
  refine z_icmp_ltF gi_148_2 (by omega) zr_0 (by omega) ?_
  refine z_iload0 gi_148_5 ?_
  refine z_iload2 gi_148_6 ?_
  refine z_icmp_gtF gi_148_7 (by omega) (by omega) (by omega) ?_
  refine z_pushJ gp_148_10 ?_
  refine z_goto gi_148_11 ?_
  refine z_bret1 gi_148_15 gr_148 ?_
  show zW _ _ _ _ _ _ _ _ _ _
  refine z_bret1 gi_230_11 gr_230 ?_
  show zW _ _ _ _ _ _ _ _ _ _
  refine z_if_eqF gi_246_10 zr_1 (by decide) ?_
  refine z_iload2 gi_246_13 ?_
  refine z_pushJ gp_246_14 ?_
  refine z_pushJ gp_246_15 ?_
  refine z_cS3 gi_246_16 (Nat.le_of_ble_eq_true rfl) gc_148_III ?_
  refine z_iload0 gi_148_0 ?_
  refine z_iload1 gi_148_1 ?_
  refine z_icmp_ltF gi_148_2 zr_3 zr_0 (by decide) ?_
  refine z_iload0 gi_148_5 ?_
  refine z_iload2 gi_148_6 ?_
  refine z_icmp_gtF gi_148_7 zr_3 zr_3 (by decide) ?_
  refine z_pushJ gp_148_10 ?_
  refine z_goto gi_148_11 ?_
  refine z_bret1 gi_148_15 gr_148 ?_
  show zW _ _ _ _ _ _ _ _ _ _
  refine z_if_neT gi_246_19 zr_1 (by decide) ?_
  refine z_iload2 gi_246_24 ?_
  refine z_if_neT gi_246_25 zr_3 (by decide) ?_
  refine z_iload2 gi_246_37 ?_
  refine z_pushJ gp_246_38 ?_
  refine z_icmp_neT gi_246_39 zr_3 zr_1 (by decide) ?_
  refine z_iload2 gi_246_51 ?_
  refine z_pushJ gp_246_52 ?_
  refine z_icmp_neT gi_246_53 zr_3 zr_2 (by decide) ?_
  refine z_aload0 gi_246_65 ?_
  refine z_iload1 gi_246_66 ?_
  refine z_iload3 gi_246_67 ?_
  refine z_cV2 gi_246_68 gk_50 go_245 (Nat.le_of_ble_eq_true rfl) gc_245_RII ?_
  refine z_aload0 gi_245_0 ?_
  refine z_getR (r := 81) gi_245_1 gk_50 (hRr _ rm_50_55 (by decide)) ?_
  refine z_iload1 gi_245_4 ?_
  refine z_iald (v := 1) gi_245_5 gk_81 (by decide) (by omega) ((zU_n (by decide)).trans ((zU_n (by decide)).trans ((zU_n (by decide)).trans ((zU_n (by decide)).trans ((zU_n (by decide)).trans ((zU_n (by decide)).trans ((zU_n (by decide)).trans ((zU_n (by decide)).trans ((zU_n (by decide)).trans ((zU_n (by decide)).trans ((zU_n (by decide)).trans ((zU_n (by decide)).trans ((zU_n (by decide)).trans ((zU_n (by decide)).trans ((a5 _ hb1.1 hb1.2).1.symm.trans hk))))))))))))))) ?_
  refine z_pushJ gp_245_6 ?_
  refine z_icmp_neT gi_245_7 zr_1 zr_4 (by decide) ?_
  refine z_aload0 gi_245_25 ?_
  refine z_getR (r := 81) gi_245_26 gk_50 (hRr _ rm_50_55 (by decide)) ?_
  refine z_iload1 gi_245_29 ?_
  refine z_iald (v := 1) gi_245_30 gk_81 (by decide) (by omega) ((zU_n (by decide)).trans ((zU_n (by decide)).trans ((zU_n (by decide)).trans ((zU_n (by decide)).trans ((zU_n (by decide)).trans ((zU_n (by decide)).trans ((zU_n (by decide)).trans ((zU_n (by decide)).trans ((zU_n (by decide)).trans ((zU_n (by decide)).trans ((zU_n (by decide)).trans ((zU_n (by decide)).trans ((zU_n (by decide)).trans ((zU_n (by decide)).trans ((a5 _ hb1.1 hb1.2).1.symm.trans hk))))))))))))))) ?_
  refine z_pushJ gp_245_31 ?_
  refine z_icmp_neT gi_245_32 zr_1 zr_5 (by decide) ?_
  refine z_aload0 gi_245_50 ?_
  refine z_iload1 gi_245_51 ?_
  refine z_iload2 gi_245_52 ?_
  refine z_callVi (As := [_, _]) (le := [some _, some _, some _, none]) gi_245_53 rfl gk_50 (Nat.le_of_ble_eq_true rfl) (Nat.le_of_ble_eq_true rfl) rfl ?_
  refine z_aload0 gi_244_0 ?_
  refine z_pushJ gp_244_1 ?_
  refine z_callVx (As := [_]) gi_244_2 rfl rfl (Nat.le_of_ble_eq_true rfl) (Nat.le_of_ble_eq_true rfl) (rn_k (n := 0) (m := 1) hRr (zU_e) (by decide) (by decide)) ?_
  show zW _ _ _ _ _ _ _ _ _ _
  refine z_aload0 gi_244_5 ?_
  refine z_iload1 gi_244_6 ?_
  refine z_iload2 gi_244_7 ?_
  refine z_callVi (As := [_, _]) (le := [some _, some _, some _, none]) gi_244_8 rfl gk_50 (Nat.le_of_ble_eq_true rfl) (Nat.le_of_ble_eq_true rfl) rfl ?_
  refine z_aload0 gi_240_0 ?_
  refine z_getR (r := 81) gi_240_1 gk_50 (hRr _ rm_50_55 (by decide)) ?_
  refine z_iload1 gi_240_4 ?_
  refine z_iald (v := 1) gi_240_5 gk_81 (by decide) (by omega) ((zU_n (by decide)).trans ((zU_n (by decide)).trans ((zU_n (by decide)).trans ((zU_n (by decide)).trans ((zU_n (by decide)).trans ((zU_n (by decide)).trans ((zU_n (by decide)).trans ((zU_n (by decide)).trans ((zU_n (by decide)).trans ((zU_n (by decide)).trans ((zU_n (by decide)).trans ((zU_n (by decide)).trans ((zU_n (by decide)).trans ((zU_n (by decide)).trans ((zU_n (by decide)).trans ((zU_n (by decide)).trans ((a5 _ hb1.1 hb1.2).1.symm.trans hk))))))))))))))))) ?_
  refine z_pushJ gp_240_6 ?_
  refine z_callSP (As := [_, _]) (v := 0) gi_240_7 rfl (Nat.le_of_ble_eq_true rfl) (Nat.le_of_ble_eq_true rfl) iu_1_3 ?_
  refine z_if_eqT gi_240_10 zr_0 (by decide) ?_
  refine z_aload0 gi_240_28 ?_
  refine z_getR (r := 81) gi_240_29 gk_50 (hRr _ rm_50_55 (by decide)) ?_
  refine z_iload1 gi_240_32 ?_
  refine z_iald (v := 1) gi_240_33 gk_81 (by decide) (by omega) ((zU_n (by decide)).trans ((zU_n (by decide)).trans ((zU_n (by decide)).trans ((zU_n (by decide)).trans ((zU_n (by decide)).trans ((zU_n (by decide)).trans ((zU_n (by decide)).trans ((zU_n (by decide)).trans ((zU_n (by decide)).trans ((zU_n (by decide)).trans ((zU_n (by decide)).trans ((zU_n (by decide)).trans ((zU_n (by decide)).trans ((zU_n (by decide)).trans ((zU_n (by decide)).trans ((zU_n (by decide)).trans ((a5 _ hb1.1 hb1.2).1.symm.trans hk))))))))))))))))) ?_
  refine z_pushJ gp_240_34 ?_
  refine z_icmp_neT gi_240_36 zr_1 zr_7 (by decide) ?_
  refine z_aload0 gi_240_61 ?_
  refine z_getR (r := 81) gi_240_62 gk_50 (hRr _ rm_50_55 (by decide)) ?_
  refine z_iload1 gi_240_65 ?_
  refine z_iald (v := 1) gi_240_66 gk_81 (by decide) (by omega) ((zU_n (by decide)).trans ((zU_n (by decide)).trans ((zU_n (by decide)).trans ((zU_n (by decide)).trans ((zU_n (by decide)).trans ((zU_n (by decide)).trans ((zU_n (by decide)).trans ((zU_n (by decide)).trans ((zU_n (by decide)).trans ((zU_n (by decide)).trans ((zU_n (by decide)).trans ((zU_n (by decide)).trans ((zU_n (by decide)).trans ((zU_n (by decide)).trans ((zU_n (by decide)).trans ((zU_n (by decide)).trans ((a5 _ hb1.1 hb1.2).1.symm.trans hk))))))))))))))))) ?_
  refine z_pushJ gp_240_67 ?_
  refine z_icmp_neT gi_240_68 zr_1 zr_2 (by decide) ?_
  refine z_aload0 gi_240_80 ?_
  refine z_iload1 gi_240_81 ?_
  refine z_iload2 gi_240_82 ?_
  refine z_cV2 gi_240_83 gk_50 go_238 (Nat.le_of_ble_eq_true rfl) gc_238_RII ?_
  refine z_aload0 gi_238_0 ?_
  refine z_pushJ gp_238_1 ?_
  refine z_callVx (As := [_]) gi_238_3 rfl rfl (Nat.le_of_ble_eq_true rfl) (Nat.le_of_ble_eq_true rfl) (rn_k (n := 1) (m := 2) hRr (zU_e) (by decide) (by decide)) ?_
  show zW _ _ _ _ _ _ _ _ _ _
  refine z_aload0 gi_238_6 ?_
  refine z_iload1 gi_238_7 ?_
  refine z_iload2 gi_238_8 ?_
  refine z_cV2 gi_238_9 gk_50 go_237 (Nat.le_of_ble_eq_true rfl) gc_237_RII ?_
  refine z_aload0 gi_237_0 ?_
  refine z_getR (r := 81) gi_237_1 gk_50 (hRr _ rm_50_55 (by decide)) ?_
  refine z_iload1 gi_237_4 ?_
  refine z_iald (v := 1) gi_237_5 gk_81 (by decide) (by omega) ((zU_n (by decide)).trans ((zU_n (by decide)).trans ((zU_n (by decide)).trans ((zU_n (by decide)).trans ((zU_n (by decide)).trans ((zU_n (by decide)).trans ((zU_n (by decide)).trans ((zU_n (by decide)).trans ((zU_n (by decide)).trans ((zU_n (by decide)).trans ((zU_n (by decide)).trans ((zU_n (by decide)).trans ((zU_n (by decide)).trans ((zU_n (by decide)).trans ((zU_n (by decide)).trans ((zU_n (by decide)).trans ((zU_n (by decide)).trans ((zU_n (by decide)).trans ((a5 _ hb1.1 hb1.2).1.symm.trans hk))))))))))))))))))) ?_
  refine z_pushJ gp_237_6 ?_
  refine z_callSP (As := [_, _]) (v := 1) gi_237_7 rfl (Nat.le_of_ble_eq_true rfl) (Nat.le_of_ble_eq_true rfl) iu_1_1 ?_
  refine z_if_eqF gi_237_10 zr_1 (by decide) ?_
  refine z_aload0 gi_237_13 ?_
  refine z_pushJ gp_237_14 ?_
  refine z_callVx (As := [_]) gi_237_16 rfl rfl (Nat.le_of_ble_eq_true rfl) (Nat.le_of_ble_eq_true rfl) (rn_k (n := 2) (m := 3) hRr (zU_e) (by decide) (by decide)) ?_
  show zW _ _ _ _ _ _ _ _ _ _
  refine z_aload0 gi_237_19 ?_
  refine z_iload1 gi_237_20 ?_
  refine z_iload2 gi_237_21 ?_
  refine z_cV2 gi_237_22 gk_50 go_235 (Nat.le_of_ble_eq_true rfl) gc_235_RII ?_
  refine z_aload0 gi_235_0 ?_
  refine z_pushJ gp_235_1 ?_
  refine z_callVx (As := [_]) gi_235_2 rfl rfl (Nat.le_of_ble_eq_true rfl) (Nat.le_of_ble_eq_true rfl) (rn_k (n := 3) (m := 4) hRr (zU_e) (by decide) (by decide)) ?_
  show zW _ _ _ _ _ _ _ _ _ _
  refine z_iload2 gi_235_5 ?_
  refine z_iload1 gi_235_6 ?_
  refine z_iadd (e := x + b) gi_235_7 rfl ?_
  refine z_iret gi_235_8 gr_235 ?_
  show zW _ _ _ _ _ _ _ _ _ _
  refine z_pushJ gp_237_25 ?_
  refine z_iadd (e := x + b + 3) gi_237_26 rfl ?_
  refine z_iret gi_237_27 gr_237 ?_
  show zW _ _ _ _ _ _ _ _ _ _
  refine z_pushJ gp_238_12 ?_
  refine z_imul (e := (x + b + 3) * 2) gi_238_13 rfl ?_
  refine z_iret gi_238_14 gr_238 ?_
  show zW _ _ _ _ _ _ _ _ _ _
  refine z_iret gi_240_86 gr_240 ?_
  show zW _ _ _ _ _ _ _ _ _ _
  refine z_istore (ls1 := [some (.ref 50), some (zi b), some (zi x), some (zi ((x + b + 3) * 2))]) gi_244_11 rfl ?_
  refine z_iload3 gi_244_12 ?_
  refine z_aload0 gi_244_13 ?_
  refine z_iload1 gi_244_14 ?_
  refine z_pushJ gp_244_15 ?_
  refine z_callVi (As := [_, _]) (le := [some _, some _, some _, none]) gi_244_16 rfl gk_50 (Nat.le_of_ble_eq_true rfl) (Nat.le_of_ble_eq_true rfl) rfl ?_
  refine z_aload0 gi_243_0 ?_
  refine z_getR (r := 81) gi_243_1 gk_50 (hRr _ rm_50_55 (by decide)) ?_
  refine z_iload1 gi_243_4 ?_
  refine z_iald (v := 1) gi_243_5 gk_81 (by decide) (by omega) ((zU_n (by decide)).trans ((zU_n (by decide)).trans ((zU_n (by decide)).trans ((zU_n (by decide)).trans ((zU_n (by decide)).trans ((zU_n (by decide)).trans ((zU_n (by decide)).trans ((zU_n (by decide)).trans ((zU_n (by decide)).trans ((zU_n (by decide)).trans ((zU_n (by decide)).trans ((zU_n (by decide)).trans ((zU_n (by decide)).trans ((zU_n (by decide)).trans ((zU_n (by decide)).trans ((zU_n (by decide)).trans ((zU_n (by decide)).trans ((zU_n (by decide)).trans ((zU_n (by decide)).trans ((zU_n (by decide)).trans ((zU_n (by decide)).trans ((zU_n (by decide)).trans ((a5 _ hb1.1 hb1.2).1.symm.trans hk))))))))))))))))))))))) ?_
  refine z_pushJ gp_243_6 ?_
  refine z_icmp_neT gi_243_7 zr_1 zr_5 (by decide) ?_
  refine z_aload0 gi_243_32 ?_
  refine z_getR (r := 81) gi_243_33 gk_50 (hRr _ rm_50_55 (by decide)) ?_
  refine z_iload1 gi_243_36 ?_
  refine z_iald (v := 1) gi_243_37 gk_81 (by decide) (by omega) ((zU_n (by decide)).trans ((zU_n (by decide)).trans ((zU_n (by decide)).trans ((zU_n (by decide)).trans ((zU_n (by decide)).trans ((zU_n (by decide)).trans ((zU_n (by decide)).trans ((zU_n (by decide)).trans ((zU_n (by decide)).trans ((zU_n (by decide)).trans ((zU_n (by decide)).trans ((zU_n (by decide)).trans ((zU_n (by decide)).trans ((zU_n (by decide)).trans ((zU_n (by decide)).trans ((zU_n (by decide)).trans ((zU_n (by decide)).trans ((zU_n (by decide)).trans ((zU_n (by decide)).trans ((zU_n (by decide)).trans ((zU_n (by decide)).trans ((zU_n (by decide)).trans ((a5 _ hb1.1 hb1.2).1.symm.trans hk))))))))))))))))))))))) ?_
  refine z_pushJ gp_243_38 ?_
  refine z_icmp_neT gi_243_39 zr_1 zr_3 (by decide) ?_
  refine z_aload0 gi_243_51 ?_
  refine z_iload1 gi_243_52 ?_
  refine z_iload2 gi_243_53 ?_
  refine z_cV2 gi_243_54 gk_50 go_241 (Nat.le_of_ble_eq_true rfl) gc_241_RII ?_
  refine z_aload0 gi_241_0 ?_
  refine z_pushJ gp_241_1 ?_
  refine z_callVx (As := [_]) gi_241_3 rfl rfl (Nat.le_of_ble_eq_true rfl) (Nat.le_of_ble_eq_true rfl) (rn_k (n := 4) (m := 5) hRr (zU_e) (by decide) (by decide)) ?_
  show zW _ _ _ _ _ _ _ _ _ _
  refine z_iload2 gi_241_6 ?_
  refine z_iload1 gi_241_7 ?_
  refine z_ixor (e := zxor 1 b) gi_241_8 rfl ?_
  refine z_iret gi_241_9 gr_241 ?_
  show zW _ _ _ _ _ _ _ _ _ _
  refine z_iret gi_243_57 gr_243 ?_
  show zW _ _ _ _ _ _ _ _ _ _
  refine z_isub (e := (x + b + 3) * 2 - (zxor 1 b)) gi_244_19 rfl ?_
  refine z_iret gi_244_20 gr_244 ?_
  show zW _ _ _ _ _ _ _ _ _ _
  refine z_iret gi_245_56 gr_245 ?_
  show zW _ _ _ _ _ _ _ _ _ _
  refine z_iret gi_246_71 gr_246 ?_
  refine ⟨?_, ?_⟩
  · rfl
  · have hk := (zK_x (a := 50) (x := 56) (v := 5) (zK_x (a := 82) (x := 4) (v := 11) (zK_x (a := 50) (x := 56) (v := 4) (zK_x (a := 82) (x := 3) (v := 1) (zK_x (a := 50) (x := 56) (v := 3) (zK_x (a := 82) (x := 2) (v := 20) (zK_x (a := 50) (x := 56) (v := 2) (zK_x (a := 82) (x := 1) (v := 10) (zK_x (a := 50) (x := 56) (v := 1) (zK_x (a := 82) (x := 0) (v := 2) (zK_x (a := 50) (x := 56) (v := 0) (zK_x (a := 34) (x := 3) (v := 5) (zK_x (a := 36) (x := 4) (v := 11) (zK_x (a := 34) (x := 3) (v := 4) (zK_x (a := 36) (x := 3) (v := 1) (zK_x (a := 34) (x := 3) (v := 3) (zK_x (a := 36) (x := 2) (v := 20) (zK_x (a := 34) (x := 3) (v := 2) (zK_x (a := 36) (x := 1) (v := 10) (zK_x (a := 34) (x := 3) (v := 1) (zK_x (a := 36) (x := 0) (v := 2) (zK_x (a := 34) (x := 5) (v := 1) (zK_x (a := 34) (x := 4) (v := b) (zK_x (a := 34) (x := 3) (v := 0) (zK_r (k := (kL [] [(34, 3), (34, 4), (34, 5), (36, 0), (36, 1), (36, 2), (36, 3), (36, 4), (50, 56), (82, 0), (82, 1), (82, 2), (82, 3), (82, 4)])) (A := J)) rfl) rfl) rfl) rfl) rfl) rfl) rfl) rfl) rfl) rfl) rfl) rfl) rfl) rfl) rfl) rfl) rfl) rfl) rfl) rfl) rfl) rfl) rfl) rfl)
    exact ⟨hR, hG, RelY_k hk (by repeat' constructor) (fun p => by repeat' constructor) hY, RelD_k hk (by repeat' constructor) (fun p => by repeat' constructor) hD, RelP_k hk (by repeat' constructor) (fun p => by repeat' constructor) hP, RelC_k hk (by repeat' constructor) (fun p => by repeat' constructor) hC, ⟨(show J 34 1 = J 50 54 from a1), (show 0 ≤ J 34 1 ∧ J 34 1 ≤ 50 from a2), rfl, (show (0 : Int) ≤ 5 ∧ (5 : Int) ≤ 1000 from by decide), (fun i i1 i2 => a5 i i1 i2), (fun i i1 i2 _ => by have i3 : i < 5 := i2; have q : i = 0 ∨ i = 1 ∨ i = 2 ∨ i = 3 ∨ i = 4 := (by omega); rcases q with rfl | rfl | rfl | rfl | rfl <;> rfl)⟩, RelS_k hk (zK_r (k := kM)) (fun x j a b => ⟨kL_38 (by decide) (by decide) x j a b, kM_38 x j a b⟩) (fun p => ⟨rfl, rfl, rfl⟩) rfl hS, RelT_k hk (by repeat' constructor) (fun p => by repeat' constructor) hTp, RelX_k hk (by repeat' constructor) (fun p => by repeat' constructor) hX, RelW_k hk ⟨rfl, rfl⟩ trivial hW⟩
theorem iu_2_1 {X : Nat × (Nat → Int32)} {d : Nat} {J M : zA} {R : zR} : zW X d 234 0 (gEn 234 [(zi 2), (zi 1)]) [] J M R (zPu 0 J M R) := by
  show zW _ _ _ _ [some (zi 2), some (zi 1)] _ _ _ _ _
  refine z_iload1 gi_234_0 ?_
  refine z_if_eqF gi_234_1 zr_1 (by decide) ?_
  refine z_iload0 gi_234_4 ?_
  refine z_iload1 gi_234_5 ?_
  refine z_icmp_eqF gi_234_6 zr_2 zr_1 (by decide) ?_
  refine z_iload1 gi_234_9 ?_
  refine z_pushJ gp_234_10 ?_
  refine z_icmp_neF gi_234_11 zr_1 zr_1 (by decide) ?_
  refine z_iload0 gi_234_14 ?_
  refine z_pushJ gp_234_15 ?_
  refine z_icmp_eqF gi_234_16 zr_2 zr_4 (by decide) ?_
  refine z_iload1 gi_234_19 ?_
  refine z_pushJ gp_234_20 ?_
  refine z_icmp_neT gi_234_21 zr_1 zr_2 (by decide) ?_
  refine z_iload1 gi_234_34 ?_
  refine z_pushJ gp_234_35 ?_
  refine z_icmp_neT gi_234_36 zr_1 zr_3 (by decide) ?_
  refine z_iload1 gi_234_44 ?_
  refine z_pushJ gp_234_45 ?_
  refine z_icmp_neT gi_234_47 zr_1 zr_6 (by decide) ?_
  refine z_pushJ gp_234_60 ?_
  refine z_bret0 gi_234_61 gr_234 ?_
  exact ⟨rfl, rfl, rfl, rfl⟩
theorem st_act_20 {X : Nat × (Nat → Int32)} {d : Nat} {J M : zA} {R : zR} {b x : Int} (hr : Rel X J M R) (hb : -2147483648 ≤ b ∧ b < 2147483648) (hx : -2147483648 ≤ x ∧ x < 2147483648) (hb1 : 0 ≤ b ∧ b < J 34 1) (hk : J 35 b = 2) : zW X (d + 20) 134 0 (gEn 134 [(.ref 0), (zi b), (zi 0), (zi x)]) [] J M R (stP X (d + 20) 246 [(zi b), (zi 0), (zi x)]) := by
  have hr0 := hr
  obtain ⟨hR, hG, hY, hD, hP, hC, hAc, hS, hTp, hX, hW⟩ := hr0
  have hRr : zRoR R := zRoR_of hR
  have hA0 := hAc
  obtain ⟨a1, a2, a3, a4, a5, a6⟩ := hA0
  show zW _ _ _ _ [some (.ref 0), some (zi b), some (zi 0), some (zi x)] _ _ _ _ _
  refine z_aload0 gi_134_0 ?_
  refine z_getR (r := 34) gi_134_1 gk_0 (hR _ rm_0_10) ?_
  refine z_iload1 gi_134_4 ?_
  refine z_iload2 gi_134_5 ?_
  refine z_iload3 gi_134_6 ?_
  refine z_cV3 gi_134_7 gk_34 go_7 (Nat.le_of_ble_eq_true rfl) gc_7_RIII ?_
  refine z_aload0 gi_7_0 ?_
  refine z_pushJ gp_7_1 ?_
  refine z_putI (y := 3) gi_7_2 rfl gk_34 ?_
  refine z_aload0 gi_7_5 ?_
  refine z_iload1 gi_7_6 ?_
  refine z_cV1 gi_7_7 gk_34 go_3 (Nat.le_of_ble_eq_true rfl) gc_3_RI ?_
  refine z_iload1 gi_3_0 ?_
  refine z_if_ltF gi_3_1 (by omega) (by omega) ?_
  refine z_iload1 gi_3_4 ?_
  refine z_aload0 gi_3_5 ?_
  refine z_getI (v := J 34 1) gi_3_6 gk_34 ((zU_x (by decide)).trans (rfl)) ?_
  refine z_icmp_geF gi_3_9 (by omega) (by omega) (by omega) ?_
  refine z_pushJ gp_3_12 ?_
  refine z_goto gi_3_13 ?_
  refine z_bret1 gi_3_17 gr_3 ?_
  show zW _ _ _ _ _ _ _ _ _ _
  refine z_if_eqF gi_7_10 zr_1 (by decide) ?_
  refine z_iload2 gi_7_13 ?_
  refine z_if_ltF gi_7_14 zr_0 (by decide) ?_
  refine z_iload2 gi_7_17 ?_
  refine z_pushJ gp_7_18 ?_
  refine z_icmp_ltT gi_7_19 zr_0 zr_4 (by decide) ?_
  refine z_aload0 gi_7_24 ?_
  refine z_iload1 gi_7_25 ?_
  refine z_putI (y := 4) gi_7_26 rfl gk_34 ?_
  refine z_aload0 gi_7_29 ?_
  refine z_aload0 gi_7_30 ?_
  refine z_getR (r := 35) gi_7_31 gk_34 (hR _ rm_34_0) ?_
  refine z_iload1 gi_7_34 ?_
  refine z_iald (v := 2) gi_7_35 gk_35 (by decide) (by omega) ((zU_n (by decide)).trans ((zU_n (by decide)).trans (hk))) ?_
  refine z_putI (y := 5) gi_7_36 rfl gk_34 ?_
  refine z_aload0 gi_7_39 ?_
  refine z_iload2 gi_7_40 ?_
  refine z_iload3 gi_7_41 ?_
  refine z_pushJ gp_7_42 ?_
  refine z_cV3 gi_7_43 gk_34 go_8 (Nat.le_of_ble_eq_true rfl) gc_8_RIII ?_
  refine z_aload0 gi_8_0 ?_
  refine z_aload0 gi_8_1 ?_
  refine z_getI (v := 2) gi_8_2 gk_34 (zU_e) ?_
  refine z_iload1 gi_8_5 ?_
  refine z_iload2 gi_8_6 ?_
  refine z_iload3 gi_8_7 ?_
  refine z_callVi (As := [_, _, _, _]) (le := [some _, some _, some _, some _, some _, none, none]) gi_8_8 rfl gk_34 (Nat.le_of_ble_eq_true rfl) (Nat.le_of_ble_eq_true rfl) rfl ?_
  refine ah_2_0 (by decide) ?_
  refine z_aload0 gi_9_77 ?_
  refine z_iload6 gi_9_78 ?_
  refine z_callVx (As := [_]) gi_9_80 rfl rfl (Nat.le_of_ble_eq_true rfl) (Nat.le_of_ble_eq_true rfl) (bg_k (n := 0) (m := 1) hR ((zU_x (by decide)).trans ((zU_x (by decide)).trans (zU_e))) (by decide) (by decide)) ?_
  show zW _ _ _ _ _ _ _ _ _ _
  refine z_iload5 gi_9_83 ?_
  refine z_if_neF gi_9_85 zr_0 (by decide) ?_
  refine z_aload0 gi_9_88 ?_
  refine z_iload6 gi_9_89 ?_
  refine z_iload3 gi_9_91 ?_
  refine z_iload4 gi_9_92 ?_
  refine z_pushJ gp_9_94 ?_
  refine z_iadd (e := 1) gi_9_95 rfl ?_
  refine z_callVi (As := [_, _, _]) (le := [some _, some _, some _, some _, none]) gi_9_96 rfl gk_34 (Nat.le_of_ble_eq_true rfl) (Nat.le_of_ble_eq_true rfl) rfl ?_
  refine z_iload1 gi_11_0 ?_
  refine z_swI (tg := 44) gi_11_1 (by decide) (T := [((1 : Int), 44), ((2 : Int), 51), ((10 : Int), 71), ((11 : Int), 81)]) rfl (by decide) ?_
  refine z_iload2 gi_11_44 ?_
  refine z_aload0 gi_11_45 ?_
  refine z_getI (v := b) gi_11_46 gk_34 ((zU_x (by decide)).trans ((zU_n (by decide)).trans ((zU_x (by decide)).trans (zU_e)))) ?_
  refine z_iadd (e := x + b) gi_11_49 rfl ?_
  refine z_iret gi_11_50 gr_11 ?_
  show zW _ _ _ _ _ _ _ _ _ _
  refine z_iret gi_9_99 gr_9 ?_
  show zW _ _ _ _ _ _ _ _ _ _
  refine z_iret gi_8_11 gr_8 ?_
  show zW _ _ _ _ _ _ _ _ _ _
  refine z_iret gi_7_46 gr_7 ?_
  show zW _ _ _ _ _ _ _ _ _ _
  refine z_iret gi_134_10 gr_134 ?_
  refine ⟨_, rfl, ?_⟩
  show zW _ _ _ _ [some (.ref 50), some (zi b), some (zi 0), some (zi x)] _ _ _ _ _
  refine z_aload0 gi_246_0 ?_
  refine z_pushJ gp_246_1 ?_
  refine z_putI (y := 56) gi_246_2 rfl gk_50 ?_
  refine z_aload0 gi_246_5 ?_
  refine z_iload1 gi_246_6 ?_
  refine z_cV1 gi_246_7 gk_50 go_230 (Nat.le_of_ble_eq_true rfl) gc_230_RI ?_
  refine z_iload1 gi_230_0 ?_
  refine z_pushJ gp_230_1 ?_
  refine z_aload0 gi_230_2 ?_
  refine z_getI (v := J 34 1) gi_230_3 gk_50 ((zU_x (by decide)).trans ((zU_n (by decide)).trans ((zU_n (by decide)).trans ((zU_n (by decide)).trans ((zU_n (by decide)).trans ((zU_n (by decide)).trans (a1.symm))))))) ?_
  refine z_pushJ gp_230_6 ?_
  refine z_isub (e := (J 34 1) - 1) gi_230_7 rfl ?_
  refine z_cS3 gi_230_8 (Nat.le_of_ble_eq_true rfl) gc_148_III ?_
  refine z_iload0 gi_148_0 ?_
  refine z_iload1 gi_148_1 ?_
  refine z_icmp_ltF gi_148_2 (by omega) zr_0 (by omega) ?_
  refine z_iload0 gi_148_5 ?_
  refine z_iload2 gi_148_6 ?_
  refine z_icmp_gtF gi_148_7 (by omega) (by omega) (by omega) ?_
  refine z_pushJ gp_148_10 ?_
  refine z_goto gi_148_11 ?_
  refine z_bret1 gi_148_15 gr_148 ?_
  show zW _ _ _ _ _ _ _ _ _ _
  refine z_bret1 gi_230_11 gr_230 ?_
  show zW _ _ _ _ _ _ _ _ _ _
  refine z_if_eqF gi_246_10 zr_1 (by decide) ?_
  refine z_iload2 gi_246_13 ?_
  refine z_pushJ gp_246_14 ?_
  refine z_pushJ gp_246_15 ?_
  refine z_cS3 gi_246_16 (Nat.le_of_ble_eq_true rfl) gc_148_III ?_
  refine z_iload0 gi_148_0 ?_
  refine z_iload1 gi_148_1 ?_
  refine z_icmp_ltF gi_148_2 zr_0 zr_0 (by decide) ?_
  refine z_iload0 gi_148_5 ?_
  refine z_iload2 gi_148_6 ?_
  refine z_icmp_gtF gi_148_7 zr_0 zr_3 (by decide) ?_
  refine z_pushJ gp_148_10 ?_
  refine z_goto gi_148_11 ?_
  refine z_bret1 gi_148_15 gr_148 ?_
  show zW _ _ _ _ _ _ _ _ _ _
  refine z_if_neT gi_246_19 zr_1 (by decide) ?_
  refine z_iload2 gi_246_24 ?_
  refine z_if_neF gi_246_25 zr_0 (by decide) ?_
  refine z_aload0 gi_246_28 ?_
  refine z_iload1 gi_246_29 ?_
  refine z_iload3 gi_246_30 ?_
  refine z_cV2 gi_246_31 gk_50 go_237 (Nat.le_of_ble_eq_true rfl) gc_237_RII ?_
  refine z_aload0 gi_237_0 ?_
  refine z_getR (r := 81) gi_237_1 gk_50 (hRr _ rm_50_55 (by decide)) ?_
  refine z_iload1 gi_237_4 ?_
  refine z_iald (v := 2) gi_237_5 gk_81 (by decide) (by omega) ((zU_n (by decide)).trans ((zU_n (by decide)).trans ((zU_n (by decide)).trans ((zU_n (by decide)).trans ((zU_n (by decide)).trans ((zU_n (by decide)).trans ((a5 _ hb1.1 hb1.2).1.symm.trans hk))))))) ?_
  refine z_pushJ gp_237_6 ?_
  refine z_callSP (As := [_, _]) (v := 0) gi_237_7 rfl (Nat.le_of_ble_eq_true rfl) (Nat.le_of_ble_eq_true rfl) iu_2_1 ?_
  refine z_if_eqT gi_237_10 zr_0 (by decide) ?_
  refine z_aload0 gi_237_28 ?_
  refine z_getR (r := 81) gi_237_29 gk_50 (hRr _ rm_50_55 (by decide)) ?_
  refine z_iload1 gi_237_32 ?_
  refine z_iald (v := 2) gi_237_33 gk_81 (by decide) (by omega) ((zU_n (by decide)).trans ((zU_n (by decide)).trans ((zU_n (by decide)).trans ((zU_n (by decide)).trans ((zU_n (by decide)).trans ((zU_n (by decide)).trans ((a5 _ hb1.1 hb1.2).1.symm.trans hk))))))) ?_
  refine z_pushJ gp_237_34 ?_
  refine z_icmp_neT gi_237_36 zr_2 zr_7 (by decide) ?_
  refine z_aload0 gi_237_54 ?_
  refine z_getR (r := 81) gi_237_55 gk_50 (hRr _ rm_50_55 (by decide)) ?_
  refine z_iload1 gi_237_58 ?_
  refine z_iald (v := 2) gi_237_59 gk_81 (by decide) (by omega) ((zU_n (by decide)).trans ((zU_n (by decide)).trans ((zU_n (by decide)).trans ((zU_n (by decide)).trans ((zU_n (by decide)).trans ((zU_n (by decide)).trans ((a5 _ hb1.1 hb1.2).1.symm.trans hk))))))) ?_
  refine z_pushJ gp_237_60 ?_
  refine z_icmp_neT gi_237_62 zr_2 zr_6 (by decide) ?_
  refine z_aload0 gi_237_74 ?_
  refine z_iload1 gi_237_75 ?_
  refine z_iload2 gi_237_76 ?_
  refine z_cV2 gi_237_77 gk_50 go_235 (Nat.le_of_ble_eq_true rfl) gc_235_RII ?_
  refine z_aload0 gi_235_0 ?_
  refine z_pushJ gp_235_1 ?_
  refine z_callVx (As := [_]) gi_235_2 rfl rfl (Nat.le_of_ble_eq_true rfl) (Nat.le_of_ble_eq_true rfl) (rn_k (n := 0) (m := 1) hRr (zU_e) (by decide) (by decide)) ?_
  show zW _ _ _ _ _ _ _ _ _ _
  refine z_iload2 gi_235_5 ?_
  refine z_iload1 gi_235_6 ?_
  refine z_iadd (e := x + b) gi_235_7 rfl ?_
  refine z_iret gi_235_8 gr_235 ?_
  show zW _ _ _ _ _ _ _ _ _ _
  refine z_iret gi_237_80 gr_237 ?_
  show zW _ _ _ _ _ _ _ _ _ _
  refine z_goto gi_246_34 ?_
  refine z_iret gi_246_71 gr_246 ?_
  refine ⟨?_, ?_⟩
  · rfl
  · have hk := (zK_x (a := 50) (x := 56) (v := 1) (zK_x (a := 82) (x := 0) (v := 1) (zK_x (a := 50) (x := 56) (v := 0) (zK_x (a := 34) (x := 3) (v := 1) (zK_x (a := 36) (x := 0) (v := 1) (zK_x (a := 34) (x := 5) (v := 2) (zK_x (a := 34) (x := 4) (v := b) (zK_x (a := 34) (x := 3) (v := 0) (zK_r (k := (kL [] [(34, 3), (34, 4), (34, 5), (36, 0), (50, 56), (82, 0)])) (A := J)) rfl) rfl) rfl) rfl) rfl) rfl) rfl) rfl)
    exact ⟨hR, hG, RelY_k hk (by repeat' constructor) (fun p => by repeat' constructor) hY, RelD_k hk (by repeat' constructor) (fun p => by repeat' constructor) hD, RelP_k hk (by repeat' constructor) (fun p => by repeat' constructor) hP, RelC_k hk (by repeat' constructor) (fun p => by repeat' constructor) hC, ⟨(show J 34 1 = J 50 54 from a1), (show 0 ≤ J 34 1 ∧ J 34 1 ≤ 50 from a2), rfl, (show (0 : Int) ≤ 1 ∧ (1 : Int) ≤ 1000 from by decide), (fun i i1 i2 => a5 i i1 i2), (fun i i1 i2 _ => by have i3 : i < 1 := i2; have q : i = 0 := (by omega); subst q; rfl)⟩, RelS_k hk (zK_r (k := kM)) (fun x j a b => ⟨kL_38 (by decide) (by decide) x j a b, kM_38 x j a b⟩) (fun p => ⟨rfl, rfl, rfl⟩) rfl hS, RelT_k hk (by repeat' constructor) (fun p => by repeat' constructor) hTp, RelX_k hk (by repeat' constructor) (fun p => by repeat' constructor) hX, RelW_k hk ⟨rfl, rfl⟩ trivial hW⟩
theorem iu_2_3 {X : Nat × (Nat → Int32)} {d : Nat} {J M : zA} {R : zR} : zW X d 234 0 (gEn 234 [(zi 2), (zi 3)]) [] J M R (zPu 0 J M R) := by
  show zW _ _ _ _ [some (zi 2), some (zi 3)] _ _ _ _ _
  refine z_iload1 gi_234_0 ?_
  refine z_if_eqF gi_234_1 zr_3 (by decide) ?_
  refine z_iload0 gi_234_4 ?_
  refine z_iload1 gi_234_5 ?_
  refine z_icmp_eqF gi_234_6 zr_2 zr_3 (by decide) ?_
  refine z_iload1 gi_234_9 ?_
  refine z_pushJ gp_234_10 ?_
  refine z_icmp_neT gi_234_11 zr_3 zr_1 (by decide) ?_
  refine z_iload1 gi_234_19 ?_
  refine z_pushJ gp_234_20 ?_
  refine z_icmp_neT gi_234_21 zr_3 zr_2 (by decide) ?_
  refine z_iload1 gi_234_34 ?_
  refine z_pushJ gp_234_35 ?_
  refine z_icmp_neF gi_234_36 zr_3 zr_3 (by decide) ?_
  refine z_iload0 gi_234_39 ?_
  refine z_pushJ gp_234_40 ?_
  refine z_icmp_eqF gi_234_41 zr_2 zr_5 (by decide) ?_
  refine z_iload1 gi_234_44 ?_
  refine z_pushJ gp_234_45 ?_
  refine z_icmp_neT gi_234_47 zr_3 zr_6 (by decide) ?_
  refine z_pushJ gp_234_60 ?_
  refine z_bret0 gi_234_61 gr_234 ?_
  exact ⟨rfl, rfl, rfl, rfl⟩
theorem st_act_21 {X : Nat × (Nat → Int32)} {d : Nat} {J M : zA} {R : zR} {b x : Int} (hr : Rel X J M R) (hb : -2147483648 ≤ b ∧ b < 2147483648) (hx : -2147483648 ≤ x ∧ x < 2147483648) (hb1 : 0 ≤ b ∧ b < J 34 1) (hk : J 35 b = 2) : zW X (d + 20) 134 0 (gEn 134 [(.ref 0), (zi b), (zi 1), (zi x)]) [] J M R (stP X (d + 20) 246 [(zi b), (zi 1), (zi x)]) := by
  have hr0 := hr
  obtain ⟨hR, hG, hY, hD, hP, hC, hAc, hS, hTp, hX, hW⟩ := hr0
  have hRr : zRoR R := zRoR_of hR
  have hA0 := hAc
  obtain ⟨a1, a2, a3, a4, a5, a6⟩ := hA0
  show zW _ _ _ _ [some (.ref 0), some (zi b), some (zi 1), some (zi x)] _ _ _ _ _
  refine z_aload0 gi_134_0 ?_
  refine z_getR (r := 34) gi_134_1 gk_0 (hR _ rm_0_10) ?_
  refine z_iload1 gi_134_4 ?_
  refine z_iload2 gi_134_5 ?_
  refine z_iload3 gi_134_6 ?_
  refine z_cV3 gi_134_7 gk_34 go_7 (Nat.le_of_ble_eq_true rfl) gc_7_RIII ?_
  refine z_aload0 gi_7_0 ?_
  refine z_pushJ gp_7_1 ?_
  refine z_putI (y := 3) gi_7_2 rfl gk_34 ?_
  refine z_aload0 gi_7_5 ?_
  refine z_iload1 gi_7_6 ?_
  refine z_cV1 gi_7_7 gk_34 go_3 (Nat.le_of_ble_eq_true rfl) gc_3_RI ?_
  refine z_iload1 gi_3_0 ?_
  refine z_if_ltF gi_3_1 (by omega) (by omega) ?_
  refine z_iload1 gi_3_4 ?_
  refine z_aload0 gi_3_5 ?_
  refine z_getI (v := J 34 1) gi_3_6 gk_34 ((zU_x (by decide)).trans (rfl)) ?_
  refine z_icmp_geF gi_3_9 (by omega) (by omega) (by omega) ?_
  refine z_pushJ gp_3_12 ?_
  refine z_goto gi_3_13 ?_
  refine z_bret1 gi_3_17 gr_3 ?_
  show zW _ _ _ _ _ _ _ _ _ _
  refine z_if_eqF gi_7_10 zr_1 (by decide) ?_
  refine z_iload2 gi_7_13 ?_
  refine z_if_ltF gi_7_14 zr_1 (by decide) ?_
  refine z_iload2 gi_7_17 ?_
  refine z_pushJ gp_7_18 ?_
  refine z_icmp_ltT gi_7_19 zr_1 zr_4 (by decide) ?_
  refine z_aload0 gi_7_24 ?_
  refine z_iload1 gi_7_25 ?_
  refine z_putI (y := 4) gi_7_26 rfl gk_34 ?_
  refine z_aload0 gi_7_29 ?_
  refine z_aload0 gi_7_30 ?_
  refine z_getR (r := 35) gi_7_31 gk_34 (hR _ rm_34_0) ?_
  refine z_iload1 gi_7_34 ?_
  refine z_iald (v := 2) gi_7_35 gk_35 (by decide) (by omega) ((zU_n (by decide)).trans ((zU_n (by decide)).trans (hk))) ?_
  refine z_putI (y := 5) gi_7_36 rfl gk_34 ?_
  refine z_aload0 gi_7_39 ?_
  refine z_iload2 gi_7_40 ?_
  refine z_iload3 gi_7_41 ?_
  refine z_pushJ gp_7_42 ?_
  refine z_cV3 gi_7_43 gk_34 go_8 (Nat.le_of_ble_eq_true rfl) gc_8_RIII ?_
  refine z_aload0 gi_8_0 ?_
  refine z_aload0 gi_8_1 ?_
  refine z_getI (v := 2) gi_8_2 gk_34 (zU_e) ?_
  refine z_iload1 gi_8_5 ?_
  refine z_iload2 gi_8_6 ?_
  refine z_iload3 gi_8_7 ?_
  refine z_callVi (As := [_, _, _, _]) (le := [some _, some _, some _, some _, some _, none, none]) gi_8_8 rfl gk_34 (Nat.le_of_ble_eq_true rfl) (Nat.le_of_ble_eq_true rfl) rfl ?_
  refine ah_2_1 (by decide) ?_
  refine z_aload0 gi_9_77 ?_
  refine z_iload6 gi_9_78 ?_
  refine z_callVx (As := [_]) gi_9_80 rfl rfl (Nat.le_of_ble_eq_true rfl) (Nat.le_of_ble_eq_true rfl) (bg_k (n := 0) (m := 1) hR ((zU_x (by decide)).trans ((zU_x (by decide)).trans (zU_e))) (by decide) (by decide)) ?_
  show zW _ _ _ _ _ _ _ _ _ _
  refine z_iload5 gi_9_83 ?_
  refine z_if_neT gi_9_85 zr_2 (by decide) ?_
  refine z_aload0 gi_9_100 ?_
  refine z_iload6 gi_9_101 ?_
  refine z_getS gi_9_103 ?_
  refine z_iload5 gi_9_106 ?_
  refine z_sald (j := 4) (n := 8) (v := 0) gi_9_108 (by decide) rfl (by decide) (by decide) rfl ?_
  refine z_iload3 gi_9_109 ?_
  refine z_iload4 gi_9_110 ?_
  refine z_pushJ gp_9_112 ?_
  refine z_iadd (e := 1) gi_9_113 rfl ?_
  refine z_callVi (As := [_, _, _, _]) (le := [some _, some _, some _, some _, some _, none, none]) gi_9_114 rfl gk_34 (Nat.le_of_ble_eq_true rfl) (Nat.le_of_ble_eq_true rfl) rfl ?_
  refine z_iload1 gi_12_0 ?_
  refine z_swI (tg := 104) gi_12_1 (by decide) (T := [((20 : Int), 92), ((30 : Int), 104), ((40 : Int), 115), ((41 : Int), 127), ((50 : Int), 139), ((60 : Int), 151), ((61 : Int), 174), ((70 : Int), 186), ((80 : Int), 198), ((81 : Int), 221)]) rfl (by decide) ?_
  refine z_aload0 gi_12_104 ?_
  refine z_iload2 gi_12_105 ?_
  refine z_pushJ gp_12_106 ?_
  refine z_iload3 gi_12_107 ?_
  refine z_iload4 gi_12_108 ?_
  refine z_callVi (As := [_, _, _, _]) (le := [some _, some _, some _, some _, some _, none, none]) gi_12_110 rfl gk_34 (Nat.le_of_ble_eq_true rfl) (Nat.le_of_ble_eq_true rfl) rfl ?_
  refine ah_0_1 (by decide) ?_
  refine z_aload0 gi_9_77 ?_
  refine z_iload6 gi_9_78 ?_
  refine z_callVx (As := [_]) gi_9_80 rfl rfl (Nat.le_of_ble_eq_true rfl) (Nat.le_of_ble_eq_true rfl) (bg_k (n := 1) (m := 2) hR (zU_e) (by decide) (by decide)) ?_
  show zW _ _ _ _ _ _ _ _ _ _
  refine z_iload5 gi_9_83 ?_
  refine z_if_neF gi_9_85 zr_0 (by decide) ?_
  refine z_aload0 gi_9_88 ?_
  refine z_iload6 gi_9_89 ?_
  refine z_iload3 gi_9_91 ?_
  refine z_iload4 gi_9_92 ?_
  refine z_pushJ gp_9_94 ?_
  refine z_iadd (e := 2) gi_9_95 rfl ?_
  refine z_callVi (As := [_, _, _]) (le := [some _, some _, some _, some _, none]) gi_9_96 rfl gk_34 (Nat.le_of_ble_eq_true rfl) (Nat.le_of_ble_eq_true rfl) rfl ?_
  refine z_iload1 gi_11_0 ?_
  refine z_swI (tg := 71) gi_11_1 (by decide) (T := [((1 : Int), 44), ((2 : Int), 51), ((10 : Int), 71), ((11 : Int), 81)]) rfl (by decide) ?_
  refine z_aload0 gi_11_71 ?_
  refine z_pushJ gp_11_72 ?_
  refine z_iload2 gi_11_73 ?_
  refine z_iload3 gi_11_74 ?_
  refine z_cV3 gi_11_75 gk_34 go_8 (Nat.le_of_ble_eq_true rfl) gc_8_RIII ?_
  refine z_aload0 gi_8_0 ?_
  refine z_aload0 gi_8_1 ?_
  refine z_getI (v := 2) gi_8_2 gk_34 ((zU_x (by decide)).trans ((zU_n (by decide)).trans ((zU_x (by decide)).trans ((zU_n (by decide)).trans (zU_e))))) ?_
  refine z_iload1 gi_8_5 ?_
  refine z_iload2 gi_8_6 ?_
  refine z_iload3 gi_8_7 ?_
  refine z_callVi (As := [_, _, _, _]) (le := [some _, some _, some _, some _, some _, none, none]) gi_8_8 rfl gk_34 (Nat.le_of_ble_eq_true rfl) (Nat.le_of_ble_eq_true rfl) rfl ?_
  refine ah_2_0 (by decide) ?_
  refine z_aload0 gi_9_77 ?_
  refine z_iload6 gi_9_78 ?_
  refine z_callVx (As := [_]) gi_9_80 rfl rfl (Nat.le_of_ble_eq_true rfl) (Nat.le_of_ble_eq_true rfl) (bg_k (n := 2) (m := 3) hR (zU_e) (by decide) (by decide)) ?_
  show zW _ _ _ _ _ _ _ _ _ _
  refine z_iload5 gi_9_83 ?_
  refine z_if_neF gi_9_85 zr_0 (by decide) ?_
  refine z_aload0 gi_9_88 ?_
  refine z_iload6 gi_9_89 ?_
  refine z_iload3 gi_9_91 ?_
  refine z_iload4 gi_9_92 ?_
  refine z_pushJ gp_9_94 ?_
  refine z_iadd (e := 3) gi_9_95 rfl ?_
  refine z_callVi (As := [_, _, _]) (le := [some _, some _, some _, some _, none]) gi_9_96 rfl gk_34 (Nat.le_of_ble_eq_true rfl) (Nat.le_of_ble_eq_true rfl) rfl ?_
  refine z_iload1 gi_11_0 ?_
  refine z_swI (tg := 44) gi_11_1 (by decide) (T := [((1 : Int), 44), ((2 : Int), 51), ((10 : Int), 71), ((11 : Int), 81)]) rfl (by decide) ?_
  refine z_iload2 gi_11_44 ?_
  refine z_aload0 gi_11_45 ?_
  refine z_getI (v := b) gi_11_46 gk_34 ((zU_x (by decide)).trans ((zU_n (by decide)).trans ((zU_x (by decide)).trans ((zU_n (by decide)).trans ((zU_x (by decide)).trans ((zU_n (by decide)).trans ((zU_x (by decide)).trans (zU_e)))))))) ?_
  refine z_iadd (e := x + b) gi_11_49 rfl ?_
  refine z_iret gi_11_50 gr_11 ?_
  show zW _ _ _ _ _ _ _ _ _ _
  refine z_iret gi_9_99 gr_9 ?_
  show zW _ _ _ _ _ _ _ _ _ _
  refine z_iret gi_8_11 gr_8 ?_
  show zW _ _ _ _ _ _ _ _ _ _
  refine z_pushJ gp_11_78 ?_
  refine z_imul (e := (x + b) * 2) gi_11_79 rfl ?_
  refine z_iret gi_11_80 gr_11 ?_
  show zW _ _ _ _ _ _ _ _ _ _
  refine z_iret gi_9_99 gr_9 ?_
  show zW _ _ _ _ _ _ _ _ _ _
  refine z_ineg (e := -((x + b) * 2)) gi_12_113 rfl ?_
  refine z_iret gi_12_114 gr_12 ?_
  show zW _ _ _ _ _ _ _ _ _ _
  refine z_iret gi_9_117 gr_9 ?_
  show zW _ _ _ _ _ _ _ _ _ _
  refine z_iret gi_8_11 gr_8 ?_
  show zW _ _ _ _ _ _ _ _ _ _
  refine z_iret gi_7_46 gr_7 ?_
  show zW _ _ _ _ _ _ _ _ _ _
  refine z_iret gi_134_10 gr_134 ?_
  refine ⟨_, rfl, ?_⟩
  show zW _ _ _ _ [some (.ref 50), some (zi b), some (zi 1), some (zi x)] _ _ _ _ _
  refine z_aload0 gi_246_0 ?_
  refine z_pushJ gp_246_1 ?_
  refine z_putI (y := 56) gi_246_2 rfl gk_50 ?_
  refine z_aload0 gi_246_5 ?_
  refine z_iload1 gi_246_6 ?_
  refine z_cV1 gi_246_7 gk_50 go_230 (Nat.le_of_ble_eq_true rfl) gc_230_RI ?_
  refine z_iload1 gi_230_0 ?_
  refine z_pushJ gp_230_1 ?_
  refine z_aload0 gi_230_2 ?_
  refine z_getI (v := J 34 1) gi_230_3 gk_50 ((zU_x (by decide)).trans ((zU_n (by decide)).trans ((zU_n (by decide)).trans ((zU_n (by decide)).trans ((zU_n (by decide)).trans ((zU_n (by decide)).trans ((zU_n (by decide)).trans ((zU_n (by decide)).trans ((zU_n (by decide)).trans ((zU_n (by decide)).trans (a1.symm))))))))))) ?_
  refine z_pushJ gp_230_6 ?_
  refine z_isub (e := (J 34 1) - 1) gi_230_7 rfl ?_
  refine z_cS3 gi_230_8 (Nat.le_of_ble_eq_true rfl) gc_148_III ?_
  refine z_iload0 gi_148_0 ?_
  refine z_iload1 gi_148_1 ?_
  refine z_icmp_ltF gi_148_2 (by omega) zr_0 (by omega) ?_
  refine z_iload0 gi_148_5 ?_
  refine z_iload2 gi_148_6 ?_
  refine z_icmp_gtF gi_148_7 (by omega) (by omega) (by omega) ?_
  refine z_pushJ gp_148_10 ?_
  refine z_goto gi_148_11 ?_
  refine z_bret1 gi_148_15 gr_148 ?_
  show zW _ _ _ _ _ _ _ _ _ _
  refine z_bret1 gi_230_11 gr_230 ?_
  show zW _ _ _ _ _ _ _ _ _ _
  refine z_if_eqF gi_246_10 zr_1 (by decide) ?_
  refine z_iload2 gi_246_13 ?_
  refine z_pushJ gp_246_14 ?_
  refine z_pushJ gp_246_15 ?_
  refine z_cS3 gi_246_16 (Nat.le_of_ble_eq_true rfl) gc_148_III ?_
  refine z_iload0 gi_148_0 ?_
  refine z_iload1 gi_148_1 ?_
  refine z_icmp_ltF gi_148_2 zr_1 zr_0 (by decide) ?_
  refine z_iload0 gi_148_5 ?_
  refine z_iload2 gi_148_6 ?_
  refine z_icmp_gtF gi_148_7 zr_1 zr_3 (by decide) ?_
  refine z_pushJ gp_148_10 ?_
  refine z_goto gi_148_11 ?_
  refine z_bret1 gi_148_15 gr_148 ?_
  show zW _ _ _ _ _ _ _ _ _ _
  refine z_if_neT gi_246_19 zr_1 (by decide) ?_
  refine z_iload2 gi_246_24 ?_
  refine z_if_neT gi_246_25 zr_1 (by decide) ?_
  refine z_iload2 gi_246_37 ?_
  refine z_pushJ gp_246_38 ?_
  refine z_icmp_neF gi_246_39 zr_1 zr_1 (by decide) ?_
  refine z_aload0 gi_246_42 ?_
  refine z_iload1 gi_246_43 ?_
  refine z_iload3 gi_246_44 ?_
  refine z_callVi (As := [_, _]) (le := [some _, some _, some _, none]) gi_246_45 rfl gk_50 (Nat.le_of_ble_eq_true rfl) (Nat.le_of_ble_eq_true rfl) rfl ?_
  refine z_aload0 gi_240_0 ?_
  refine z_getR (r := 81) gi_240_1 gk_50 (hRr _ rm_50_55 (by decide)) ?_
  refine z_iload1 gi_240_4 ?_
  refine z_iald (v := 2) gi_240_5 gk_81 (by decide) (by omega) ((zU_n (by decide)).trans ((zU_n (by decide)).trans ((zU_n (by decide)).trans ((zU_n (by decide)).trans ((zU_n (by decide)).trans ((zU_n (by decide)).trans ((zU_n (by decide)).trans ((zU_n (by decide)).trans ((zU_n (by decide)).trans ((zU_n (by decide)).trans ((a5 _ hb1.1 hb1.2).1.symm.trans hk))))))))))) ?_
  refine z_pushJ gp_240_6 ?_
  refine z_callSP (As := [_, _]) (v := 0) gi_240_7 rfl (Nat.le_of_ble_eq_true rfl) (Nat.le_of_ble_eq_true rfl) iu_2_3 ?_
  refine z_if_eqT gi_240_10 zr_0 (by decide) ?_
  refine z_aload0 gi_240_28 ?_
  refine z_getR (r := 81) gi_240_29 gk_50 (hRr _ rm_50_55 (by decide)) ?_
  refine z_iload1 gi_240_32 ?_
  refine z_iald (v := 2) gi_240_33 gk_81 (by decide) (by omega) ((zU_n (by decide)).trans ((zU_n (by decide)).trans ((zU_n (by decide)).trans ((zU_n (by decide)).trans ((zU_n (by decide)).trans ((zU_n (by decide)).trans ((zU_n (by decide)).trans ((zU_n (by decide)).trans ((zU_n (by decide)).trans ((zU_n (by decide)).trans ((a5 _ hb1.1 hb1.2).1.symm.trans hk))))))))))) ?_
  refine z_pushJ gp_240_34 ?_
  refine z_icmp_neT gi_240_36 zr_2 zr_7 (by decide) ?_
  refine z_aload0 gi_240_61 ?_
  refine z_getR (r := 81) gi_240_62 gk_50 (hRr _ rm_50_55 (by decide)) ?_
  refine z_iload1 gi_240_65 ?_
  refine z_iald (v := 2) gi_240_66 gk_81 (by decide) (by omega) ((zU_n (by decide)).trans ((zU_n (by decide)).trans ((zU_n (by decide)).trans ((zU_n (by decide)).trans ((zU_n (by decide)).trans ((zU_n (by decide)).trans ((zU_n (by decide)).trans ((zU_n (by decide)).trans ((zU_n (by decide)).trans ((zU_n (by decide)).trans ((a5 _ hb1.1 hb1.2).1.symm.trans hk))))))))))) ?_
  refine z_pushJ gp_240_67 ?_
  refine z_icmp_neF gi_240_68 zr_2 zr_2 (by decide) ?_
  refine z_aload0 gi_240_71 ?_
  refine z_iload1 gi_240_72 ?_
  refine z_iload2 gi_240_73 ?_
  refine z_cV2 gi_240_74 gk_50 go_239 (Nat.le_of_ble_eq_true rfl) gc_239_RII ?_
  refine z_aload0 gi_239_0 ?_
  refine z_pushJ gp_239_1 ?_
  refine z_callVx (As := [_]) gi_239_3 rfl rfl (Nat.le_of_ble_eq_true rfl) (Nat.le_of_ble_eq_true rfl) (rn_k (n := 0) (m := 1) hRr (zU_e) (by decide) (by decide)) ?_
  show zW _ _ _ _ _ _ _ _ _ _
  refine z_aload0 gi_239_6 ?_
  refine z_iload1 gi_239_7 ?_
  refine z_iload2 gi_239_8 ?_
  refine z_cV2 gi_239_9 gk_50 go_238 (Nat.le_of_ble_eq_true rfl) gc_238_RII ?_
  refine z_aload0 gi_238_0 ?_
  refine z_pushJ gp_238_1 ?_
  refine z_callVx (As := [_]) gi_238_3 rfl rfl (Nat.le_of_ble_eq_true rfl) (Nat.le_of_ble_eq_true rfl) (rn_k (n := 1) (m := 2) hRr (zU_e) (by decide) (by decide)) ?_
  show zW _ _ _ _ _ _ _ _ _ _
  refine z_aload0 gi_238_6 ?_
  refine z_iload1 gi_238_7 ?_
  refine z_iload2 gi_238_8 ?_
  refine z_cV2 gi_238_9 gk_50 go_237 (Nat.le_of_ble_eq_true rfl) gc_237_RII ?_
  refine z_aload0 gi_237_0 ?_
  refine z_getR (r := 81) gi_237_1 gk_50 (hRr _ rm_50_55 (by decide)) ?_
  refine z_iload1 gi_237_4 ?_
  refine z_iald (v := 2) gi_237_5 gk_81 (by decide) (by omega) ((zU_n (by decide)).trans ((zU_n (by decide)).trans ((zU_n (by decide)).trans ((zU_n (by decide)).trans ((zU_n (by decide)).trans ((zU_n (by decide)).trans ((zU_n (by decide)).trans ((zU_n (by decide)).trans ((zU_n (by decide)).trans ((zU_n (by decide)).trans ((zU_n (by decide)).trans ((zU_n (by decide)).trans ((zU_n (by decide)).trans ((zU_n (by decide)).trans ((a5 _ hb1.1 hb1.2).1.symm.trans hk))))))))))))))) ?_
  refine z_pushJ gp_237_6 ?_
  refine z_callSP (As := [_, _]) (v := 0) gi_237_7 rfl (Nat.le_of_ble_eq_true rfl) (Nat.le_of_ble_eq_true rfl) iu_2_1 ?_
  refine z_if_eqT gi_237_10 zr_0 (by decide) ?_
  refine z_aload0 gi_237_28 ?_
  refine z_getR (r := 81) gi_237_29 gk_50 (hRr _ rm_50_55 (by decide)) ?_
  refine z_iload1 gi_237_32 ?_
  refine z_iald (v := 2) gi_237_33 gk_81 (by decide) (by omega) ((zU_n (by decide)).trans ((zU_n (by decide)).trans ((zU_n (by decide)).trans ((zU_n (by decide)).trans ((zU_n (by decide)).trans ((zU_n (by decide)).trans ((zU_n (by decide)).trans ((zU_n (by decide)).trans ((zU_n (by decide)).trans ((zU_n (by decide)).trans ((zU_n (by decide)).trans ((zU_n (by decide)).trans ((zU_n (by decide)).trans ((zU_n (by decide)).trans ((a5 _ hb1.1 hb1.2).1.symm.trans hk))))))))))))))) ?_
  refine z_pushJ gp_237_34 ?_
  refine z_icmp_neT gi_237_36 zr_2 zr_7 (by decide) ?_
  refine z_aload0 gi_237_54 ?_
  refine z_getR (r := 81) gi_237_55 gk_50 (hRr _ rm_50_55 (by decide)) ?_
  refine z_iload1 gi_237_58 ?_
  refine z_iald (v := 2) gi_237_59 gk_81 (by decide) (by omega) ((zU_n (by decide)).trans ((zU_n (by decide)).trans ((zU_n (by decide)).trans ((zU_n (by decide)).trans ((zU_n (by decide)).trans ((zU_n (by decide)).trans ((zU_n (by decide)).trans ((zU_n (by decide)).trans ((zU_n (by decide)).trans ((zU_n (by decide)).trans ((zU_n (by decide)).trans ((zU_n (by decide)).trans ((zU_n (by decide)).trans ((zU_n (by decide)).trans ((a5 _ hb1.1 hb1.2).1.symm.trans hk))))))))))))))) ?_
  refine z_pushJ gp_237_60 ?_
  refine z_icmp_neT gi_237_62 zr_2 zr_6 (by decide) ?_
  refine z_aload0 gi_237_74 ?_
  refine z_iload1 gi_237_75 ?_
  refine z_iload2 gi_237_76 ?_
  refine z_cV2 gi_237_77 gk_50 go_235 (Nat.le_of_ble_eq_true rfl) gc_235_RII ?_
  refine z_aload0 gi_235_0 ?_
  refine z_pushJ gp_235_1 ?_
  refine z_callVx (As := [_]) gi_235_2 rfl rfl (Nat.le_of_ble_eq_true rfl) (Nat.le_of_ble_eq_true rfl) (rn_k (n := 2) (m := 3) hRr (zU_e) (by decide) (by decide)) ?_
  show zW _ _ _ _ _ _ _ _ _ _
  refine z_iload2 gi_235_5 ?_
  refine z_iload1 gi_235_6 ?_
  refine z_iadd (e := x + b) gi_235_7 rfl ?_
  refine z_iret gi_235_8 gr_235 ?_
  show zW _ _ _ _ _ _ _ _ _ _
  refine z_iret gi_237_80 gr_237 ?_
  show zW _ _ _ _ _ _ _ _ _ _
  refine z_pushJ gp_238_12 ?_
  refine z_imul (e := (x + b) * 2) gi_238_13 rfl ?_
  refine z_iret gi_238_14 gr_238 ?_
  show zW _ _ _ _ _ _ _ _ _ _
  refine z_ineg (e := -((x + b) * 2)) gi_239_12 rfl ?_
  refine z_iret gi_239_13 gr_239 ?_
  show zW _ _ _ _ _ _ _ _ _ _
  refine z_goto gi_240_77 ?_
  refine z_iret gi_240_86 gr_240 ?_
  show zW _ _ _ _ _ _ _ _ _ _
  refine z_goto gi_246_48 ?_
  refine z_iret gi_246_71 gr_246 ?_
  refine ⟨?_, ?_⟩
  · rfl
  · have hk := (zK_x (a := 50) (x := 56) (v := 3) (zK_x (a := 82) (x := 2) (v := 1) (zK_x (a := 50) (x := 56) (v := 2) (zK_x (a := 82) (x := 1) (v := 10) (zK_x (a := 50) (x := 56) (v := 1) (zK_x (a := 82) (x := 0) (v := 30) (zK_x (a := 50) (x := 56) (v := 0) (zK_x (a := 34) (x := 3) (v := 3) (zK_x (a := 36) (x := 2) (v := 1) (zK_x (a := 34) (x := 3) (v := 2) (zK_x (a := 36) (x := 1) (v := 10) (zK_x (a := 34) (x := 3) (v := 1) (zK_x (a := 36) (x := 0) (v := 30) (zK_x (a := 34) (x := 5) (v := 2) (zK_x (a := 34) (x := 4) (v := b) (zK_x (a := 34) (x := 3) (v := 0) (zK_r (k := (kL [] [(34, 3), (34, 4), (34, 5), (36, 0), (36, 1), (36, 2), (50, 56), (82, 0), (82, 1), (82, 2)])) (A := J)) rfl) rfl) rfl) rfl) rfl) rfl) rfl) rfl) rfl) rfl) rfl) rfl) rfl) rfl) rfl) rfl)
    exact ⟨hR, hG, RelY_k hk (by repeat' constructor) (fun p => by repeat' constructor) hY, RelD_k hk (by repeat' constructor) (fun p => by repeat' constructor) hD, RelP_k hk (by repeat' constructor) (fun p => by repeat' constructor) hP, RelC_k hk (by repeat' constructor) (fun p => by repeat' constructor) hC, ⟨(show J 34 1 = J 50 54 from a1), (show 0 ≤ J 34 1 ∧ J 34 1 ≤ 50 from a2), rfl, (show (0 : Int) ≤ 3 ∧ (3 : Int) ≤ 1000 from by decide), (fun i i1 i2 => a5 i i1 i2), (fun i i1 i2 _ => by have i3 : i < 3 := i2; have q : i = 0 ∨ i = 1 ∨ i = 2 := (by omega); rcases q with rfl | rfl | rfl <;> rfl)⟩, RelS_k hk (zK_r (k := kM)) (fun x j a b => ⟨kL_38 (by decide) (by decide) x j a b, kM_38 x j a b⟩) (fun p => ⟨rfl, rfl, rfl⟩) rfl hS, RelT_k hk (by repeat' constructor) (fun p => by repeat' constructor) hTp, RelX_k hk (by repeat' constructor) (fun p => by repeat' constructor) hX, RelW_k hk ⟨rfl, rfl⟩ trivial hW⟩
theorem st_act_22 {X : Nat × (Nat → Int32)} {d : Nat} {J M : zA} {R : zR} {b x : Int} (hr : Rel X J M R) (hb : -2147483648 ≤ b ∧ b < 2147483648) (hx : -2147483648 ≤ x ∧ x < 2147483648) (hb1 : 0 ≤ b ∧ b < J 34 1) (hk : J 35 b = 2) : zW X (d + 20) 134 0 (gEn 134 [(.ref 0), (zi b), (zi 2), (zi x)]) [] J M R (stP X (d + 20) 246 [(zi b), (zi 2), (zi x)]) := by
  have hr0 := hr
  obtain ⟨hR, hG, hY, hD, hP, hC, hAc, hS, hTp, hX, hW⟩ := hr0
  have hRr : zRoR R := zRoR_of hR
  have hA0 := hAc
  obtain ⟨a1, a2, a3, a4, a5, a6⟩ := hA0
  show zW _ _ _ _ [some (.ref 0), some (zi b), some (zi 2), some (zi x)] _ _ _ _ _
  refine z_aload0 gi_134_0 ?_
  refine z_getR (r := 34) gi_134_1 gk_0 (hR _ rm_0_10) ?_
  refine z_iload1 gi_134_4 ?_
  refine z_iload2 gi_134_5 ?_
  refine z_iload3 gi_134_6 ?_
  refine z_cV3 gi_134_7 gk_34 go_7 (Nat.le_of_ble_eq_true rfl) gc_7_RIII ?_
  refine z_aload0 gi_7_0 ?_
  refine z_pushJ gp_7_1 ?_
  refine z_putI (y := 3) gi_7_2 rfl gk_34 ?_
  refine z_aload0 gi_7_5 ?_
  refine z_iload1 gi_7_6 ?_
  refine z_cV1 gi_7_7 gk_34 go_3 (Nat.le_of_ble_eq_true rfl) gc_3_RI ?_
  refine z_iload1 gi_3_0 ?_
  refine z_if_ltF gi_3_1 (by omega) (by omega) ?_
  refine z_iload1 gi_3_4 ?_
  refine z_aload0 gi_3_5 ?_
  refine z_getI (v := J 34 1) gi_3_6 gk_34 ((zU_x (by decide)).trans (rfl)) ?_
  refine z_icmp_geF gi_3_9 (by omega) (by omega) (by omega) ?_
  refine z_pushJ gp_3_12 ?_
  refine z_goto gi_3_13 ?_
  refine z_bret1 gi_3_17 gr_3 ?_
  show zW _ _ _ _ _ _ _ _ _ _
  refine z_if_eqF gi_7_10 zr_1 (by decide) ?_
  refine z_iload2 gi_7_13 ?_
  refine z_if_ltF gi_7_14 zr_2 (by decide) ?_
  refine z_iload2 gi_7_17 ?_
  refine z_pushJ gp_7_18 ?_
  refine z_icmp_ltT gi_7_19 zr_2 zr_4 (by decide) ?_
  refine z_aload0 gi_7_24 ?_
  refine z_iload1 gi_7_25 ?_
  refine z_putI (y := 4) gi_7_26 rfl gk_34 ?_
  refine z_aload0 gi_7_29 ?_
  refine z_aload0 gi_7_30 ?_
  refine z_getR (r := 35) gi_7_31 gk_34 (hR _ rm_34_0) ?_
  refine z_iload1 gi_7_34 ?_
  refine z_iald (v := 2) gi_7_35 gk_35 (by decide) (by omega) ((zU_n (by decide)).trans ((zU_n (by decide)).trans (hk))) ?_
  refine z_putI (y := 5) gi_7_36 rfl gk_34 ?_
  refine z_aload0 gi_7_39 ?_
  refine z_iload2 gi_7_40 ?_
  refine z_iload3 gi_7_41 ?_
  refine z_pushJ gp_7_42 ?_
  refine z_cV3 gi_7_43 gk_34 go_8 (Nat.le_of_ble_eq_true rfl) gc_8_RIII ?_
  refine z_aload0 gi_8_0 ?_
  refine z_aload0 gi_8_1 ?_
  refine z_getI (v := 2) gi_8_2 gk_34 (zU_e) ?_
  refine z_iload1 gi_8_5 ?_
  refine z_iload2 gi_8_6 ?_
  refine z_iload3 gi_8_7 ?_
  refine z_callVi (As := [_, _, _, _]) (le := [some _, some _, some _, some _, some _, none, none]) gi_8_8 rfl gk_34 (Nat.le_of_ble_eq_true rfl) (Nat.le_of_ble_eq_true rfl) rfl ?_
  refine ah_2_2 (by decide) ?_
  refine z_aload0 gi_9_77 ?_
  refine z_iload6 gi_9_78 ?_
  refine z_callVx (As := [_]) gi_9_80 rfl rfl (Nat.le_of_ble_eq_true rfl) (Nat.le_of_ble_eq_true rfl) (bg_k (n := 0) (m := 1) hR ((zU_x (by decide)).trans ((zU_x (by decide)).trans (zU_e))) (by decide) (by decide)) ?_
  show zW _ _ _ _ _ _ _ _ _ _
  refine z_iload5 gi_9_83 ?_
  refine z_if_neF gi_9_85 zr_0 (by decide) ?_
  refine z_aload0 gi_9_88 ?_
  refine z_iload6 gi_9_89 ?_
  refine z_iload3 gi_9_91 ?_
  refine z_iload4 gi_9_92 ?_
  refine z_pushJ gp_9_94 ?_
  refine z_iadd (e := 1) gi_9_95 rfl ?_
  refine z_callVi (As := [_, _, _]) (le := [some _, some _, some _, some _, none]) gi_9_96 rfl gk_34 (Nat.le_of_ble_eq_true rfl) (Nat.le_of_ble_eq_true rfl) rfl ?_
  refine z_iload1 gi_11_0 ?_
  refine z_swI (tg := 81) gi_11_1 (by decide) (T := [((1 : Int), 44), ((2 : Int), 51), ((10 : Int), 71), ((11 : Int), 81)]) rfl (by decide) ?_
  refine z_iload2 gi_11_81 ?_
  refine z_aload0 gi_11_82 ?_
  refine z_getI (v := b) gi_11_83 gk_34 ((zU_x (by decide)).trans ((zU_n (by decide)).trans ((zU_x (by decide)).trans (zU_e)))) ?_
  refine z_ixor (e := zxor x b) gi_11_86 rfl ?_
  refine z_iret gi_11_87 gr_11 ?_
  show zW _ _ _ _ _ _ _ _ _ _
  refine z_iret gi_9_99 gr_9 ?_
  show zW _ _ _ _ _ _ _ _ _ _
  refine z_iret gi_8_11 gr_8 ?_
  show zW _ _ _ _ _ _ _ _ _ _
  refine z_iret gi_7_46 gr_7 ?_
  show zW _ _ _ _ _ _ _ _ _ _
  refine z_iret gi_134_10 gr_134 ?_
  refine ⟨_, rfl, ?_⟩
  show zW _ _ _ _ [some (.ref 50), some (zi b), some (zi 2), some (zi x)] _ _ _ _ _
  refine z_aload0 gi_246_0 ?_
  refine z_pushJ gp_246_1 ?_
  refine z_putI (y := 56) gi_246_2 rfl gk_50 ?_
  refine z_aload0 gi_246_5 ?_
  refine z_iload1 gi_246_6 ?_
  refine z_cV1 gi_246_7 gk_50 go_230 (Nat.le_of_ble_eq_true rfl) gc_230_RI ?_
  refine z_iload1 gi_230_0 ?_
  refine z_pushJ gp_230_1 ?_
  refine z_aload0 gi_230_2 ?_
  refine z_getI (v := J 34 1) gi_230_3 gk_50 ((zU_x (by decide)).trans ((zU_n (by decide)).trans ((zU_n (by decide)).trans ((zU_n (by decide)).trans ((zU_n (by decide)).trans ((zU_n (by decide)).trans (a1.symm))))))) ?_
  refine z_pushJ gp_230_6 ?_
  refine z_isub (e := (J 34 1) - 1) gi_230_7 rfl ?_
  refine z_cS3 gi_230_8 (Nat.le_of_ble_eq_true rfl) gc_148_III ?_
  refine z_iload0 gi_148_0 ?_
  refine z_iload1 gi_148_1 ?_
  refine z_icmp_ltF gi_148_2 (by omega) zr_0 (by omega) ?_
  refine z_iload0 gi_148_5 ?_
  refine z_iload2 gi_148_6 ?_
  refine z_icmp_gtF gi_148_7 (by omega) (by omega) (by omega) ?_
  refine z_pushJ gp_148_10 ?_
  refine z_goto gi_148_11 ?_
  refine z_bret1 gi_148_15 gr_148 ?_
  show zW _ _ _ _ _ _ _ _ _ _
  refine z_bret1 gi_230_11 gr_230 ?_
  show zW _ _ _ _ _ _ _ _ _ _
  refine z_if_eqF gi_246_10 zr_1 (by decide) ?_
  refine z_iload2 gi_246_13 ?_
  refine z_pushJ gp_246_14 ?_
  refine z_pushJ gp_246_15 ?_
  refine z_cS3 gi_246_16 (Nat.le_of_ble_eq_true rfl) gc_148_III ?_
  refine z_iload0 gi_148_0 ?_
  refine z_iload1 gi_148_1 ?_
  refine z_icmp_ltF gi_148_2 zr_2 zr_0 (by decide) ?_
  refine z_iload0 gi_148_5 ?_
  refine z_iload2 gi_148_6 ?_
  refine z_icmp_gtF gi_148_7 zr_2 zr_3 (by decide) ?_
  refine z_pushJ gp_148_10 ?_
  refine z_goto gi_148_11 ?_
  refine z_bret1 gi_148_15 gr_148 ?_
  show zW _ _ _ _ _ _ _ _ _ _
  refine z_if_neT gi_246_19 zr_1 (by decide) ?_
  refine z_iload2 gi_246_24 ?_
  refine z_if_neT gi_246_25 zr_2 (by decide) ?_
  refine z_iload2 gi_246_37 ?_
  refine z_pushJ gp_246_38 ?_
  refine z_icmp_neT gi_246_39 zr_2 zr_1 (by decide) ?_
  refine z_iload2 gi_246_51 ?_
  refine z_pushJ gp_246_52 ?_
  refine z_icmp_neF gi_246_53 zr_2 zr_2 (by decide) ?_
  refine z_aload0 gi_246_56 ?_
  refine z_iload1 gi_246_57 ?_
  refine z_iload3 gi_246_58 ?_
  refine z_callVi (As := [_, _]) (le := [some _, some _, some _, none]) gi_246_59 rfl gk_50 (Nat.le_of_ble_eq_true rfl) (Nat.le_of_ble_eq_true rfl) rfl ?_
  refine z_aload0 gi_243_0 ?_
  refine z_getR (r := 81) gi_243_1 gk_50 (hRr _ rm_50_55 (by decide)) ?_
  refine z_iload1 gi_243_4 ?_
  refine z_iald (v := 2) gi_243_5 gk_81 (by decide) (by omega) ((zU_n (by decide)).trans ((zU_n (by decide)).trans ((zU_n (by decide)).trans ((zU_n (by decide)).trans ((zU_n (by decide)).trans ((zU_n (by decide)).trans ((a5 _ hb1.1 hb1.2).1.symm.trans hk))))))) ?_
  refine z_pushJ gp_243_6 ?_
  refine z_icmp_neT gi_243_7 zr_2 zr_5 (by decide) ?_
  refine z_aload0 gi_243_32 ?_
  refine z_getR (r := 81) gi_243_33 gk_50 (hRr _ rm_50_55 (by decide)) ?_
  refine z_iload1 gi_243_36 ?_
  refine z_iald (v := 2) gi_243_37 gk_81 (by decide) (by omega) ((zU_n (by decide)).trans ((zU_n (by decide)).trans ((zU_n (by decide)).trans ((zU_n (by decide)).trans ((zU_n (by decide)).trans ((zU_n (by decide)).trans ((a5 _ hb1.1 hb1.2).1.symm.trans hk))))))) ?_
  refine z_pushJ gp_243_38 ?_
  refine z_icmp_neT gi_243_39 zr_2 zr_3 (by decide) ?_
  refine z_aload0 gi_243_51 ?_
  refine z_iload1 gi_243_52 ?_
  refine z_iload2 gi_243_53 ?_
  refine z_cV2 gi_243_54 gk_50 go_241 (Nat.le_of_ble_eq_true rfl) gc_241_RII ?_
  refine z_aload0 gi_241_0 ?_
  refine z_pushJ gp_241_1 ?_
  refine z_callVx (As := [_]) gi_241_3 rfl rfl (Nat.le_of_ble_eq_true rfl) (Nat.le_of_ble_eq_true rfl) (rn_k (n := 0) (m := 1) hRr (zU_e) (by decide) (by decide)) ?_
  show zW _ _ _ _ _ _ _ _ _ _
  refine z_iload2 gi_241_6 ?_
  refine z_iload1 gi_241_7 ?_
  refine z_ixor (e := zxor x b) gi_241_8 rfl ?_
  refine z_iret gi_241_9 gr_241 ?_
  show zW _ _ _ _ _ _ _ _ _ _
  refine z_iret gi_243_57 gr_243 ?_
  show zW _ _ _ _ _ _ _ _ _ _
  refine z_goto gi_246_62 ?_
  refine z_iret gi_246_71 gr_246 ?_
  refine ⟨?_, ?_⟩
  · rfl
  · have hk := (zK_x (a := 50) (x := 56) (v := 1) (zK_x (a := 82) (x := 0) (v := 11) (zK_x (a := 50) (x := 56) (v := 0) (zK_x (a := 34) (x := 3) (v := 1) (zK_x (a := 36) (x := 0) (v := 11) (zK_x (a := 34) (x := 5) (v := 2) (zK_x (a := 34) (x := 4) (v := b) (zK_x (a := 34) (x := 3) (v := 0) (zK_r (k := (kL [] [(34, 3), (34, 4), (34, 5), (36, 0), (50, 56), (82, 0)])) (A := J)) rfl) rfl) rfl) rfl) rfl) rfl) rfl) rfl)
    exact ⟨hR, hG, RelY_k hk (by repeat' constructor) (fun p => by repeat' constructor) hY, RelD_k hk (by repeat' constructor) (fun p => by repeat' constructor) hD, RelP_k hk (by repeat' constructor) (fun p => by repeat' constructor) hP, RelC_k hk (by repeat' constructor) (fun p => by repeat' constructor) hC, ⟨(show J 34 1 = J 50 54 from a1), (show 0 ≤ J 34 1 ∧ J 34 1 ≤ 50 from a2), rfl, (show (0 : Int) ≤ 1 ∧ (1 : Int) ≤ 1000 from by decide), (fun i i1 i2 => a5 i i1 i2), (fun i i1 i2 _ => by have i3 : i < 1 := i2; have q : i = 0 := (by omega); subst q; rfl)⟩, RelS_k hk (zK_r (k := kM)) (fun x j a b => ⟨kL_38 (by decide) (by decide) x j a b, kM_38 x j a b⟩) (fun p => ⟨rfl, rfl, rfl⟩) rfl hS, RelT_k hk (by repeat' constructor) (fun p => by repeat' constructor) hTp, RelX_k hk (by repeat' constructor) (fun p => by repeat' constructor) hX, RelW_k hk ⟨rfl, rfl⟩ trivial hW⟩
theorem st_act_23 {X : Nat × (Nat → Int32)} {d : Nat} {J M : zA} {R : zR} {b x : Int} (hr : Rel X J M R) (hb : -2147483648 ≤ b ∧ b < 2147483648) (hx : -2147483648 ≤ x ∧ x < 2147483648) (hb1 : 0 ≤ b ∧ b < J 34 1) (hk : J 35 b = 2) : zW X (d + 20) 134 0 (gEn 134 [(.ref 0), (zi b), (zi 3), (zi x)]) [] J M R (stP X (d + 20) 246 [(zi b), (zi 3), (zi x)]) := by
  have hr0 := hr
  obtain ⟨hR, hG, hY, hD, hP, hC, hAc, hS, hTp, hX, hW⟩ := hr0
  have hRr : zRoR R := zRoR_of hR
  have hA0 := hAc
  obtain ⟨a1, a2, a3, a4, a5, a6⟩ := hA0
  show zW _ _ _ _ [some (.ref 0), some (zi b), some (zi 3), some (zi x)] _ _ _ _ _
  refine z_aload0 gi_134_0 ?_
  refine z_getR (r := 34) gi_134_1 gk_0 (hR _ rm_0_10) ?_
  refine z_iload1 gi_134_4 ?_
  refine z_iload2 gi_134_5 ?_
  refine z_iload3 gi_134_6 ?_
  refine z_cV3 gi_134_7 gk_34 go_7 (Nat.le_of_ble_eq_true rfl) gc_7_RIII ?_
  refine z_aload0 gi_7_0 ?_
  refine z_pushJ gp_7_1 ?_
  refine z_putI (y := 3) gi_7_2 rfl gk_34 ?_
  refine z_aload0 gi_7_5 ?_
  refine z_iload1 gi_7_6 ?_
  refine z_cV1 gi_7_7 gk_34 go_3 (Nat.le_of_ble_eq_true rfl) gc_3_RI ?_
  refine z_iload1 gi_3_0 ?_
  refine z_if_ltF gi_3_1 (by omega) (by omega) ?_
  refine z_iload1 gi_3_4 ?_
  refine z_aload0 gi_3_5 ?_
  refine z_getI (v := J 34 1) gi_3_6 gk_34 ((zU_x (by decide)).trans (rfl)) ?_
  refine z_icmp_geF gi_3_9 (by omega) (by omega) (by omega) ?_
  refine z_pushJ gp_3_12 ?_
  refine z_goto gi_3_13 ?_
  refine z_bret1 gi_3_17 gr_3 ?_
  show zW _ _ _ _ _ _ _ _ _ _
  refine z_if_eqF gi_7_10 zr_1 (by decide) ?_
  refine z_iload2 gi_7_13 ?_
  refine z_if_ltF gi_7_14 zr_3 (by decide) ?_
  refine z_iload2 gi_7_17 ?_
  refine z_pushJ gp_7_18 ?_
  refine z_icmp_ltT gi_7_19 zr_3 zr_4 (by decide) ?_
  refine z_aload0 gi_7_24 ?_
  refine z_iload1 gi_7_25 ?_
  refine z_putI (y := 4) gi_7_26 rfl gk_34 ?_
  refine z_aload0 gi_7_29 ?_
  refine z_aload0 gi_7_30 ?_
  refine z_getR (r := 35) gi_7_31 gk_34 (hR _ rm_34_0) ?_
  refine z_iload1 gi_7_34 ?_
  refine z_iald (v := 2) gi_7_35 gk_35 (by decide) (by omega) ((zU_n (by decide)).trans ((zU_n (by decide)).trans (hk))) ?_
  refine z_putI (y := 5) gi_7_36 rfl gk_34 ?_
  refine z_aload0 gi_7_39 ?_
  refine z_iload2 gi_7_40 ?_
  refine z_iload3 gi_7_41 ?_
  refine z_pushJ gp_7_42 ?_
  refine z_cV3 gi_7_43 gk_34 go_8 (Nat.le_of_ble_eq_true rfl) gc_8_RIII ?_
  refine z_aload0 gi_8_0 ?_
  refine z_aload0 gi_8_1 ?_
  refine z_getI (v := 2) gi_8_2 gk_34 (zU_e) ?_
  refine z_iload1 gi_8_5 ?_
  refine z_iload2 gi_8_6 ?_
  refine z_iload3 gi_8_7 ?_
  refine z_callVi (As := [_, _, _, _]) (le := [some _, some _, some _, some _, some _, none, none]) gi_8_8 rfl gk_34 (Nat.le_of_ble_eq_true rfl) (Nat.le_of_ble_eq_true rfl) rfl ?_
  refine ah_2_3 (by decide) ?_
  refine z_aload0 gi_9_77 ?_
  refine z_iload6 gi_9_78 ?_
  refine z_callVx (As := [_]) gi_9_80 rfl rfl (Nat.le_of_ble_eq_true rfl) (Nat.le_of_ble_eq_true rfl) (bg_k (n := 0) (m := 1) hR ((zU_x (by decide)).trans ((zU_x (by decide)).trans (zU_e))) (by decide) (by decide)) ?_
  show zW _ _ _ _ _ _ _ _ _ _
  refine z_iload5 gi_9_83 ?_
  refine z_if_neF gi_9_85 zr_0 (by decide) ?_
  refine z_aload0 gi_9_88 ?_
  refine z_iload6 gi_9_89 ?_
  refine z_iload3 gi_9_91 ?_
  refine z_iload4 gi_9_92 ?_
  refine z_pushJ gp_9_94 ?_
  refine z_iadd (e := 1) gi_9_95 rfl ?_
  refine z_callVi (As := [_, _, _]) (le := [some _, some _, some _, some _, none]) gi_9_96 rfl gk_34 (Nat.le_of_ble_eq_true rfl) (Nat.le_of_ble_eq_true rfl) rfl ?_
  refine z_iload1 gi_11_0 ?_
  refine z_swI (tg := 51) gi_11_1 (by decide) (T := [((1 : Int), 44), ((2 : Int), 51), ((10 : Int), 71), ((11 : Int), 81)]) rfl (by decide) ?_
  refine z_aload0 gi_11_51 ?_
  refine z_pushJ gp_11_52 ?_
  refine z_iload2 gi_11_53 ?_
  refine z_iload3 gi_11_54 ?_
  refine z_cV3 gi_11_55 gk_34 go_8 (Nat.le_of_ble_eq_true rfl) gc_8_RIII ?_
  refine z_aload0 gi_8_0 ?_
  refine z_aload0 gi_8_1 ?_
  refine z_getI (v := 2) gi_8_2 gk_34 ((zU_x (by decide)).trans ((zU_n (by decide)).trans (zU_e))) ?_
  refine z_iload1 gi_8_5 ?_
  refine z_iload2 gi_8_6 ?_
  refine z_iload3 gi_8_7 ?_
  refine z_callVi (As := [_, _, _, _]) (le := [some _, some _, some _, some _, some _, none, none]) gi_8_8 rfl gk_34 (Nat.le_of_ble_eq_true rfl) (Nat.le_of_ble_eq_true rfl) rfl ?_
  refine ah_2_1 (by decide) ?_
  refine z_aload0 gi_9_77 ?_
  refine z_iload6 gi_9_78 ?_
  refine z_callVx (As := [_]) gi_9_80 rfl rfl (Nat.le_of_ble_eq_true rfl) (Nat.le_of_ble_eq_true rfl) (bg_k (n := 1) (m := 2) hR (zU_e) (by decide) (by decide)) ?_
  show zW _ _ _ _ _ _ _ _ _ _
  refine z_iload5 gi_9_83 ?_
  refine z_if_neT gi_9_85 zr_2 (by decide) ?_
  refine z_aload0 gi_9_100 ?_
  refine z_iload6 gi_9_101 ?_
  refine z_getS gi_9_103 ?_
  refine z_iload5 gi_9_106 ?_
  refine z_sald (j := 4) (n := 8) (v := 0) gi_9_108 (by decide) rfl (by decide) (by decide) rfl ?_
  refine z_iload3 gi_9_109 ?_
  refine z_iload4 gi_9_110 ?_
  refine z_pushJ gp_9_112 ?_
  refine z_iadd (e := 2) gi_9_113 rfl ?_
  refine z_callVi (As := [_, _, _, _]) (le := [some _, some _, some _, some _, some _, none, none]) gi_9_114 rfl gk_34 (Nat.le_of_ble_eq_true rfl) (Nat.le_of_ble_eq_true rfl) rfl ?_
  refine z_iload1 gi_12_0 ?_
  refine z_swI (tg := 104) gi_12_1 (by decide) (T := [((20 : Int), 92), ((30 : Int), 104), ((40 : Int), 115), ((41 : Int), 127), ((50 : Int), 139), ((60 : Int), 151), ((61 : Int), 174), ((70 : Int), 186), ((80 : Int), 198), ((81 : Int), 221)]) rfl (by decide) ?_
  refine z_aload0 gi_12_104 ?_
  refine z_iload2 gi_12_105 ?_
  refine z_pushJ gp_12_106 ?_
  refine z_iload3 gi_12_107 ?_
  refine z_iload4 gi_12_108 ?_
  refine z_callVi (As := [_, _, _, _]) (le := [some _, some _, some _, some _, some _, none, none]) gi_12_110 rfl gk_34 (Nat.le_of_ble_eq_true rfl) (Nat.le_of_ble_eq_true rfl) rfl ?_
  refine ah_0_1 (by decide) ?_
  refine z_aload0 gi_9_77 ?_
  refine z_iload6 gi_9_78 ?_
  refine z_callVx (As := [_]) gi_9_80 rfl rfl (Nat.le_of_ble_eq_true rfl) (Nat.le_of_ble_eq_true rfl) (bg_k (n := 2) (m := 3) hR (zU_e) (by decide) (by decide)) ?_
  show zW _ _ _ _ _ _ _ _ _ _
  refine z_iload5 gi_9_83 ?_
  refine z_if_neF gi_9_85 zr_0 (by decide) ?_
  refine z_aload0 gi_9_88 ?_
  refine z_iload6 gi_9_89 ?_
  refine z_iload3 gi_9_91 ?_
  refine z_iload4 gi_9_92 ?_
  refine z_pushJ gp_9_94 ?_
  refine z_iadd (e := 3) gi_9_95 rfl ?_
  refine z_callVi (As := [_, _, _]) (le := [some _, some _, some _, some _, none]) gi_9_96 rfl gk_34 (Nat.le_of_ble_eq_true rfl) (Nat.le_of_ble_eq_true rfl) rfl ?_
  refine z_iload1 gi_11_0 ?_
  refine z_swI (tg := 71) gi_11_1 (by decide) (T := [((1 : Int), 44), ((2 : Int), 51), ((10 : Int), 71), ((11 : Int), 81)]) rfl (by decide) ?_
  refine z_aload0 gi_11_71 ?_
  refine z_pushJ gp_11_72 ?_
  refine z_iload2 gi_11_73 ?_
  refine z_iload3 gi_11_74 ?_
  refine z_cV3 gi_11_75 gk_34 go_8 (Nat.le_of_ble_eq_true rfl) gc_8_RIII ?_
  refine z_aload0 gi_8_0 ?_
  refine z_aload0 gi_8_1 ?_
  refine z_getI (v := 2) gi_8_2 gk_34 ((zU_x (by decide)).trans ((zU_n (by decide)).trans ((zU_x (by decide)).trans ((zU_n (by decide)).trans ((zU_x (by decide)).trans ((zU_n (by decide)).trans (zU_e))))))) ?_
  refine z_iload1 gi_8_5 ?_
  refine z_iload2 gi_8_6 ?_
  refine z_iload3 gi_8_7 ?_
  refine z_callVi (As := [_, _, _, _]) (le := [some _, some _, some _, some _, some _, none, none]) gi_8_8 rfl gk_34 (Nat.le_of_ble_eq_true rfl) (Nat.le_of_ble_eq_true rfl) rfl ?_
  refine ah_2_0 (by decide) ?_
  refine z_aload0 gi_9_77 ?_
  refine z_iload6 gi_9_78 ?_
  refine z_callVx (As := [_]) gi_9_80 rfl rfl (Nat.le_of_ble_eq_true rfl) (Nat.le_of_ble_eq_true rfl) (bg_k (n := 3) (m := 4) hR (zU_e) (by decide) (by decide)) ?_
  show zW _ _ _ _ _ _ _ _ _ _
  refine z_iload5 gi_9_83 ?_
  refine z_if_neF gi_9_85 zr_0 (by decide) ?_
  refine z_aload0 gi_9_88 ?_
  refine z_iload6 gi_9_89 ?_
  refine z_iload3 gi_9_91 ?_
  refine z_iload4 gi_9_92 ?_
  refine z_pushJ gp_9_94 ?_
  refine z_iadd (e := 4) gi_9_95 rfl ?_
  refine z_callVi (As := [_, _, _]) (le := [some _, some _, some _, some _, none]) gi_9_96 rfl gk_34 (Nat.le_of_ble_eq_true rfl) (Nat.le_of_ble_eq_true rfl) rfl ?_
  refine z_iload1 gi_11_0 ?_
  refine z_swI (tg := 44) gi_11_1 (by decide) (T := [((1 : Int), 44), ((2 : Int), 51), ((10 : Int), 71), ((11 : Int), 81)]) rfl (by decide) ?_
  refine z_iload2 gi_11_44 ?_
  refine z_aload0 gi_11_45 ?_
  refine z_getI (v := b) gi_11_46 gk_34 ((zU_x (by decide)).trans ((zU_n (by decide)).trans ((zU_x (by decide)).trans ((zU_n (by decide)).trans ((zU_x (by decide)).trans ((zU_n (by decide)).trans ((zU_x (by decide)).trans ((zU_n (by decide)).trans ((zU_x (by decide)).trans (zU_e)))))))))) ?_
  refine z_iadd (e := x + b) gi_11_49 rfl ?_
  refine z_iret gi_11_50 gr_11 ?_
  show zW _ _ _ _ _ _ _ _ _ _
  refine z_iret gi_9_99 gr_9 ?_
  show zW _ _ _ _ _ _ _ _ _ _
  refine z_iret gi_8_11 gr_8 ?_
  show zW _ _ _ _ _ _ _ _ _ _
  refine z_pushJ gp_11_78 ?_
  refine z_imul (e := (x + b) * 2) gi_11_79 rfl ?_
  refine z_iret gi_11_80 gr_11 ?_
  show zW _ _ _ _ _ _ _ _ _ _
  refine z_iret gi_9_99 gr_9 ?_
  show zW _ _ _ _ _ _ _ _ _ _
  refine z_ineg (e := -((x + b) * 2)) gi_12_113 rfl ?_
  refine z_iret gi_12_114 gr_12 ?_
  show zW _ _ _ _ _ _ _ _ _ _
  refine z_iret gi_9_117 gr_9 ?_
  show zW _ _ _ _ _ _ _ _ _ _
  refine z_iret gi_8_11 gr_8 ?_
  show zW _ _ _ _ _ _ _ _ _ _
  refine z_istore (ls1 := [some (.ref 34), some (zi 2), some (zi x), some (zi 1), some (zi (-((x + b) * 2)))]) gi_11_58 rfl ?_
  refine z_iload4 gi_11_60 ?_
  refine z_aload0 gi_11_62 ?_
  refine z_pushJ gp_11_63 ?_
  refine z_pushJ gp_11_64 ?_
  refine z_iload3 gi_11_65 ?_
  refine z_cV3 gi_11_66 gk_34 go_8 (Nat.le_of_ble_eq_true rfl) gc_8_RIII ?_
  refine z_aload0 gi_8_0 ?_
  refine z_aload0 gi_8_1 ?_
  refine z_getI (v := 2) gi_8_2 gk_34 ((zU_x (by decide)).trans ((zU_n (by decide)).trans ((zU_x (by decide)).trans ((zU_n (by decide)).trans ((zU_x (by decide)).trans ((zU_n (by decide)).trans ((zU_x (by decide)).trans ((zU_n (by decide)).trans (zU_e))))))))) ?_
  refine z_iload1 gi_8_5 ?_
  refine z_iload2 gi_8_6 ?_
  refine z_iload3 gi_8_7 ?_
  refine z_callVi (As := [_, _, _, _]) (le := [some _, some _, some _, some _, some _, none, none]) gi_8_8 rfl gk_34 (Nat.le_of_ble_eq_true rfl) (Nat.le_of_ble_eq_true rfl) rfl ?_
  refine ah_2_2 (by decide) ?_
  refine z_aload0 gi_9_77 ?_
  refine z_iload6 gi_9_78 ?_
  refine z_callVx (As := [_]) gi_9_80 rfl rfl (Nat.le_of_ble_eq_true rfl) (Nat.le_of_ble_eq_true rfl) (bg_k (n := 4) (m := 5) hR (zU_e) (by decide) (by decide)) ?_
  show zW _ _ _ _ _ _ _ _ _ _
  refine z_iload5 gi_9_83 ?_
  refine z_if_neF gi_9_85 zr_0 (by decide) ?_
  refine z_aload0 gi_9_88 ?_
  refine z_iload6 gi_9_89 ?_
  refine z_iload3 gi_9_91 ?_
  refine z_iload4 gi_9_92 ?_
  refine z_pushJ gp_9_94 ?_
  refine z_iadd (e := 2) gi_9_95 rfl ?_
  refine z_callVi (As := [_, _, _]) (le := [some _, some _, some _, some _, none]) gi_9_96 rfl gk_34 (Nat.le_of_ble_eq_true rfl) (Nat.le_of_ble_eq_true rfl) rfl ?_
  refine z_iload1 gi_11_0 ?_
  refine z_swI (tg := 81) gi_11_1 (by decide) (T := [((1 : Int), 44), ((2 : Int), 51), ((10 : Int), 71), ((11 : Int), 81)]) rfl (by decide) ?_
  refine z_iload2 gi_11_81 ?_
  refine z_aload0 gi_11_82 ?_
  refine z_getI (v := b) gi_11_83 gk_34 ((zU_x (by decide)).trans ((zU_n (by decide)).trans ((zU_x (by decide)).trans ((zU_n (by decide)).trans ((zU_x (by decide)).trans ((zU_n (by decide)).trans ((zU_x (by decide)).trans ((zU_n (by decide)).trans ((zU_x (by decide)).trans ((zU_n (by decide)).trans ((zU_x (by decide)).trans (zU_e)))))))))))) ?_
  refine z_ixor (e := zxor 1 b) gi_11_86 rfl ?_
  refine z_iret gi_11_87 gr_11 ?_
  show zW _ _ _ _ _ _ _ _ _ _
  refine z_iret gi_9_99 gr_9 ?_
  show zW _ _ _ _ _ _ _ _ _ _
  refine z_iret gi_8_11 gr_8 ?_
  show zW _ _ _ _ _ _ _ _ _ _
  refine z_isub (e := (-((x + b) * 2)) - (zxor 1 b)) gi_11_69 rfl ?_
  refine z_iret gi_11_70 gr_11 ?_
  show zW _ _ _ _ _ _ _ _ _ _
  refine z_iret gi_9_99 gr_9 ?_
  show zW _ _ _ _ _ _ _ _ _ _
  refine z_iret gi_8_11 gr_8 ?_
  show zW _ _ _ _ _ _ _ _ _ _
  refine z_iret gi_7_46 gr_7 ?_
  show zW _ _ _ _ _ _ _ _ _ _
  refine z_iret gi_134_10 gr_134 ?_
  refine ⟨_, rfl, ?_⟩
  show zW _ _ _ _ [some (.ref 50), some (zi b), some (zi 3), some (zi x)] _ _ _ _ _
  refine z_aload0 gi_246_0 ?_
  refine z_pushJ gp_246_1 ?_
  refine z_putI (y := 56) gi_246_2 rfl gk_50 ?_
  refine z_aload0 gi_246_5 ?_
  refine z_iload1 gi_246_6 ?_
  refine z_cV1 gi_246_7 gk_50 go_230 (Nat.le_of_ble_eq_true rfl) gc_230_RI ?_
  refine z_iload1 gi_230_0 ?_
  refine z_pushJ gp_230_1 ?_
  refine z_aload0 gi_230_2 ?_
  refine z_getI (v := J 34 1) gi_230_3 gk_50 ((zU_x (by decide)).trans ((zU_n (by decide)).trans ((zU_n (by decide)).trans ((zU_n (by decide)).trans ((zU_n (by decide)).trans ((zU_n (by decide)).trans ((zU_n (by decide)).trans ((zU_n (by decide)).trans ((zU_n (by decide)).trans ((zU_n (by decide)).trans ((zU_n (by decide)).trans ((zU_n (by decide)).trans ((zU_n (by decide)).trans ((zU_n (by decide)).trans (a1.symm))))))))))))))) ?_
  refine z_pushJ gp_230_6 ?_
  refine z_isub (e := (J 34 1) - 1) gi_230_7 rfl ?_
  refine z_cS3 gi_230_8 (Nat.le_of_ble_eq_true rfl) gc_148_III ?_
  refine z_iload0 gi_148_0 ?_
  refine z_iload1 gi_148_1 ?_
  refine z_icmp_ltF gi_148_2 (by omega) zr_0 (by omega) ?_
  refine z_iload0 gi_148_5 ?_
  refine z_iload2 gi_148_6 ?_
  refine z_icmp_gtF gi_148_7 (by omega) (by omega) (by omega) ?_
  refine z_pushJ gp_148_10 ?_
  refine z_goto gi_148_11 ?_
  refine z_bret1 gi_148_15 gr_148 ?_
  show zW _ _ _ _ _ _ _ _ _ _
  refine z_bret1 gi_230_11 gr_230 ?_
  show zW _ _ _ _ _ _ _ _ _ _
  refine z_if_eqF gi_246_10 zr_1 (by decide) ?_
  refine z_iload2 gi_246_13 ?_
  refine z_pushJ gp_246_14 ?_
  refine z_pushJ gp_246_15 ?_
  refine z_cS3 gi_246_16 (Nat.le_of_ble_eq_true rfl) gc_148_III ?_
  refine z_iload0 gi_148_0 ?_
  refine z_iload1 gi_148_1 ?_
  refine z_icmp_ltF gi_148_2 zr_3 zr_0 (by decide) ?_
  refine z_iload0 gi_148_5 ?_
  refine z_iload2 gi_148_6 ?_
  refine z_icmp_gtF gi_148_7 zr_3 zr_3 (by decide) ?_
  refine z_pushJ gp_148_10 ?_
  refine z_goto gi_148_11 ?_
  refine z_bret1 gi_148_15 gr_148 ?_
  show zW _ _ _ _ _ _ _ _ _ _
  refine z_if_neT gi_246_19 zr_1 (by decide) ?_
  refine z_iload2 gi_246_24 ?_
  refine z_if_neT gi_246_25 zr_3 (by decide) ?_
  refine z_iload2 gi_246_37 ?_
  refine z_pushJ gp_246_38 ?_
  refine z_icmp_neT gi_246_39 zr_3 zr_1 (by decide) ?_
  refine z_iload2 gi_246_51 ?_
  refine z_pushJ gp_246_52 ?_
  refine z_icmp_neT gi_246_53 zr_3 zr_2 (by decide) ?_
  refine z_aload0 gi_246_65 ?_
  refine z_iload1 gi_246_66 ?_
  refine z_iload3 gi_246_67 ?_
  refine z_cV2 gi_246_68 gk_50 go_245 (Nat.le_of_ble_eq_true rfl) gc_245_RII ?_
  refine z_aload0 gi_245_0 ?_
  refine z_getR (r := 81) gi_245_1 gk_50 (hRr _ rm_50_55 (by decide)) ?_
  refine z_iload1 gi_245_4 ?_
  refine z_iald (v := 2) gi_245_5 gk_81 (by decide) (by omega) ((zU_n (by decide)).trans ((zU_n (by decide)).trans ((zU_n (by decide)).trans ((zU_n (by decide)).trans ((zU_n (by decide)).trans ((zU_n (by decide)).trans ((zU_n (by decide)).trans ((zU_n (by decide)).trans ((zU_n (by decide)).trans ((zU_n (by decide)).trans ((zU_n (by decide)).trans ((zU_n (by decide)).trans ((zU_n (by decide)).trans ((zU_n (by decide)).trans ((a5 _ hb1.1 hb1.2).1.symm.trans hk))))))))))))))) ?_
  refine z_pushJ gp_245_6 ?_
  refine z_icmp_neT gi_245_7 zr_2 zr_4 (by decide) ?_
  refine z_aload0 gi_245_25 ?_
  refine z_getR (r := 81) gi_245_26 gk_50 (hRr _ rm_50_55 (by decide)) ?_
  refine z_iload1 gi_245_29 ?_
  refine z_iald (v := 2) gi_245_30 gk_81 (by decide) (by omega) ((zU_n (by decide)).trans ((zU_n (by decide)).trans ((zU_n (by decide)).trans ((zU_n (by decide)).trans ((zU_n (by decide)).trans ((zU_n (by decide)).trans ((zU_n (by decide)).trans ((zU_n (by decide)).trans ((zU_n (by decide)).trans ((zU_n (by decide)).trans ((zU_n (by decide)).trans ((zU_n (by decide)).trans ((zU_n (by decide)).trans ((zU_n (by decide)).trans ((a5 _ hb1.1 hb1.2).1.symm.trans hk))))))))))))))) ?_
  refine z_pushJ gp_245_31 ?_
  refine z_icmp_neT gi_245_32 zr_2 zr_5 (by decide) ?_
  refine z_aload0 gi_245_50 ?_
  refine z_iload1 gi_245_51 ?_
  refine z_iload2 gi_245_52 ?_
  refine z_callVi (As := [_, _]) (le := [some _, some _, some _, none]) gi_245_53 rfl gk_50 (Nat.le_of_ble_eq_true rfl) (Nat.le_of_ble_eq_true rfl) rfl ?_
  refine z_aload0 gi_244_0 ?_
  refine z_pushJ gp_244_1 ?_
  refine z_callVx (As := [_]) gi_244_2 rfl rfl (Nat.le_of_ble_eq_true rfl) (Nat.le_of_ble_eq_true rfl) (rn_k (n := 0) (m := 1) hRr (zU_e) (by decide) (by decide)) ?_
  show zW _ _ _ _ _ _ _ _ _ _
  refine z_aload0 gi_244_5 ?_
  refine z_iload1 gi_244_6 ?_
  refine z_iload2 gi_244_7 ?_
  refine z_callVi (As := [_, _]) (le := [some _, some _, some _, none]) gi_244_8 rfl gk_50 (Nat.le_of_ble_eq_true rfl) (Nat.le_of_ble_eq_true rfl) rfl ?_
  refine z_aload0 gi_240_0 ?_
  refine z_getR (r := 81) gi_240_1 gk_50 (hRr _ rm_50_55 (by decide)) ?_
  refine z_iload1 gi_240_4 ?_
  refine z_iald (v := 2) gi_240_5 gk_81 (by decide) (by omega) ((zU_n (by decide)).trans ((zU_n (by decide)).trans ((zU_n (by decide)).trans ((zU_n (by decide)).trans ((zU_n (by decide)).trans ((zU_n (by decide)).trans ((zU_n (by decide)).trans ((zU_n (by decide)).trans ((zU_n (by decide)).trans ((zU_n (by decide)).trans ((zU_n (by decide)).trans ((zU_n (by decide)).trans ((zU_n (by decide)).trans ((zU_n (by decide)).trans ((zU_n (by decide)).trans ((zU_n (by decide)).trans ((a5 _ hb1.1 hb1.2).1.symm.trans hk))))))))))))))))) ?_
  refine z_pushJ gp_240_6 ?_
  refine z_callSP (As := [_, _]) (v := 0) gi_240_7 rfl (Nat.le_of_ble_eq_true rfl) (Nat.le_of_ble_eq_true rfl) iu_2_3 ?_
  refine z_if_eqT gi_240_10 zr_0 (by decide) ?_
  refine z_aload0 gi_240_28 ?_
  refine z_getR (r := 81) gi_240_29 gk_50 (hRr _ rm_50_55 (by decide)) ?_
  refine z_iload1 gi_240_32 ?_
  refine z_iald (v := 2) gi_240_33 gk_81 (by decide) (by omega) ((zU_n (by decide)).trans ((zU_n (by decide)).trans ((zU_n (by decide)).trans ((zU_n (by decide)).trans ((zU_n (by decide)).trans ((zU_n (by decide)).trans ((zU_n (by decide)).trans ((zU_n (by decide)).trans ((zU_n (by decide)).trans ((zU_n (by decide)).trans ((zU_n (by decide)).trans ((zU_n (by decide)).trans ((zU_n (by decide)).trans ((zU_n (by decide)).trans ((zU_n (by decide)).trans ((zU_n (by decide)).trans ((a5 _ hb1.1 hb1.2).1.symm.trans hk))))))))))))))))) ?_
  refine z_pushJ gp_240_34 ?_
  refine z_icmp_neT gi_240_36 zr_2 zr_7 (by decide) ?_
  refine z_aload0 gi_240_61 ?_
  refine z_getR (r := 81) gi_240_62 gk_50 (hRr _ rm_50_55 (by decide)) ?_
  refine z_iload1 gi_240_65 ?_
  refine z_iald (v := 2) gi_240_66 gk_81 (by decide) (by omega) ((zU_n (by decide)).trans ((zU_n (by decide)).trans ((zU_n (by decide)).trans ((zU_n (by decide)).trans ((zU_n (by decide)).trans ((zU_n (by decide)).trans ((zU_n (by decide)).trans ((zU_n (by decide)).trans ((zU_n (by decide)).trans ((zU_n (by decide)).trans ((zU_n (by decide)).trans ((zU_n (by decide)).trans ((zU_n (by decide)).trans ((zU_n (by decide)).trans ((zU_n (by decide)).trans ((zU_n (by decide)).trans ((a5 _ hb1.1 hb1.2).1.symm.trans hk))))))))))))))))) ?_
  refine z_pushJ gp_240_67 ?_
  refine z_icmp_neF gi_240_68 zr_2 zr_2 (by decide) ?_
  refine z_aload0 gi_240_71 ?_
  refine z_iload1 gi_240_72 ?_
  refine z_iload2 gi_240_73 ?_
  refine z_cV2 gi_240_74 gk_50 go_239 (Nat.le_of_ble_eq_true rfl) gc_239_RII ?_
  refine z_aload0 gi_239_0 ?_
  refine z_pushJ gp_239_1 ?_
  refine z_callVx (As := [_]) gi_239_3 rfl rfl (Nat.le_of_ble_eq_true rfl) (Nat.le_of_ble_eq_true rfl) (rn_k (n := 1) (m := 2) hRr (zU_e) (by decide) (by decide)) ?_
  show zW _ _ _ _ _ _ _ _ _ _
  refine z_aload0 gi_239_6 ?_
  refine z_iload1 gi_239_7 ?_
  refine z_iload2 gi_239_8 ?_
  refine z_cV2 gi_239_9 gk_50 go_238 (Nat.le_of_ble_eq_true rfl) gc_238_RII ?_
  refine z_aload0 gi_238_0 ?_
  refine z_pushJ gp_238_1 ?_
  refine z_callVx (As := [_]) gi_238_3 rfl rfl (Nat.le_of_ble_eq_true rfl) (Nat.le_of_ble_eq_true rfl) (rn_k (n := 2) (m := 3) hRr (zU_e) (by decide) (by decide)) ?_
  show zW _ _ _ _ _ _ _ _ _ _
  refine z_aload0 gi_238_6 ?_
  refine z_iload1 gi_238_7 ?_
  refine z_iload2 gi_238_8 ?_
  refine z_cV2 gi_238_9 gk_50 go_237 (Nat.le_of_ble_eq_true rfl) gc_237_RII ?_
  refine z_aload0 gi_237_0 ?_
  refine z_getR (r := 81) gi_237_1 gk_50 (hRr _ rm_50_55 (by decide)) ?_
  refine z_iload1 gi_237_4 ?_
  refine z_iald (v := 2) gi_237_5 gk_81 (by decide) (by omega) ((zU_n (by decide)).trans ((zU_n (by decide)).trans ((zU_n (by decide)).trans ((zU_n (by decide)).trans ((zU_n (by decide)).trans ((zU_n (by decide)).trans ((zU_n (by decide)).trans ((zU_n (by decide)).trans ((zU_n (by decide)).trans ((zU_n (by decide)).trans ((zU_n (by decide)).trans ((zU_n (by decide)).trans ((zU_n (by decide)).trans ((zU_n (by decide)).trans ((zU_n (by decide)).trans ((zU_n (by decide)).trans ((zU_n (by decide)).trans ((zU_n (by decide)).trans ((zU_n (by decide)).trans ((zU_n (by decide)).trans ((a5 _ hb1.1 hb1.2).1.symm.trans hk))))))))))))))))))))) ?_
  refine z_pushJ gp_237_6 ?_
  refine z_callSP (As := [_, _]) (v := 0) gi_237_7 rfl (Nat.le_of_ble_eq_true rfl) (Nat.le_of_ble_eq_true rfl) iu_2_1 ?_
  refine z_if_eqT gi_237_10 zr_0 (by decide) ?_
  refine z_aload0 gi_237_28 ?_
  refine z_getR (r := 81) gi_237_29 gk_50 (hRr _ rm_50_55 (by decide)) ?_
  refine z_iload1 gi_237_32 ?_
  refine z_iald (v := 2) gi_237_33 gk_81 (by decide) (by omega) ((zU_n (by decide)).trans ((zU_n (by decide)).trans ((zU_n (by decide)).trans ((zU_n (by decide)).trans ((zU_n (by decide)).trans ((zU_n (by decide)).trans ((zU_n (by decide)).trans ((zU_n (by decide)).trans ((zU_n (by decide)).trans ((zU_n (by decide)).trans ((zU_n (by decide)).trans ((zU_n (by decide)).trans ((zU_n (by decide)).trans ((zU_n (by decide)).trans ((zU_n (by decide)).trans ((zU_n (by decide)).trans ((zU_n (by decide)).trans ((zU_n (by decide)).trans ((zU_n (by decide)).trans ((zU_n (by decide)).trans ((a5 _ hb1.1 hb1.2).1.symm.trans hk))))))))))))))))))))) ?_
  refine z_pushJ gp_237_34 ?_
  refine z_icmp_neT gi_237_36 zr_2 zr_7 (by decide) ?_
  refine z_aload0 gi_237_54 ?_
  refine z_getR (r := 81) gi_237_55 gk_50 (hRr _ rm_50_55 (by decide)) ?_
  refine z_iload1 gi_237_58 ?_
  refine z_iald (v := 2) gi_237_59 gk_81 (by decide) (by omega) ((zU_n (by decide)).trans ((zU_n (by decide)).trans ((zU_n (by decide)).trans ((zU_n (by decide)).trans ((zU_n (by decide)).trans ((zU_n (by decide)).trans ((zU_n (by decide)).trans ((zU_n (by decide)).trans ((zU_n (by decide)).trans ((zU_n (by decide)).trans ((zU_n (by decide)).trans ((zU_n (by decide)).trans ((zU_n (by decide)).trans ((zU_n (by decide)).trans ((zU_n (by decide)).trans ((zU_n (by decide)).trans ((zU_n (by decide)).trans ((zU_n (by decide)).trans ((zU_n (by decide)).trans ((zU_n (by decide)).trans ((a5 _ hb1.1 hb1.2).1.symm.trans hk))))))))))))))))))))) ?_
  refine z_pushJ gp_237_60 ?_
  refine z_icmp_neT gi_237_62 zr_2 zr_6 (by decide) ?_
  refine z_aload0 gi_237_74 ?_
  refine z_iload1 gi_237_75 ?_
  refine z_iload2 gi_237_76 ?_
  refine z_cV2 gi_237_77 gk_50 go_235 (Nat.le_of_ble_eq_true rfl) gc_235_RII ?_
  refine z_aload0 gi_235_0 ?_
  refine z_pushJ gp_235_1 ?_
  refine z_callVx (As := [_]) gi_235_2 rfl rfl (Nat.le_of_ble_eq_true rfl) (Nat.le_of_ble_eq_true rfl) (rn_k (n := 3) (m := 4) hRr (zU_e) (by decide) (by decide)) ?_
  show zW _ _ _ _ _ _ _ _ _ _
  refine z_iload2 gi_235_5 ?_
  refine z_iload1 gi_235_6 ?_
  refine z_iadd (e := x + b) gi_235_7 rfl ?_
  refine z_iret gi_235_8 gr_235 ?_
  show zW _ _ _ _ _ _ _ _ _ _
  refine z_iret gi_237_80 gr_237 ?_
  show zW _ _ _ _ _ _ _ _ _ _
  refine z_pushJ gp_238_12 ?_
  refine z_imul (e := (x + b) * 2) gi_238_13 rfl ?_
  refine z_iret gi_238_14 gr_238 ?_
  show zW _ _ _ _ _ _ _ _ _ _
  refine z_ineg (e := -((x + b) * 2)) gi_239_12 rfl ?_
  refine z_iret gi_239_13 gr_239 ?_
  show zW _ _ _ _ _ _ _ _ _ _
  refine z_goto gi_240_77 ?_
  refine z_iret gi_240_86 gr_240 ?_
  show zW _ _ _ _ _ _ _ _ _ _
  refine z_istore (ls1 := [some (.ref 50), some (zi b), some (zi x), some (zi (-((x + b) * 2)))]) gi_244_11 rfl ?_
  refine z_iload3 gi_244_12 ?_
  refine z_aload0 gi_244_13 ?_
  refine z_iload1 gi_244_14 ?_
  refine z_pushJ gp_244_15 ?_
  refine z_callVi (As := [_, _]) (le := [some _, some _, some _, none]) gi_244_16 rfl gk_50 (Nat.le_of_ble_eq_true rfl) (Nat.le_of_ble_eq_true rfl) rfl ?_
  refine z_aload0 gi_243_0 ?_
  refine z_getR (r := 81) gi_243_1 gk_50 (hRr _ rm_50_55 (by decide)) ?_
  refine z_iload1 gi_243_4 ?_
  refine z_iald (v := 2) gi_243_5 gk_81 (by decide) (by omega) ((zU_n (by decide)).trans ((zU_n (by decide)).trans ((zU_n (by decide)).trans ((zU_n (by decide)).trans ((zU_n (by decide)).trans ((zU_n (by decide)).trans ((zU_n (by decide)).trans ((zU_n (by decide)).trans ((zU_n (by decide)).trans ((zU_n (by decide)).trans ((zU_n (by decide)).trans ((zU_n (by decide)).trans ((zU_n (by decide)).trans ((zU_n (by decide)).trans ((zU_n (by decide)).trans ((zU_n (by decide)).trans ((zU_n (by decide)).trans ((zU_n (by decide)).trans ((zU_n (by decide)).trans ((zU_n (by decide)).trans ((zU_n (by decide)).trans ((zU_n (by decide)).trans ((a5 _ hb1.1 hb1.2).1.symm.trans hk))))))))))))))))))))))) ?_
  refine z_pushJ gp_243_6 ?_
  refine z_icmp_neT gi_243_7 zr_2 zr_5 (by decide) ?_
  refine z_aload0 gi_243_32 ?_
  refine z_getR (r := 81) gi_243_33 gk_50 (hRr _ rm_50_55 (by decide)) ?_
  refine z_iload1 gi_243_36 ?_
  refine z_iald (v := 2) gi_243_37 gk_81 (by decide) (by omega) ((zU_n (by decide)).trans ((zU_n (by decide)).trans ((zU_n (by decide)).trans ((zU_n (by decide)).trans ((zU_n (by decide)).trans ((zU_n (by decide)).trans ((zU_n (by decide)).trans ((zU_n (by decide)).trans ((zU_n (by decide)).trans ((zU_n (by decide)).trans ((zU_n (by decide)).trans ((zU_n (by decide)).trans ((zU_n (by decide)).trans ((zU_n (by decide)).trans ((zU_n (by decide)).trans ((zU_n (by decide)).trans ((zU_n (by decide)).trans ((zU_n (by decide)).trans ((zU_n (by decide)).trans ((zU_n (by decide)).trans ((zU_n (by decide)).trans ((zU_n (by decide)).trans ((a5 _ hb1.1 hb1.2).1.symm.trans hk))))))))))))))))))))))) ?_
  refine z_pushJ gp_243_38 ?_
  refine z_icmp_neT gi_243_39 zr_2 zr_3 (by decide) ?_
  refine z_aload0 gi_243_51 ?_
  refine z_iload1 gi_243_52 ?_
  refine z_iload2 gi_243_53 ?_
  refine z_cV2 gi_243_54 gk_50 go_241 (Nat.le_of_ble_eq_true rfl) gc_241_RII ?_
  refine z_aload0 gi_241_0 ?_
  refine z_pushJ gp_241_1 ?_
  refine z_callVx (As := [_]) gi_241_3 rfl rfl (Nat.le_of_ble_eq_true rfl) (Nat.le_of_ble_eq_true rfl) (rn_k (n := 4) (m := 5) hRr (zU_e) (by decide) (by decide)) ?_
  show zW _ _ _ _ _ _ _ _ _ _
  refine z_iload2 gi_241_6 ?_
  refine z_iload1 gi_241_7 ?_
  refine z_ixor (e := zxor 1 b) gi_241_8 rfl ?_
  refine z_iret gi_241_9 gr_241 ?_
  show zW _ _ _ _ _ _ _ _ _ _
  refine z_iret gi_243_57 gr_243 ?_
  show zW _ _ _ _ _ _ _ _ _ _
  refine z_isub (e := (-((x + b) * 2)) - (zxor 1 b)) gi_244_19 rfl ?_
  refine z_iret gi_244_20 gr_244 ?_
  show zW _ _ _ _ _ _ _ _ _ _
  refine z_iret gi_245_56 gr_245 ?_
  show zW _ _ _ _ _ _ _ _ _ _
  refine z_iret gi_246_71 gr_246 ?_
  refine ⟨?_, ?_⟩
  · rfl
  · have hk := (zK_x (a := 50) (x := 56) (v := 5) (zK_x (a := 82) (x := 4) (v := 11) (zK_x (a := 50) (x := 56) (v := 4) (zK_x (a := 82) (x := 3) (v := 1) (zK_x (a := 50) (x := 56) (v := 3) (zK_x (a := 82) (x := 2) (v := 10) (zK_x (a := 50) (x := 56) (v := 2) (zK_x (a := 82) (x := 1) (v := 30) (zK_x (a := 50) (x := 56) (v := 1) (zK_x (a := 82) (x := 0) (v := 2) (zK_x (a := 50) (x := 56) (v := 0) (zK_x (a := 34) (x := 3) (v := 5) (zK_x (a := 36) (x := 4) (v := 11) (zK_x (a := 34) (x := 3) (v := 4) (zK_x (a := 36) (x := 3) (v := 1) (zK_x (a := 34) (x := 3) (v := 3) (zK_x (a := 36) (x := 2) (v := 10) (zK_x (a := 34) (x := 3) (v := 2) (zK_x (a := 36) (x := 1) (v := 30) (zK_x (a := 34) (x := 3) (v := 1) (zK_x (a := 36) (x := 0) (v := 2) (zK_x (a := 34) (x := 5) (v := 2) (zK_x (a := 34) (x := 4) (v := b) (zK_x (a := 34) (x := 3) (v := 0) (zK_r (k := (kL [] [(34, 3), (34, 4), (34, 5), (36, 0), (36, 1), (36, 2), (36, 3), (36, 4), (50, 56), (82, 0), (82, 1), (82, 2), (82, 3), (82, 4)])) (A := J)) rfl) rfl) rfl) rfl) rfl) rfl) rfl) rfl) rfl) rfl) rfl) rfl) rfl) rfl) rfl) rfl) rfl) rfl) rfl) rfl) rfl) rfl) rfl) rfl)
    exact ⟨hR, hG, RelY_k hk (by repeat' constructor) (fun p => by repeat' constructor) hY, RelD_k hk (by repeat' constructor) (fun p => by repeat' constructor) hD, RelP_k hk (by repeat' constructor) (fun p => by repeat' constructor) hP, RelC_k hk (by repeat' constructor) (fun p => by repeat' constructor) hC, ⟨(show J 34 1 = J 50 54 from a1), (show 0 ≤ J 34 1 ∧ J 34 1 ≤ 50 from a2), rfl, (show (0 : Int) ≤ 5 ∧ (5 : Int) ≤ 1000 from by decide), (fun i i1 i2 => a5 i i1 i2), (fun i i1 i2 _ => by have i3 : i < 5 := i2; have q : i = 0 ∨ i = 1 ∨ i = 2 ∨ i = 3 ∨ i = 4 := (by omega); rcases q with rfl | rfl | rfl | rfl | rfl <;> rfl)⟩, RelS_k hk (zK_r (k := kM)) (fun x j a b => ⟨kL_38 (by decide) (by decide) x j a b, kM_38 x j a b⟩) (fun p => ⟨rfl, rfl, rfl⟩) rfl hS, RelT_k hk (by repeat' constructor) (fun p => by repeat' constructor) hTp, RelX_k hk (by repeat' constructor) (fun p => by repeat' constructor) hX, RelW_k hk ⟨rfl, rfl⟩ trivial hW⟩
theorem iu_3_1 {X : Nat × (Nat → Int32)} {d : Nat} {J M : zA} {R : zR} : zW X d 234 0 (gEn 234 [(zi 3), (zi 1)]) [] J M R (zPu 0 J M R) := by
  show zW _ _ _ _ [some (zi 3), some (zi 1)] _ _ _ _ _
  refine z_iload1 gi_234_0 ?_
  refine z_if_eqF gi_234_1 zr_1 (by decide) ?_
  refine z_iload0 gi_234_4 ?_
  refine z_iload1 gi_234_5 ?_
  refine z_icmp_eqF gi_234_6 zr_3 zr_1 (by decide) ?_
  refine z_iload1 gi_234_9 ?_
  refine z_pushJ gp_234_10 ?_
  refine z_icmp_neF gi_234_11 zr_1 zr_1 (by decide) ?_
  refine z_iload0 gi_234_14 ?_
  refine z_pushJ gp_234_15 ?_
  refine z_icmp_eqF gi_234_16 zr_3 zr_4 (by decide) ?_
  refine z_iload1 gi_234_19 ?_
  refine z_pushJ gp_234_20 ?_
  refine z_icmp_neT gi_234_21 zr_1 zr_2 (by decide) ?_
  refine z_iload1 gi_234_34 ?_
  refine z_pushJ gp_234_35 ?_
  refine z_icmp_neT gi_234_36 zr_1 zr_3 (by decide) ?_
  refine z_iload1 gi_234_44 ?_
  refine z_pushJ gp_234_45 ?_
  refine z_icmp_neT gi_234_47 zr_1 zr_6 (by decide) ?_
  refine z_pushJ gp_234_60 ?_
  refine z_bret0 gi_234_61 gr_234 ?_
  exact ⟨rfl, rfl, rfl, rfl⟩
theorem st_act_30 {X : Nat × (Nat → Int32)} {d : Nat} {J M : zA} {R : zR} {b x : Int} (hr : Rel X J M R) (hb : -2147483648 ≤ b ∧ b < 2147483648) (hx : -2147483648 ≤ x ∧ x < 2147483648) (hb1 : 0 ≤ b ∧ b < J 34 1) (hk : J 35 b = 3) : zW X (d + 20) 134 0 (gEn 134 [(.ref 0), (zi b), (zi 0), (zi x)]) [] J M R (stP X (d + 20) 246 [(zi b), (zi 0), (zi x)]) := by
  have hr0 := hr
  obtain ⟨hR, hG, hY, hD, hP, hC, hAc, hS, hTp, hX, hW⟩ := hr0
  have hRr : zRoR R := zRoR_of hR
  have hA0 := hAc
  obtain ⟨a1, a2, a3, a4, a5, a6⟩ := hA0
  show zW _ _ _ _ [some (.ref 0), some (zi b), some (zi 0), some (zi x)] _ _ _ _ _
  refine z_aload0 gi_134_0 ?_
  refine z_getR (r := 34) gi_134_1 gk_0 (hR _ rm_0_10) ?_
  refine z_iload1 gi_134_4 ?_
  refine z_iload2 gi_134_5 ?_
  refine z_iload3 gi_134_6 ?_
  refine z_cV3 gi_134_7 gk_34 go_7 (Nat.le_of_ble_eq_true rfl) gc_7_RIII ?_
  refine z_aload0 gi_7_0 ?_
  refine z_pushJ gp_7_1 ?_
  refine z_putI (y := 3) gi_7_2 rfl gk_34 ?_
  refine z_aload0 gi_7_5 ?_
  refine z_iload1 gi_7_6 ?_
  refine z_cV1 gi_7_7 gk_34 go_3 (Nat.le_of_ble_eq_true rfl) gc_3_RI ?_
  refine z_iload1 gi_3_0 ?_
  refine z_if_ltF gi_3_1 (by omega) (by omega) ?_
  refine z_iload1 gi_3_4 ?_
  refine z_aload0 gi_3_5 ?_
  refine z_getI (v := J 34 1) gi_3_6 gk_34 ((zU_x (by decide)).trans (rfl)) ?_
  refine z_icmp_geF gi_3_9 (by omega) (by omega) (by omega) ?_
  refine z_pushJ gp_3_12 ?_
  refine z_goto gi_3_13 ?_
  refine z_bret1 gi_3_17 gr_3 ?_
  show zW _ _ _ _ _ _ _ _ _ _
  refine z_if_eqF gi_7_10 zr_1 (by decide) ?_
  refine z_iload2 gi_7_13 ?_
  refine z_if_ltF gi_7_14 zr_0 (by decide) ?_
  refine z_iload2 gi_7_17 ?_
  refine z_pushJ gp_7_18 ?_
  refine z_icmp_ltT gi_7_19 zr_0 zr_4 (by decide) ?_
  refine z_aload0 gi_7_24 ?_
  refine z_iload1 gi_7_25 ?_
  refine z_putI (y := 4) gi_7_26 rfl gk_34 ?_
  refine z_aload0 gi_7_29 ?_
  refine z_aload0 gi_7_30 ?_
  refine z_getR (r := 35) gi_7_31 gk_34 (hR _ rm_34_0) ?_
  refine z_iload1 gi_7_34 ?_
  refine z_iald (v := 3) gi_7_35 gk_35 (by decide) (by omega) ((zU_n (by decide)).trans ((zU_n (by decide)).trans (hk))) ?_
  refine z_putI (y := 5) gi_7_36 rfl gk_34 ?_
  refine z_aload0 gi_7_39 ?_
  refine z_iload2 gi_7_40 ?_
  refine z_iload3 gi_7_41 ?_
  refine z_pushJ gp_7_42 ?_
  refine z_cV3 gi_7_43 gk_34 go_8 (Nat.le_of_ble_eq_true rfl) gc_8_RIII ?_
  refine z_aload0 gi_8_0 ?_
  refine z_aload0 gi_8_1 ?_
  refine z_getI (v := 3) gi_8_2 gk_34 (zU_e) ?_
  refine z_iload1 gi_8_5 ?_
  refine z_iload2 gi_8_6 ?_
  refine z_iload3 gi_8_7 ?_
  refine z_callVi (As := [_, _, _, _]) (le := [some _, some _, some _, some _, some _, none, none]) gi_8_8 rfl gk_34 (Nat.le_of_ble_eq_true rfl) (Nat.le_of_ble_eq_true rfl) rfl ?_
  refine ah_3_0 (by decide) ?_
  refine z_aload0 gi_9_77 ?_
  refine z_iload6 gi_9_78 ?_
  refine z_callVx (As := [_]) gi_9_80 rfl rfl (Nat.le_of_ble_eq_true rfl) (Nat.le_of_ble_eq_true rfl) (bg_k (n := 0) (m := 1) hR ((zU_x (by decide)).trans ((zU_x (by decide)).trans (zU_e))) (by decide) (by decide)) ?_
  show zW _ _ _ _ _ _ _ _ _ _
  refine z_iload5 gi_9_83 ?_
  refine z_if_neF gi_9_85 zr_0 (by decide) ?_
  refine z_aload0 gi_9_88 ?_
  refine z_iload6 gi_9_89 ?_
  refine z_iload3 gi_9_91 ?_
  refine z_iload4 gi_9_92 ?_
  refine z_pushJ gp_9_94 ?_
  refine z_iadd (e := 1) gi_9_95 rfl ?_
  refine z_callVi (As := [_, _, _]) (le := [some _, some _, some _, some _, none]) gi_9_96 rfl gk_34 (Nat.le_of_ble_eq_true rfl) (Nat.le_of_ble_eq_true rfl) rfl ?_
  refine z_iload1 gi_11_0 ?_
  refine z_swI (tg := 44) gi_11_1 (by decide) (T := [((1 : Int), 44), ((2 : Int), 51), ((10 : Int), 71), ((11 : Int), 81)]) rfl (by decide) ?_
  refine z_iload2 gi_11_44 ?_
  refine z_aload0 gi_11_45 ?_
  refine z_getI (v := b) gi_11_46 gk_34 ((zU_x (by decide)).trans ((zU_n (by decide)).trans ((zU_x (by decide)).trans (zU_e)))) ?_
  refine z_iadd (e := x + b) gi_11_49 rfl ?_
  refine z_iret gi_11_50 gr_11 ?_
  show zW _ _ _ _ _ _ _ _ _ _
  refine z_iret gi_9_99 gr_9 ?_
  show zW _ _ _ _ _ _ _ _ _ _
  refine z_iret gi_8_11 gr_8 ?_
  show zW _ _ _ _ _ _ _ _ _ _
  refine z_iret gi_7_46 gr_7 ?_
  show zW _ _ _ _ _ _ _ _ _ _
  refine z_iret gi_134_10 gr_134 ?_
  refine ⟨_, rfl, ?_⟩
  show zW _ _ _ _ [some (.ref 50), some (zi b), some (zi 0), some (zi x)] _ _ _ _ _
  refine z_aload0 gi_246_0 ?_
  refine z_pushJ gp_246_1 ?_
  refine z_putI (y := 56) gi_246_2 rfl gk_50 ?_
  refine z_aload0 gi_246_5 ?_
  refine z_iload1 gi_246_6 ?_
  refine z_cV1 gi_246_7 gk_50 go_230 (Nat.le_of_ble_eq_true rfl) gc_230_RI ?_
  refine z_iload1 gi_230_0 ?_
  refine z_pushJ gp_230_1 ?_
  refine z_aload0 gi_230_2 ?_
  refine z_getI (v := J 34 1) gi_230_3 gk_50 ((zU_x (by decide)).trans ((zU_n (by decide)).trans ((zU_n (by decide)).trans ((zU_n (by decide)).trans ((zU_n (by decide)).trans ((zU_n (by decide)).trans (a1.symm))))))) ?_
  refine z_pushJ gp_230_6 ?_
  refine z_isub (e := (J 34 1) - 1) gi_230_7 rfl ?_
  refine z_cS3 gi_230_8 (Nat.le_of_ble_eq_true rfl) gc_148_III ?_
  refine z_iload0 gi_148_0 ?_
  refine z_iload1 gi_148_1 ?_
  refine z_icmp_ltF gi_148_2 (by omega) zr_0 (by omega) ?_
  refine z_iload0 gi_148_5 ?_
  refine z_iload2 gi_148_6 ?_
  refine z_icmp_gtF gi_148_7 (by omega) (by omega) (by omega) ?_
  refine z_pushJ gp_148_10 ?_
  refine z_goto gi_148_11 ?_
  refine z_bret1 gi_148_15 gr_148 ?_
  show zW _ _ _ _ _ _ _ _ _ _
  refine z_bret1 gi_230_11 gr_230 ?_
  show zW _ _ _ _ _ _ _ _ _ _
  refine z_if_eqF gi_246_10 zr_1 (by decide) ?_
  refine z_iload2 gi_246_13 ?_
  refine z_pushJ gp_246_14 ?_
  refine z_pushJ gp_246_15 ?_
  refine z_cS3 gi_246_16 (Nat.le_of_ble_eq_true rfl) gc_148_III ?_
  refine z_iload0 gi_148_0 ?_
  refine z_iload1 gi_148_1 ?_
  refine z_icmp_ltF gi_148_2 zr_0 zr_0 (by decide) ?_
  refine z_iload0 gi_148_5 ?_
  refine z_iload2 gi_148_6 ?_
  refine z_icmp_gtF gi_148_7 zr_0 zr_3 (by decide) ?_
  refine z_pushJ gp_148_10 ?_
  refine z_goto gi_148_11 ?_
  refine z_bret1 gi_148_15 gr_148 ?_
  show zW _ _ _ _ _ _ _ _ _ _
  refine z_if_neT gi_246_19 zr_1 (by decide) ?_
  refine z_iload2 gi_246_24 ?_
  refine z_if_neF gi_246_25 zr_0 (by decide) ?_
  refine z_aload0 gi_246_28 ?_
  refine z_iload1 gi_246_29 ?_
  refine z_iload3 gi_246_30 ?_
  refine z_cV2 gi_246_31 gk_50 go_237 (Nat.le_of_ble_eq_true rfl) gc_237_RII ?_
  refine z_aload0 gi_237_0 ?_
  refine z_getR (r := 81) gi_237_1 gk_50 (hRr _ rm_50_55 (by decide)) ?_
  refine z_iload1 gi_237_4 ?_
  refine z_iald (v := 3) gi_237_5 gk_81 (by decide) (by omega) ((zU_n (by decide)).trans ((zU_n (by decide)).trans ((zU_n (by decide)).trans ((zU_n (by decide)).trans ((zU_n (by decide)).trans ((zU_n (by decide)).trans ((a5 _ hb1.1 hb1.2).1.symm.trans hk))))))) ?_
  refine z_pushJ gp_237_6 ?_
  refine z_callSP (As := [_, _]) (v := 0) gi_237_7 rfl (Nat.le_of_ble_eq_true rfl) (Nat.le_of_ble_eq_true rfl) iu_3_1 ?_
  refine z_if_eqT gi_237_10 zr_0 (by decide) ?_
  refine z_aload0 gi_237_28 ?_
  refine z_getR (r := 81) gi_237_29 gk_50 (hRr _ rm_50_55 (by decide)) ?_
  refine z_iload1 gi_237_32 ?_
  refine z_iald (v := 3) gi_237_33 gk_81 (by decide) (by omega) ((zU_n (by decide)).trans ((zU_n (by decide)).trans ((zU_n (by decide)).trans ((zU_n (by decide)).trans ((zU_n (by decide)).trans ((zU_n (by decide)).trans ((a5 _ hb1.1 hb1.2).1.symm.trans hk))))))) ?_
  refine z_pushJ gp_237_34 ?_
  refine z_icmp_neT gi_237_36 zr_3 zr_7 (by decide) ?_
  refine z_aload0 gi_237_54 ?_
  refine z_getR (r := 81) gi_237_55 gk_50 (hRr _ rm_50_55 (by decide)) ?_
  refine z_iload1 gi_237_58 ?_
  refine z_iald (v := 3) gi_237_59 gk_81 (by decide) (by omega) ((zU_n (by decide)).trans ((zU_n (by decide)).trans ((zU_n (by decide)).trans ((zU_n (by decide)).trans ((zU_n (by decide)).trans ((zU_n (by decide)).trans ((a5 _ hb1.1 hb1.2).1.symm.trans hk))))))) ?_
  refine z_pushJ gp_237_60 ?_
  refine z_icmp_neT gi_237_62 zr_3 zr_6 (by decide) ?_
  refine z_aload0 gi_237_74 ?_
  refine z_iload1 gi_237_75 ?_
  refine z_iload2 gi_237_76 ?_
  refine z_cV2 gi_237_77 gk_50 go_235 (Nat.le_of_ble_eq_true rfl) gc_235_RII ?_
  refine z_aload0 gi_235_0 ?_
  refine z_pushJ gp_235_1 ?_
  refine z_callVx (As := [_]) gi_235_2 rfl rfl (Nat.le_of_ble_eq_true rfl) (Nat.le_of_ble_eq_true rfl) (rn_k (n := 0) (m := 1) hRr (zU_e) (by decide) (by decide)) ?_
  show zW _ _ _ _ _ _ _ _ _ _
  refine z_iload2 gi_235_5 ?_
  refine z_iload1 gi_235_6 ?_
  refine z_iadd (e := x + b) gi_235_7 rfl ?_
  refine z_iret gi_235_8 gr_235 ?_
  show zW _ _ _ _ _ _ _ _ _ _
  refine z_iret gi_237_80 gr_237 ?_
  show zW _ _ _ _ _ _ _ _ _ _
  refine z_goto gi_246_34 ?_
  refine z_iret gi_246_71 gr_246 ?_
  refine ⟨?_, ?_⟩
  · rfl
  · have hk := (zK_x (a := 50) (x := 56) (v := 1) (zK_x (a := 82) (x := 0) (v := 1) (zK_x (a := 50) (x := 56) (v := 0) (zK_x (a := 34) (x := 3) (v := 1) (zK_x (a := 36) (x := 0) (v := 1) (zK_x (a := 34) (x := 5) (v := 3) (zK_x (a := 34) (x := 4) (v := b) (zK_x (a := 34) (x := 3) (v := 0) (zK_r (k := (kL [] [(34, 3), (34, 4), (34, 5), (36, 0), (50, 56), (82, 0)])) (A := J)) rfl) rfl) rfl) rfl) rfl) rfl) rfl) rfl)
    exact ⟨hR, hG, RelY_k hk (by repeat' constructor) (fun p => by repeat' constructor) hY, RelD_k hk (by repeat' constructor) (fun p => by repeat' constructor) hD, RelP_k hk (by repeat' constructor) (fun p => by repeat' constructor) hP, RelC_k hk (by repeat' constructor) (fun p => by repeat' constructor) hC, ⟨(show J 34 1 = J 50 54 from a1), (show 0 ≤ J 34 1 ∧ J 34 1 ≤ 50 from a2), rfl, (show (0 : Int) ≤ 1 ∧ (1 : Int) ≤ 1000 from by decide), (fun i i1 i2 => a5 i i1 i2), (fun i i1 i2 _ => by have i3 : i < 1 := i2; have q : i = 0 := (by omega); subst q; rfl)⟩, RelS_k hk (zK_r (k := kM)) (fun x j a b => ⟨kL_38 (by decide) (by decide) x j a b, kM_38 x j a b⟩) (fun p => ⟨rfl, rfl, rfl⟩) rfl hS, RelT_k hk (by repeat' constructor) (fun p => by repeat' constructor) hTp, RelX_k hk (by repeat' constructor) (fun p => by repeat' constructor) hX, RelW_k hk ⟨rfl, rfl⟩ trivial hW⟩
theorem iu_3_3 {X : Nat × (Nat → Int32)} {d : Nat} {J M : zA} {R : zR} : zW X d 234 0 (gEn 234 [(zi 3), (zi 3)]) [] J M R (zPu 1 J M R) := by
  show zW _ _ _ _ [some (zi 3), some (zi 3)] _ _ _ _ _
  refine z_iload1 gi_234_0 ?_
  refine z_if_eqF gi_234_1 zr_3 (by decide) ?_
  refine z_iload0 gi_234_4 ?_
  refine z_iload1 gi_234_5 ?_
  refine z_icmp_eqT gi_234_6 zr_3 zr_3 (by decide) ?_
  refine z_pushJ gp_234_56 ?_
  refine z_goto gi_234_57 ?_
  refine z_bret1 gi_234_61 gr_234 ?_
  exact ⟨rfl, rfl, rfl, rfl⟩
theorem st_act_31 {X : Nat × (Nat → Int32)} {d : Nat} {J M : zA} {R : zR} {b x : Int} (hr : Rel X J M R) (hb : -2147483648 ≤ b ∧ b < 2147483648) (hx : -2147483648 ≤ x ∧ x < 2147483648) (hb1 : 0 ≤ b ∧ b < J 34 1) (hk : J 35 b = 3) : zW X (d + 20) 134 0 (gEn 134 [(.ref 0), (zi b), (zi 1), (zi x)]) [] J M R (stP X (d + 20) 246 [(zi b), (zi 1), (zi x)]) := by
  have hr0 := hr
  obtain ⟨hR, hG, hY, hD, hP, hC, hAc, hS, hTp, hX, hW⟩ := hr0
  have hRr : zRoR R := zRoR_of hR
  have hA0 := hAc
  obtain ⟨a1, a2, a3, a4, a5, a6⟩ := hA0
  show zW _ _ _ _ [some (.ref 0), some (zi b), some (zi 1), some (zi x)] _ _ _ _ _
  refine z_aload0 gi_134_0 ?_
  refine z_getR (r := 34) gi_134_1 gk_0 (hR _ rm_0_10) ?_
  refine z_iload1 gi_134_4 ?_
  refine z_iload2 gi_134_5 ?_
  refine z_iload3 gi_134_6 ?_
  refine z_cV3 gi_134_7 gk_34 go_7 (Nat.le_of_ble_eq_true rfl) gc_7_RIII ?_
  refine z_aload0 gi_7_0 ?_
  refine z_pushJ gp_7_1 ?_
  refine z_putI (y := 3) gi_7_2 rfl gk_34 ?_
  refine z_aload0 gi_7_5 ?_
  refine z_iload1 gi_7_6 ?_
  refine z_cV1 gi_7_7 gk_34 go_3 (Nat.le_of_ble_eq_true rfl) gc_3_RI ?_
  refine z_iload1 gi_3_0 ?_
  refine z_if_ltF gi_3_1 (by omega) (by omega) ?_
  refine z_iload1 gi_3_4 ?_
  refine z_aload0 gi_3_5 ?_
  refine z_getI (v := J 34 1) gi_3_6 gk_34 ((zU_x (by decide)).trans (rfl)) ?_
  refine z_icmp_geF gi_3_9 (by omega) (by omega) (by omega) ?_
  refine z_pushJ gp_3_12 ?_
  refine z_goto gi_3_13 ?_
  refine z_bret1 gi_3_17 gr_3 ?_
  show zW _ _ _ _ _ _ _ _ _ _
  refine z_if_eqF gi_7_10 zr_1 (by decide) ?_
  refine z_iload2 gi_7_13 ?_
  refine z_if_ltF gi_7_14 zr_1 (by decide) ?_
  refine z_iload2 gi_7_17 ?_
  refine z_pushJ gp_7_18 ?_
  refine z_icmp_ltT gi_7_19 zr_1 zr_4 (by decide) ?_
  refine z_aload0 gi_7_24 ?_
  refine z_iload1 gi_7_25 ?_
  refine z_putI (y := 4) gi_7_26 rfl gk_34 ?_
  refine z_aload0 gi_7_29 ?_
  refine z_aload0 gi_7_30 ?_
  refine z_getR (r := 35) gi_7_31 gk_34 (hR _ rm_34_0) ?_
  refine z_iload1 gi_7_34 ?_
  refine z_iald (v := 3) gi_7_35 gk_35 (by decide) (by omega) ((zU_n (by decide)).trans ((zU_n (by decide)).trans (hk))) ?_
  refine z_putI (y := 5) gi_7_36 rfl gk_34 ?_
  refine z_aload0 gi_7_39 ?_
  refine z_iload2 gi_7_40 ?_
  refine z_iload3 gi_7_41 ?_
  refine z_pushJ gp_7_42 ?_
  refine z_cV3 gi_7_43 gk_34 go_8 (Nat.le_of_ble_eq_true rfl) gc_8_RIII ?_
  refine z_aload0 gi_8_0 ?_
  refine z_aload0 gi_8_1 ?_
  refine z_getI (v := 3) gi_8_2 gk_34 (zU_e) ?_
  refine z_iload1 gi_8_5 ?_
  refine z_iload2 gi_8_6 ?_
  refine z_iload3 gi_8_7 ?_
  refine z_callVi (As := [_, _, _, _]) (le := [some _, some _, some _, some _, some _, none, none]) gi_8_8 rfl gk_34 (Nat.le_of_ble_eq_true rfl) (Nat.le_of_ble_eq_true rfl) rfl ?_
  refine ah_3_1 (by decide) ?_
  refine z_aload0 gi_9_77 ?_
  refine z_iload6 gi_9_78 ?_
  refine z_callVx (As := [_]) gi_9_80 rfl rfl (Nat.le_of_ble_eq_true rfl) (Nat.le_of_ble_eq_true rfl) (bg_k (n := 0) (m := 1) hR ((zU_x (by decide)).trans ((zU_x (by decide)).trans (zU_e))) (by decide) (by decide)) ?_
  show zW _ _ _ _ _ _ _ _ _ _
  refine z_iload5 gi_9_83 ?_
  refine z_if_neT gi_9_85 zr_3 (by decide) ?_
  refine z_aload0 gi_9_100 ?_
  refine z_iload6 gi_9_101 ?_
  refine z_getS gi_9_103 ?_
  refine z_iload5 gi_9_106 ?_
  refine z_sald (j := 4) (n := 8) (v := 2) gi_9_108 (by decide) rfl (by decide) (by decide) rfl ?_
  refine z_iload3 gi_9_109 ?_
  refine z_iload4 gi_9_110 ?_
  refine z_pushJ gp_9_112 ?_
  refine z_iadd (e := 1) gi_9_113 rfl ?_
  refine z_callVi (As := [_, _, _, _]) (le := [some _, some _, some _, some _, some _, none, none]) gi_9_114 rfl gk_34 (Nat.le_of_ble_eq_true rfl) (Nat.le_of_ble_eq_true rfl) rfl ?_
  refine z_iload1 gi_12_0 ?_
  refine z_swI (tg := 127) gi_12_1 (by decide) (T := [((20 : Int), 92), ((30 : Int), 104), ((40 : Int), 115), ((41 : Int), 127), ((50 : Int), 139), ((60 : Int), 151), ((61 : Int), 174), ((70 : Int), 186), ((80 : Int), 198), ((81 : Int), 221)]) rfl (by decide) ?_
  refine z_aload0 gi_12_127 ?_
  refine z_iload2 gi_12_128 ?_
  refine z_pushJ gp_12_129 ?_
  refine z_iload3 gi_12_130 ?_
  refine z_pushJ gp_12_131 ?_
  refine z_iadd (e := x + 1) gi_12_132 rfl ?_
  refine z_iload4 gi_12_133 ?_
  refine z_callVi (As := [_, _, _, _]) (le := [some _, some _, some _, some _, some _, none, none]) gi_12_135 rfl gk_34 (Nat.le_of_ble_eq_true rfl) (Nat.le_of_ble_eq_true rfl) rfl ?_
  refine ah_2_1 (by decide) ?_
  refine z_aload0 gi_9_77 ?_
  refine z_iload6 gi_9_78 ?_
  refine z_callVx (As := [_]) gi_9_80 rfl rfl (Nat.le_of_ble_eq_true rfl) (Nat.le_of_ble_eq_true rfl) (bg_k (n := 1) (m := 2) hR (zU_e) (by decide) (by decide)) ?_
  show zW _ _ _ _ _ _ _ _ _ _
  refine z_iload5 gi_9_83 ?_
  refine z_if_neT gi_9_85 zr_2 (by decide) ?_
  refine z_aload0 gi_9_100 ?_
  refine z_iload6 gi_9_101 ?_
  refine z_getS gi_9_103 ?_
  refine z_iload5 gi_9_106 ?_
  refine z_sald (j := 4) (n := 8) (v := 0) gi_9_108 (by decide) rfl (by decide) (by decide) rfl ?_
  refine z_iload3 gi_9_109 ?_
  refine z_iload4 gi_9_110 ?_
  refine z_pushJ gp_9_112 ?_
  refine z_iadd (e := 2) gi_9_113 rfl ?_
  refine z_callVi (As := [_, _, _, _]) (le := [some _, some _, some _, some _, some _, none, none]) gi_9_114 rfl gk_34 (Nat.le_of_ble_eq_true rfl) (Nat.le_of_ble_eq_true rfl) rfl ?_
  refine z_iload1 gi_12_0 ?_
  refine z_swI (tg := 104) gi_12_1 (by decide) (T := [((20 : Int), 92), ((30 : Int), 104), ((40 : Int), 115), ((41 : Int), 127), ((50 : Int), 139), ((60 : Int), 151), ((61 : Int), 174), ((70 : Int), 186), ((80 : Int), 198), ((81 : Int), 221)]) rfl (by decide) ?_
  refine z_aload0 gi_12_104 ?_
  refine z_iload2 gi_12_105 ?_
  refine z_pushJ gp_12_106 ?_
  refine z_iload3 gi_12_107 ?_
  refine z_iload4 gi_12_108 ?_
  refine z_callVi (As := [_, _, _, _]) (le := [some _, some _, some _, some _, some _, none, none]) gi_12_110 rfl gk_34 (Nat.le_of_ble_eq_true rfl) (Nat.le_of_ble_eq_true rfl) rfl ?_
  refine ah_0_1 (by decide) ?_
  refine z_aload0 gi_9_77 ?_
  refine z_iload6 gi_9_78 ?_
  refine z_callVx (As := [_]) gi_9_80 rfl rfl (Nat.le_of_ble_eq_true rfl) (Nat.le_of_ble_eq_true rfl) (bg_k (n := 2) (m := 3) hR (zU_e) (by decide) (by decide)) ?_
  show zW _ _ _ _ _ _ _ _ _ _
  refine z_iload5 gi_9_83 ?_
  refine z_if_neF gi_9_85 zr_0 (by decide) ?_
  refine z_aload0 gi_9_88 ?_
  refine z_iload6 gi_9_89 ?_
  refine z_iload3 gi_9_91 ?_
  refine z_iload4 gi_9_92 ?_
  refine z_pushJ gp_9_94 ?_
  refine z_iadd (e := 3) gi_9_95 rfl ?_
  refine z_callVi (As := [_, _, _]) (le := [some _, some _, some _, some _, none]) gi_9_96 rfl gk_34 (Nat.le_of_ble_eq_true rfl) (Nat.le_of_ble_eq_true rfl) rfl ?_
  refine z_iload1 gi_11_0 ?_
  refine z_swI (tg := 71) gi_11_1 (by decide) (T := [((1 : Int), 44), ((2 : Int), 51), ((10 : Int), 71), ((11 : Int), 81)]) rfl (by decide) ?_
  refine z_aload0 gi_11_71 ?_
  refine z_pushJ gp_11_72 ?_
  refine z_iload2 gi_11_73 ?_
  refine z_iload3 gi_11_74 ?_
  refine z_cV3 gi_11_75 gk_34 go_8 (Nat.le_of_ble_eq_true rfl) gc_8_RIII ?_
  refine z_aload0 gi_8_0 ?_
  refine z_aload0 gi_8_1 ?_
  refine z_getI (v := 3) gi_8_2 gk_34 ((zU_x (by decide)).trans ((zU_n (by decide)).trans ((zU_x (by decide)).trans ((zU_n (by decide)).trans ((zU_x (by decide)).trans ((zU_n (by decide)).trans (zU_e))))))) ?_
  refine z_iload1 gi_8_5 ?_
  refine z_iload2 gi_8_6 ?_
  refine z_iload3 gi_8_7 ?_
  refine z_callVi (As := [_, _, _, _]) (le := [some _, some _, some _, some _, some _, none, none]) gi_8_8 rfl gk_34 (Nat.le_of_ble_eq_true rfl) (Nat.le_of_ble_eq_true rfl) rfl ?_
  refine ah_3_0 (by decide) ?_
  refine z_aload0 gi_9_77 ?_
  refine z_iload6 gi_9_78 ?_
  refine z_callVx (As := [_]) gi_9_80 rfl rfl (Nat.le_of_ble_eq_true rfl) (Nat.le_of_ble_eq_true rfl) (bg_k (n := 3) (m := 4) hR (zU_e) (by decide) (by decide)) ?_
  show zW _ _ _ _ _ _ _ _ _ _
  refine z_iload5 gi_9_83 ?_
  refine z_if_neF gi_9_85 zr_0 (by decide) ?_
  refine z_aload0 gi_9_88 ?_
  refine z_iload6 gi_9_89 ?_
  refine z_iload3 gi_9_91 ?_
  refine z_iload4 gi_9_92 ?_
  refine z_pushJ gp_9_94 ?_
  refine z_iadd (e := 4) gi_9_95 rfl ?_
  refine z_callVi (As := [_, _, _]) (le := [some _, some _, some _, some _, none]) gi_9_96 rfl gk_34 (Nat.le_of_ble_eq_true rfl) (Nat.le_of_ble_eq_true rfl) rfl ?_
  refine z_iload1 gi_11_0 ?_
  refine z_swI (tg := 44) gi_11_1 (by decide) (T := [((1 : Int), 44), ((2 : Int), 51), ((10 : Int), 71), ((11 : Int), 81)]) rfl (by decide) ?_
  refine z_iload2 gi_11_44 ?_
  refine z_aload0 gi_11_45 ?_
  refine z_getI (v := b) gi_11_46 gk_34 ((zU_x (by decide)).trans ((zU_n (by decide)).trans ((zU_x (by decide)).trans ((zU_n (by decide)).trans ((zU_x (by decide)).trans ((zU_n (by decide)).trans ((zU_x (by decide)).trans ((zU_n (by decide)).trans ((zU_x (by decide)).trans (zU_e)))))))))) ?_
  refine z_iadd (e := x + 1 + b) gi_11_49 rfl ?_
  refine z_iret gi_11_50 gr_11 ?_
  show zW _ _ _ _ _ _ _ _ _ _
  refine z_iret gi_9_99 gr_9 ?_
  show zW _ _ _ _ _ _ _ _ _ _
  refine z_iret gi_8_11 gr_8 ?_
  show zW _ _ _ _ _ _ _ _ _ _
  refine z_pushJ gp_11_78 ?_
  refine z_imul (e := (x + 1 + b) * 2) gi_11_79 rfl ?_
  refine z_iret gi_11_80 gr_11 ?_
  show zW _ _ _ _ _ _ _ _ _ _
  refine z_iret gi_9_99 gr_9 ?_
  show zW _ _ _ _ _ _ _ _ _ _
  refine z_ineg (e := -((x + 1 + b) * 2)) gi_12_113 rfl ?_
  refine z_iret gi_12_114 gr_12 ?_
  show zW _ _ _ _ _ _ _ _ _ _
  refine z_iret gi_9_117 gr_9 ?_
  show zW _ _ _ _ _ _ _ _ _ _
  refine z_iret gi_12_138 gr_12 ?_
  show zW _ _ _ _ _ _ _ _ _ _
  refine z_iret gi_9_117 gr_9 ?_
  show zW _ _ _ _ _ _ _ _ _ _
  refine z_iret gi_8_11 gr_8 ?_
  show zW _ _ _ _ _ _ _ _ _ _
  refine z_iret gi_7_46 gr_7 ?_
  show zW _ _ _ _ _ _ _ _ _ _
  refine z_iret gi_134_10 gr_134 ?_
  refine ⟨_, rfl, ?_⟩
  show zW _ _ _ _ [some (.ref 50), some (zi b), some (zi 1), some (zi x)] _ _ _ _ _
  refine z_aload0 gi_246_0 ?_
  refine z_pushJ gp_246_1 ?_
  refine z_putI (y := 56) gi_246_2 rfl gk_50 ?_
  refine z_aload0 gi_246_5 ?_
  refine z_iload1 gi_246_6 ?_
  refine z_cV1 gi_246_7 gk_50 go_230 (Nat.le_of_ble_eq_true rfl) gc_230_RI ?_
  refine z_iload1 gi_230_0 ?_
  refine z_pushJ gp_230_1 ?_
  refine z_aload0 gi_230_2 ?_
  refine z_getI (v := J 34 1) gi_230_3 gk_50 ((zU_x (by decide)).trans ((zU_n (by decide)).trans ((zU_n (by decide)).trans ((zU_n (by decide)).trans ((zU_n (by decide)).trans ((zU_n (by decide)).trans ((zU_n (by decide)).trans ((zU_n (by decide)).trans ((zU_n (by decide)).trans ((zU_n (by decide)).trans ((zU_n (by decide)).trans ((zU_n (by decide)).trans (a1.symm))))))))))))) ?_
  refine z_pushJ gp_230_6 ?_
  refine z_isub (e := (J 34 1) - 1) gi_230_7 rfl ?_
  refine z_cS3 gi_230_8 (Nat.le_of_ble_eq_true rfl) gc_148_III ?_
  refine z_iload0 gi_148_0 ?_
  refine z_iload1 gi_148_1 ?_
  refine z_icmp_ltF gi_148_2 (by omega) zr_0 (by omega) ?_
  refine z_iload0 gi_148_5 ?_
  refine z_iload2 gi_148_6 ?_
  refine z_icmp_gtF gi_148_7 (by omega) (by omega) (by omega) ?_
  refine z_pushJ gp_148_10 ?_
  refine z_goto gi_148_11 ?_
  refine z_bret1 gi_148_15 gr_148 ?_
  show zW _ _ _ _ _ _ _ _ _ _
  refine z_bret1 gi_230_11 gr_230 ?_
  show zW _ _ _ _ _ _ _ _ _ _
  refine z_if_eqF gi_246_10 zr_1 (by decide) ?_
  refine z_iload2 gi_246_13 ?_
  refine z_pushJ gp_246_14 ?_
  refine z_pushJ gp_246_15 ?_
  refine z_cS3 gi_246_16 (Nat.le_of_ble_eq_true rfl) gc_148_III ?_
  refine z_iload0 gi_148_0 ?_
  refine z_iload1 gi_148_1 ?_
  refine z_icmp_ltF gi_148_2 zr_1 zr_0 (by decide) ?_
  refine z_iload0 gi_148_5 ?_
  refine z_iload2 gi_148_6 ?_
  refine z_icmp_gtF gi_148_7 zr_1 zr_3 (by decide) ?_
  refine z_pushJ gp_148_10 ?_
  refine z_goto gi_148_11 ?_
  refine z_bret1 gi_148_15 gr_148 ?_
  show zW _ _ _ _ _ _ _ _ _ _
  refine z_if_neT gi_246_19 zr_1 (by decide) ?_
  refine z_iload2 gi_246_24 ?_
  refine z_if_neT gi_246_25 zr_1 (by decide) ?_
  refine z_iload2 gi_246_37 ?_
  refine z_pushJ gp_246_38 ?_
  refine z_icmp_neF gi_246_39 zr_1 zr_1 (by decide) ?_
  refine z_aload0 gi_246_42 ?_
  refine z_iload1 gi_246_43 ?_
  refine z_iload3 gi_246_44 ?_
  refine z_callVi (As := [_, _]) (le := [some _, some _, some _, none]) gi_246_45 rfl gk_50 (Nat.le_of_ble_eq_true rfl) (Nat.le_of_ble_eq_true rfl) rfl ?_
  refine z_aload0 gi_240_0 ?_
  refine z_getR (r := 81) gi_240_1 gk_50 (hRr _ rm_50_55 (by decide)) ?_
  refine z_iload1 gi_240_4 ?_
  refine z_iald (v := 3) gi_240_5 gk_81 (by decide) (by omega) ((zU_n (by decide)).trans ((zU_n (by decide)).trans ((zU_n (by decide)).trans ((zU_n (by decide)).trans ((zU_n (by decide)).trans ((zU_n (by decide)).trans ((zU_n (by decide)).trans ((zU_n (by decide)).trans ((zU_n (by decide)).trans ((zU_n (by decide)).trans ((zU_n (by decide)).trans ((zU_n (by decide)).trans ((a5 _ hb1.1 hb1.2).1.symm.trans hk))))))))))))) ?_
  refine z_pushJ gp_240_6 ?_
  refine z_callSP (As := [_, _]) (v := 1) gi_240_7 rfl (Nat.le_of_ble_eq_true rfl) (Nat.le_of_ble_eq_true rfl) iu_3_3 ?_
  refine z_if_eqF gi_240_10 zr_1 (by decide) ?_
  refine z_aload0 gi_240_13 ?_
  refine z_pushJ gp_240_14 ?_
  refine z_callVx (As := [_]) gi_240_16 rfl rfl (Nat.le_of_ble_eq_true rfl) (Nat.le_of_ble_eq_true rfl) (rn_k (n := 0) (m := 1) hRr (zU_e) (by decide) (by decide)) ?_
  show zW _ _ _ _ _ _ _ _ _ _
  refine z_aload0 gi_240_19 ?_
  refine z_iload1 gi_240_20 ?_
  refine z_iload2 gi_240_21 ?_
  refine z_pushJ gp_240_22 ?_
  refine z_iadd (e := x + 1) gi_240_23 rfl ?_
  refine z_cV2 gi_240_24 gk_50 go_239 (Nat.le_of_ble_eq_true rfl) gc_239_RII ?_
  refine z_aload0 gi_239_0 ?_
  refine z_pushJ gp_239_1 ?_
  refine z_callVx (As := [_]) gi_239_3 rfl rfl (Nat.le_of_ble_eq_true rfl) (Nat.le_of_ble_eq_true rfl) (rn_k (n := 1) (m := 2) hRr (zU_e) (by decide) (by decide)) ?_
  show zW _ _ _ _ _ _ _ _ _ _
  refine z_aload0 gi_239_6 ?_
  refine z_iload1 gi_239_7 ?_
  refine z_iload2 gi_239_8 ?_
  refine z_cV2 gi_239_9 gk_50 go_238 (Nat.le_of_ble_eq_true rfl) gc_238_RII ?_
  refine z_aload0 gi_238_0 ?_
  refine z_pushJ gp_238_1 ?_
  refine z_callVx (As := [_]) gi_238_3 rfl rfl (Nat.le_of_ble_eq_true rfl) (Nat.le_of_ble_eq_true rfl) (rn_k (n := 2) (m := 3) hRr (zU_e) (by decide) (by decide)) ?_
  show zW _ _ _ _ _ _ _ _ _ _
  refine z_aload0 gi_238_6 ?_
  refine z_iload1 gi_238_7 ?_
  refine z_iload2 gi_238_8 ?_
  refine z_cV2 gi_238_9 gk_50 go_237 (Nat.le_of_ble_eq_true rfl) gc_237_RII ?_
  refine z_aload0 gi_237_0 ?_
  refine z_getR (r := 81) gi_237_1 gk_50 (hRr _ rm_50_55 (by decide)) ?_
  refine z_iload1 gi_237_4 ?_
  refine z_iald (v := 3) gi_237_5 gk_81 (by decide) (by omega) ((zU_n (by decide)).trans ((zU_n (by decide)).trans ((zU_n (by decide)).trans ((zU_n (by decide)).trans ((zU_n (by decide)).trans ((zU_n (by decide)).trans ((zU_n (by decide)).trans ((zU_n (by decide)).trans ((zU_n (by decide)).trans ((zU_n (by decide)).trans ((zU_n (by decide)).trans ((zU_n (by decide)).trans ((zU_n (by decide)).trans ((zU_n (by decide)).trans ((zU_n (by decide)).trans ((zU_n (by decide)).trans ((zU_n (by decide)).trans ((zU_n (by decide)).trans ((a5 _ hb1.1 hb1.2).1.symm.trans hk))))))))))))))))))) ?_
  refine z_pushJ gp_237_6 ?_
  refine z_callSP (As := [_, _]) (v := 0) gi_237_7 rfl (Nat.le_of_ble_eq_true rfl) (Nat.le_of_ble_eq_true rfl) iu_3_1 ?_
  refine z_if_eqT gi_237_10 zr_0 (by decide) ?_
  refine z_aload0 gi_237_28 ?_
  refine z_getR (r := 81) gi_237_29 gk_50 (hRr _ rm_50_55 (by decide)) ?_
  refine z_iload1 gi_237_32 ?_
  refine z_iald (v := 3) gi_237_33 gk_81 (by decide) (by omega) ((zU_n (by decide)).trans ((zU_n (by decide)).trans ((zU_n (by decide)).trans ((zU_n (by decide)).trans ((zU_n (by decide)).trans ((zU_n (by decide)).trans ((zU_n (by decide)).trans ((zU_n (by decide)).trans ((zU_n (by decide)).trans ((zU_n (by decide)).trans ((zU_n (by decide)).trans ((zU_n (by decide)).trans ((zU_n (by decide)).trans ((zU_n (by decide)).trans ((zU_n (by decide)).trans ((zU_n (by decide)).trans ((zU_n (by decide)).trans ((zU_n (by decide)).trans ((a5 _ hb1.1 hb1.2).1.symm.trans hk))))))))))))))))))) ?_
  refine z_pushJ gp_237_34 ?_
  refine z_icmp_neT gi_237_36 zr_3 zr_7 (by decide) ?_
  refine z_aload0 gi_237_54 ?_
  refine z_getR (r := 81) gi_237_55 gk_50 (hRr _ rm_50_55 (by decide)) ?_
  refine z_iload1 gi_237_58 ?_
  refine z_iald (v := 3) gi_237_59 gk_81 (by decide) (by omega) ((zU_n (by decide)).trans ((zU_n (by decide)).trans ((zU_n (by decide)).trans ((zU_n (by decide)).trans ((zU_n (by decide)).trans ((zU_n (by decide)).trans ((zU_n (by decide)).trans ((zU_n (by decide)).trans ((zU_n (by decide)).trans ((zU_n (by decide)).trans ((zU_n (by decide)).trans ((zU_n (by decide)).trans ((zU_n (by decide)).trans ((zU_n (by decide)).trans ((zU_n (by decide)).trans ((zU_n (by decide)).trans ((zU_n (by decide)).trans ((zU_n (by decide)).trans ((a5 _ hb1.1 hb1.2).1.symm.trans hk))))))))))))))))))) ?_
  refine z_pushJ gp_237_60 ?_
  refine z_icmp_neT gi_237_62 zr_3 zr_6 (by decide) ?_
  refine z_aload0 gi_237_74 ?_
  refine z_iload1 gi_237_75 ?_
  refine z_iload2 gi_237_76 ?_
  refine z_cV2 gi_237_77 gk_50 go_235 (Nat.le_of_ble_eq_true rfl) gc_235_RII ?_
  refine z_aload0 gi_235_0 ?_
  refine z_pushJ gp_235_1 ?_
  refine z_callVx (As := [_]) gi_235_2 rfl rfl (Nat.le_of_ble_eq_true rfl) (Nat.le_of_ble_eq_true rfl) (rn_k (n := 3) (m := 4) hRr (zU_e) (by decide) (by decide)) ?_
  show zW _ _ _ _ _ _ _ _ _ _
  refine z_iload2 gi_235_5 ?_
  refine z_iload1 gi_235_6 ?_
  refine z_iadd (e := x + 1 + b) gi_235_7 rfl ?_
  refine z_iret gi_235_8 gr_235 ?_
  show zW _ _ _ _ _ _ _ _ _ _
  refine z_iret gi_237_80 gr_237 ?_
  show zW _ _ _ _ _ _ _ _ _ _
  refine z_pushJ gp_238_12 ?_
  refine z_imul (e := (x + 1 + b) * 2) gi_238_13 rfl ?_
  refine z_iret gi_238_14 gr_238 ?_
  show zW _ _ _ _ _ _ _ _ _ _
  refine z_ineg (e := -((x + 1 + b) * 2)) gi_239_12 rfl ?_
  refine z_iret gi_239_13 gr_239 ?_
  show zW _ _ _ _ _ _ _ _ _ _
  refine z_iret gi_240_27 gr_240 ?_
  show zW _ _ _ _ _ _ _ _ _ _
  refine z_goto gi_246_48 ?_
  refine z_iret gi_246_71 gr_246 ?_
  refine ⟨?_, ?_⟩
  · rfl
  · have hk := (zK_x (a := 50) (x := 56) (v := 4) (zK_x (a := 82) (x := 3) (v := 1) (zK_x (a := 50) (x := 56) (v := 3) (zK_x (a := 82) (x := 2) (v := 10) (zK_x (a := 50) (x := 56) (v := 2) (zK_x (a := 82) (x := 1) (v := 30) (zK_x (a := 50) (x := 56) (v := 1) (zK_x (a := 82) (x := 0) (v := 41) (zK_x (a := 50) (x := 56) (v := 0) (zK_x (a := 34) (x := 3) (v := 4) (zK_x (a := 36) (x := 3) (v := 1) (zK_x (a := 34) (x := 3) (v := 3) (zK_x (a := 36) (x := 2) (v := 10) (zK_x (a := 34) (x := 3) (v := 2) (zK_x (a := 36) (x := 1) (v := 30) (zK_x (a := 34) (x := 3) (v := 1) (zK_x (a := 36) (x := 0) (v := 41) (zK_x (a := 34) (x := 5) (v := 3) (zK_x (a := 34) (x := 4) (v := b) (zK_x (a := 34) (x := 3) (v := 0) (zK_r (k := (kL [] [(34, 3), (34, 4), (34, 5), (36, 0), (36, 1), (36, 2), (36, 3), (50, 56), (82, 0), (82, 1), (82, 2), (82, 3)])) (A := J)) rfl) rfl) rfl) rfl) rfl) rfl) rfl) rfl) rfl) rfl) rfl) rfl) rfl) rfl) rfl) rfl) rfl) rfl) rfl) rfl)
    exact ⟨hR, hG, RelY_k hk (by repeat' constructor) (fun p => by repeat' constructor) hY, RelD_k hk (by repeat' constructor) (fun p => by repeat' constructor) hD, RelP_k hk (by repeat' constructor) (fun p => by repeat' constructor) hP, RelC_k hk (by repeat' constructor) (fun p => by repeat' constructor) hC, ⟨(show J 34 1 = J 50 54 from a1), (show 0 ≤ J 34 1 ∧ J 34 1 ≤ 50 from a2), rfl, (show (0 : Int) ≤ 4 ∧ (4 : Int) ≤ 1000 from by decide), (fun i i1 i2 => a5 i i1 i2), (fun i i1 i2 _ => by have i3 : i < 4 := i2; have q : i = 0 ∨ i = 1 ∨ i = 2 ∨ i = 3 := (by omega); rcases q with rfl | rfl | rfl | rfl <;> rfl)⟩, RelS_k hk (zK_r (k := kM)) (fun x j a b => ⟨kL_38 (by decide) (by decide) x j a b, kM_38 x j a b⟩) (fun p => ⟨rfl, rfl, rfl⟩) rfl hS, RelT_k hk (by repeat' constructor) (fun p => by repeat' constructor) hTp, RelX_k hk (by repeat' constructor) (fun p => by repeat' constructor) hX, RelW_k hk ⟨rfl, rfl⟩ trivial hW⟩
theorem st_act_32 {X : Nat × (Nat → Int32)} {d : Nat} {J M : zA} {R : zR} {b x : Int} (hr : Rel X J M R) (hb : -2147483648 ≤ b ∧ b < 2147483648) (hx : -2147483648 ≤ x ∧ x < 2147483648) (hb1 : 0 ≤ b ∧ b < J 34 1) (hk : J 35 b = 3) : zW X (d + 20) 134 0 (gEn 134 [(.ref 0), (zi b), (zi 2), (zi x)]) [] J M R (stP X (d + 20) 246 [(zi b), (zi 2), (zi x)]) := by
  have hr0 := hr
  obtain ⟨hR, hG, hY, hD, hP, hC, hAc, hS, hTp, hX, hW⟩ := hr0
  have hRr : zRoR R := zRoR_of hR
  have hA0 := hAc
  obtain ⟨a1, a2, a3, a4, a5, a6⟩ := hA0
  show zW _ _ _ _ [some (.ref 0), some (zi b), some (zi 2), some (zi x)] _ _ _ _ _
  refine z_aload0 gi_134_0 ?_
  refine z_getR (r := 34) gi_134_1 gk_0 (hR _ rm_0_10) ?_
  refine z_iload1 gi_134_4 ?_
  refine z_iload2 gi_134_5 ?_
  refine z_iload3 gi_134_6 ?_
  refine z_cV3 gi_134_7 gk_34 go_7 (Nat.le_of_ble_eq_true rfl) gc_7_RIII ?_
  refine z_aload0 gi_7_0 ?_
  refine z_pushJ gp_7_1 ?_
  refine z_putI (y := 3) gi_7_2 rfl gk_34 ?_
  refine z_aload0 gi_7_5 ?_
  refine z_iload1 gi_7_6 ?_
  refine z_cV1 gi_7_7 gk_34 go_3 (Nat.le_of_ble_eq_true rfl) gc_3_RI ?_
  refine z_iload1 gi_3_0 ?_
  refine z_if_ltF gi_3_1 (by omega) (by omega) ?_
  refine z_iload1 gi_3_4 ?_
  refine z_aload0 gi_3_5 ?_
  refine z_getI (v := J 34 1) gi_3_6 gk_34 ((zU_x (by decide)).trans (rfl)) ?_
  refine z_icmp_geF gi_3_9 (by omega) (by omega) (by omega) ?_
  refine z_pushJ gp_3_12 ?_
  refine z_goto gi_3_13 ?_
  refine z_bret1 gi_3_17 gr_3 ?_
  show zW _ _ _ _ _ _ _ _ _ _
  refine z_if_eqF gi_7_10 zr_1 (by decide) ?_
  refine z_iload2 gi_7_13 ?_
  refine z_if_ltF gi_7_14 zr_2 (by decide) ?_
  refine z_iload2 gi_7_17 ?_
  refine z_pushJ gp_7_18 ?_
  refine z_icmp_ltT gi_7_19 zr_2 zr_4 (by decide) ?_
  refine z_aload0 gi_7_24 ?_
  refine z_iload1 gi_7_25 ?_
  refine z_putI (y := 4) gi_7_26 rfl gk_34 ?_
  refine z_aload0 gi_7_29 ?_
  refine z_aload0 gi_7_30 ?_
  refine z_getR (r := 35) gi_7_31 gk_34 (hR _ rm_34_0) ?_
  refine z_iload1 gi_7_34 ?_
  refine z_iald (v := 3) gi_7_35 gk_35 (by decide) (by omega) ((zU_n (by decide)).trans ((zU_n (by decide)).trans (hk))) ?_
  refine z_putI (y := 5) gi_7_36 rfl gk_34 ?_
  refine z_aload0 gi_7_39 ?_
  refine z_iload2 gi_7_40 ?_
  refine z_iload3 gi_7_41 ?_
  refine z_pushJ gp_7_42 ?_
  refine z_cV3 gi_7_43 gk_34 go_8 (Nat.le_of_ble_eq_true rfl) gc_8_RIII ?_
  refine z_aload0 gi_8_0 ?_
  refine z_aload0 gi_8_1 ?_
  refine z_getI (v := 3) gi_8_2 gk_34 (zU_e) ?_
  refine z_iload1 gi_8_5 ?_
  refine z_iload2 gi_8_6 ?_
  refine z_iload3 gi_8_7 ?_
  refine z_callVi (As := [_, _, _, _]) (le := [some _, some _, some _, some _, some _, none, none]) gi_8_8 rfl gk_34 (Nat.le_of_ble_eq_true rfl) (Nat.le_of_ble_eq_true rfl) rfl ?_
  refine ah_3_2 (by decide) ?_
  refine z_aload0 gi_9_77 ?_
  refine z_iload6 gi_9_78 ?_
  refine z_callVx (As := [_]) gi_9_80 rfl rfl (Nat.le_of_ble_eq_true rfl) (Nat.le_of_ble_eq_true rfl) (bg_k (n := 0) (m := 1) hR ((zU_x (by decide)).trans ((zU_x (by decide)).trans (zU_e))) (by decide) (by decide)) ?_
  show zW _ _ _ _ _ _ _ _ _ _
  refine z_iload5 gi_9_83 ?_
  refine z_if_neT gi_9_85 zr_3 (by decide) ?_
  refine z_aload0 gi_9_100 ?_
  refine z_iload6 gi_9_101 ?_
  refine z_getS gi_9_103 ?_
  refine z_iload5 gi_9_106 ?_
  refine z_sald (j := 4) (n := 8) (v := 2) gi_9_108 (by decide) rfl (by decide) (by decide) rfl ?_
  refine z_iload3 gi_9_109 ?_
  refine z_iload4 gi_9_110 ?_
  refine z_pushJ gp_9_112 ?_
  refine z_iadd (e := 1) gi_9_113 rfl ?_
  refine z_callVi (As := [_, _, _, _]) (le := [some _, some _, some _, some _, some _, none, none]) gi_9_114 rfl gk_34 (Nat.le_of_ble_eq_true rfl) (Nat.le_of_ble_eq_true rfl) rfl ?_
  refine z_iload1 gi_12_0 ?_
  refine z_swI (tg := 115) gi_12_1 (by decide) (T := [((20 : Int), 92), ((30 : Int), 104), ((40 : Int), 115), ((41 : Int), 127), ((50 : Int), 139), ((60 : Int), 151), ((61 : Int), 174), ((70 : Int), 186), ((80 : Int), 198), ((81 : Int), 221)]) rfl (by decide) ?_
  refine z_aload0 gi_12_115 ?_
  refine z_iload2 gi_12_116 ?_
  refine z_pushJ gp_12_117 ?_
  refine z_iload3 gi_12_118 ?_
  refine z_iload4 gi_12_119 ?_
  refine z_callVi (As := [_, _, _, _]) (le := [some _, some _, some _, some _, some _, none, none]) gi_12_121 rfl gk_34 (Nat.le_of_ble_eq_true rfl) (Nat.le_of_ble_eq_true rfl) rfl ?_
  refine ah_2_2 (by decide) ?_
  refine z_aload0 gi_9_77 ?_
  refine z_iload6 gi_9_78 ?_
  refine z_callVx (As := [_]) gi_9_80 rfl rfl (Nat.le_of_ble_eq_true rfl) (Nat.le_of_ble_eq_true rfl) (bg_k (n := 1) (m := 2) hR (zU_e) (by decide) (by decide)) ?_
  show zW _ _ _ _ _ _ _ _ _ _
  refine z_iload5 gi_9_83 ?_
  refine z_if_neF gi_9_85 zr_0 (by decide) ?_
  refine z_aload0 gi_9_88 ?_
  refine z_iload6 gi_9_89 ?_
  refine z_iload3 gi_9_91 ?_
  refine z_iload4 gi_9_92 ?_
  refine z_pushJ gp_9_94 ?_
  refine z_iadd (e := 2) gi_9_95 rfl ?_
  refine z_callVi (As := [_, _, _]) (le := [some _, some _, some _, some _, none]) gi_9_96 rfl gk_34 (Nat.le_of_ble_eq_true rfl) (Nat.le_of_ble_eq_true rfl) rfl ?_
  refine z_iload1 gi_11_0 ?_
  refine z_swI (tg := 81) gi_11_1 (by decide) (T := [((1 : Int), 44), ((2 : Int), 51), ((10 : Int), 71), ((11 : Int), 81)]) rfl (by decide) ?_
  refine z_iload2 gi_11_81 ?_
  refine z_aload0 gi_11_82 ?_
  refine z_getI (v := b) gi_11_83 gk_34 ((zU_x (by decide)).trans ((zU_n (by decide)).trans ((zU_x (by decide)).trans ((zU_n (by decide)).trans ((zU_x (by decide)).trans (zU_e)))))) ?_
  refine z_ixor (e := zxor x b) gi_11_86 rfl ?_
  refine z_iret gi_11_87 gr_11 ?_
  show zW _ _ _ _ _ _ _ _ _ _
  refine z_iret gi_9_99 gr_9 ?_
  show zW _ _ _ _ _ _ _ _ _ _
  refine z_pushJ gp_12_124 ?_
  refine z_imul (e := (zxor x b) * 3) gi_12_125 rfl ?_
  refine z_iret gi_12_126 gr_12 ?_
  show zW _ _ _ _ _ _ _ _ _ _
  refine z_iret gi_9_117 gr_9 ?_
  show zW _ _ _ _ _ _ _ _ _ _
  refine z_iret gi_8_11 gr_8 ?_
  show zW _ _ _ _ _ _ _ _ _ _
  refine z_iret gi_7_46 gr_7 ?_
  show zW _ _ _ _ _ _ _ _ _ _
  refine z_iret gi_134_10 gr_134 ?_
  refine ⟨_, rfl, ?_⟩
  show zW _ _ _ _ [some (.ref 50), some (zi b), some (zi 2), some (zi x)] _ _ _ _ _
  refine z_aload0 gi_246_0 ?_
  refine z_pushJ gp_246_1 ?_
  refine z_putI (y := 56) gi_246_2 rfl gk_50 ?_
  refine z_aload0 gi_246_5 ?_
  refine z_iload1 gi_246_6 ?_
  refine z_cV1 gi_246_7 gk_50 go_230 (Nat.le_of_ble_eq_true rfl) gc_230_RI ?_
  refine z_iload1 gi_230_0 ?_
  refine z_pushJ gp_230_1 ?_
  refine z_aload0 gi_230_2 ?_
  refine z_getI (v := J 34 1) gi_230_3 gk_50 ((zU_x (by decide)).trans ((zU_n (by decide)).trans ((zU_n (by decide)).trans ((zU_n (by decide)).trans ((zU_n (by decide)).trans ((zU_n (by decide)).trans ((zU_n (by decide)).trans ((zU_n (by decide)).trans (a1.symm))))))))) ?_
  refine z_pushJ gp_230_6 ?_
  refine z_isub (e := (J 34 1) - 1) gi_230_7 rfl ?_
  refine z_cS3 gi_230_8 (Nat.le_of_ble_eq_true rfl) gc_148_III ?_
  refine z_iload0 gi_148_0 ?_
  refine z_iload1 gi_148_1 ?_
  refine z_icmp_ltF gi_148_2 (by omega) zr_0 (by omega) ?_
  refine z_iload0 gi_148_5 ?_
  refine z_iload2 gi_148_6 ?_
  refine z_icmp_gtF gi_148_7 (by omega) (by omega) (by omega) ?_
  refine z_pushJ gp_148_10 ?_
  refine z_goto gi_148_11 ?_
  refine z_bret1 gi_148_15 gr_148 ?_
  show zW _ _ _ _ _ _ _ _ _ _
  refine z_bret1 gi_230_11 gr_230 ?_
  show zW _ _ _ _ _ _ _ _ _ _
  refine z_if_eqF gi_246_10 zr_1 (by decide) ?_
  refine z_iload2 gi_246_13 ?_
  refine z_pushJ gp_246_14 ?_
  refine z_pushJ gp_246_15 ?_
  refine z_cS3 gi_246_16 (Nat.le_of_ble_eq_true rfl) gc_148_III ?_
  refine z_iload0 gi_148_0 ?_
  refine z_iload1 gi_148_1 ?_
  refine z_icmp_ltF gi_148_2 zr_2 zr_0 (by decide) ?_
  refine z_iload0 gi_148_5 ?_
  refine z_iload2 gi_148_6 ?_
  refine z_icmp_gtF gi_148_7 zr_2 zr_3 (by decide) ?_
  refine z_pushJ gp_148_10 ?_
  refine z_goto gi_148_11 ?_
  refine z_bret1 gi_148_15 gr_148 ?_
  show zW _ _ _ _ _ _ _ _ _ _
  refine z_if_neT gi_246_19 zr_1 (by decide) ?_
  refine z_iload2 gi_246_24 ?_
  refine z_if_neT gi_246_25 zr_2 (by decide) ?_
  refine z_iload2 gi_246_37 ?_
  refine z_pushJ gp_246_38 ?_
  refine z_icmp_neT gi_246_39 zr_2 zr_1 (by decide) ?_
  refine z_iload2 gi_246_51 ?_
  refine z_pushJ gp_246_52 ?_
  refine z_icmp_neF gi_246_53 zr_2 zr_2 (by decide) ?_
  refine z_aload0 gi_246_56 ?_
  refine z_iload1 gi_246_57 ?_
  refine z_iload3 gi_246_58 ?_
  refine z_callVi (As := [_, _]) (le := [some _, some _, some _, none]) gi_246_59 rfl gk_50 (Nat.le_of_ble_eq_true rfl) (Nat.le_of_ble_eq_true rfl) rfl ?_
  refine z_aload0 gi_243_0 ?_
  refine z_getR (r := 81) gi_243_1 gk_50 (hRr _ rm_50_55 (by decide)) ?_
  refine z_iload1 gi_243_4 ?_
  refine z_iald (v := 3) gi_243_5 gk_81 (by decide) (by omega) ((zU_n (by decide)).trans ((zU_n (by decide)).trans ((zU_n (by decide)).trans ((zU_n (by decide)).trans ((zU_n (by decide)).trans ((zU_n (by decide)).trans ((zU_n (by decide)).trans ((zU_n (by decide)).trans ((a5 _ hb1.1 hb1.2).1.symm.trans hk))))))))) ?_
  refine z_pushJ gp_243_6 ?_
  refine z_icmp_neT gi_243_7 zr_3 zr_5 (by decide) ?_
  refine z_aload0 gi_243_32 ?_
  refine z_getR (r := 81) gi_243_33 gk_50 (hRr _ rm_50_55 (by decide)) ?_
  refine z_iload1 gi_243_36 ?_
  refine z_iald (v := 3) gi_243_37 gk_81 (by decide) (by omega) ((zU_n (by decide)).trans ((zU_n (by decide)).trans ((zU_n (by decide)).trans ((zU_n (by decide)).trans ((zU_n (by decide)).trans ((zU_n (by decide)).trans ((zU_n (by decide)).trans ((zU_n (by decide)).trans ((a5 _ hb1.1 hb1.2).1.symm.trans hk))))))))) ?_
  refine z_pushJ gp_243_38 ?_
  refine z_icmp_neF gi_243_39 zr_3 zr_3 (by decide) ?_
  refine z_aload0 gi_243_42 ?_
  refine z_iload1 gi_243_43 ?_
  refine z_iload2 gi_243_44 ?_
  refine z_cV2 gi_243_45 gk_50 go_242 (Nat.le_of_ble_eq_true rfl) gc_242_RII ?_
  refine z_aload0 gi_242_0 ?_
  refine z_pushJ gp_242_1 ?_
  refine z_callVx (As := [_]) gi_242_3 rfl rfl (Nat.le_of_ble_eq_true rfl) (Nat.le_of_ble_eq_true rfl) (rn_k (n := 0) (m := 1) hRr (zU_e) (by decide) (by decide)) ?_
  show zW _ _ _ _ _ _ _ _ _ _
  refine z_aload0 gi_242_6 ?_
  refine z_iload1 gi_242_7 ?_
  refine z_iload2 gi_242_8 ?_
  refine z_cV2 gi_242_9 gk_50 go_241 (Nat.le_of_ble_eq_true rfl) gc_241_RII ?_
  refine z_aload0 gi_241_0 ?_
  refine z_pushJ gp_241_1 ?_
  refine z_callVx (As := [_]) gi_241_3 rfl rfl (Nat.le_of_ble_eq_true rfl) (Nat.le_of_ble_eq_true rfl) (rn_k (n := 1) (m := 2) hRr (zU_e) (by decide) (by decide)) ?_
  show zW _ _ _ _ _ _ _ _ _ _
  refine z_iload2 gi_241_6 ?_
  refine z_iload1 gi_241_7 ?_
  refine z_ixor (e := zxor x b) gi_241_8 rfl ?_
  refine z_iret gi_241_9 gr_241 ?_
  show zW _ _ _ _ _ _ _ _ _ _
  refine z_pushJ gp_242_12 ?_
  refine z_imul (e := (zxor x b) * 3) gi_242_13 rfl ?_
  refine z_iret gi_242_14 gr_242 ?_
  show zW _ _ _ _ _ _ _ _ _ _
  refine z_goto gi_243_48 ?_
  refine z_iret gi_243_57 gr_243 ?_
  show zW _ _ _ _ _ _ _ _ _ _
  refine z_goto gi_246_62 ?_
  refine z_iret gi_246_71 gr_246 ?_
  refine ⟨?_, ?_⟩
  · rfl
  · have hk := (zK_x (a := 50) (x := 56) (v := 2) (zK_x (a := 82) (x := 1) (v := 11) (zK_x (a := 50) (x := 56) (v := 1) (zK_x (a := 82) (x := 0) (v := 40) (zK_x (a := 50) (x := 56) (v := 0) (zK_x (a := 34) (x := 3) (v := 2) (zK_x (a := 36) (x := 1) (v := 11) (zK_x (a := 34) (x := 3) (v := 1) (zK_x (a := 36) (x := 0) (v := 40) (zK_x (a := 34) (x := 5) (v := 3) (zK_x (a := 34) (x := 4) (v := b) (zK_x (a := 34) (x := 3) (v := 0) (zK_r (k := (kL [] [(34, 3), (34, 4), (34, 5), (36, 0), (36, 1), (50, 56), (82, 0), (82, 1)])) (A := J)) rfl) rfl) rfl) rfl) rfl) rfl) rfl) rfl) rfl) rfl) rfl) rfl)
    exact ⟨hR, hG, RelY_k hk (by repeat' constructor) (fun p => by repeat' constructor) hY, RelD_k hk (by repeat' constructor) (fun p => by repeat' constructor) hD, RelP_k hk (by repeat' constructor) (fun p => by repeat' constructor) hP, RelC_k hk (by repeat' constructor) (fun p => by repeat' constructor) hC, ⟨(show J 34 1 = J 50 54 from a1), (show 0 ≤ J 34 1 ∧ J 34 1 ≤ 50 from a2), rfl, (show (0 : Int) ≤ 2 ∧ (2 : Int) ≤ 1000 from by decide), (fun i i1 i2 => a5 i i1 i2), (fun i i1 i2 _ => by have i3 : i < 2 := i2; have q : i = 0 ∨ i = 1 := (by omega); rcases q with rfl | rfl <;> rfl)⟩, RelS_k hk (zK_r (k := kM)) (fun x j a b => ⟨kL_38 (by decide) (by decide) x j a b, kM_38 x j a b⟩) (fun p => ⟨rfl, rfl, rfl⟩) rfl hS, RelT_k hk (by repeat' constructor) (fun p => by repeat' constructor) hTp, RelX_k hk (by repeat' constructor) (fun p => by repeat' constructor) hX, RelW_k hk ⟨rfl, rfl⟩ trivial hW⟩
theorem st_act_33 {X : Nat × (Nat → Int32)} {d : Nat} {J M : zA} {R : zR} {b x : Int} (hr : Rel X J M R) (hb : -2147483648 ≤ b ∧ b < 2147483648) (hx : -2147483648 ≤ x ∧ x < 2147483648) (hb1 : 0 ≤ b ∧ b < J 34 1) (hk : J 35 b = 3) : zW X (d + 20) 134 0 (gEn 134 [(.ref 0), (zi b), (zi 3), (zi x)]) [] J M R (stP X (d + 20) 246 [(zi b), (zi 3), (zi x)]) := by
  have hr0 := hr
  obtain ⟨hR, hG, hY, hD, hP, hC, hAc, hS, hTp, hX, hW⟩ := hr0
  have hRr : zRoR R := zRoR_of hR
  have hA0 := hAc
  obtain ⟨a1, a2, a3, a4, a5, a6⟩ := hA0
  show zW _ _ _ _ [some (.ref 0), some (zi b), some (zi 3), some (zi x)] _ _ _ _ _
  refine z_aload0 gi_134_0 ?_
  refine z_getR (r := 34) gi_134_1 gk_0 (hR _ rm_0_10) ?_
  refine z_iload1 gi_134_4 ?_
  refine z_iload2 gi_134_5 ?_
  refine z_iload3 gi_134_6 ?_
  refine z_cV3 gi_134_7 gk_34 go_7 (Nat.le_of_ble_eq_true rfl) gc_7_RIII ?_
  refine z_aload0 gi_7_0 ?_
  refine z_pushJ gp_7_1 ?_
  refine z_putI (y := 3) gi_7_2 rfl gk_34 ?_
  refine z_aload0 gi_7_5 ?_
  refine z_iload1 gi_7_6 ?_
  refine z_cV1 gi_7_7 gk_34 go_3 (Nat.le_of_ble_eq_true rfl) gc_3_RI ?_
  refine z_iload1 gi_3_0 ?_
  refine z_if_ltF gi_3_1 (by omega) (by omega) ?_
  refine z_iload1 gi_3_4 ?_
  refine z_aload0 gi_3_5 ?_
  refine z_getI (v := J 34 1) gi_3_6 gk_34 ((zU_x (by decide)).trans (rfl)) ?_
  refine z_icmp_geF gi_3_9 (by omega) (by omega) (by omega) ?_
  refine z_pushJ gp_3_12 ?_
  refine z_goto gi_3_13 ?_
  refine z_bret1 gi_3_17 gr_3 ?_
  show zW _ _ _ _ _ _ _ _ _ _
  refine z_if_eqF gi_7_10 zr_1 (by decide) ?_
  refine z_iload2 gi_7_13 ?_
  refine z_if_ltF gi_7_14 zr_3 (by decide) ?_
  refine z_iload2 gi_7_17 ?_
  refine z_pushJ gp_7_18 ?_
  refine z_icmp_ltT gi_7_19 zr_3 zr_4 (by decide) ?_
  refine z_aload0 gi_7_24 ?_
  refine z_iload1 gi_7_25 ?_
  refine z_putI (y := 4) gi_7_26 rfl gk_34 ?_
  refine z_aload0 gi_7_29 ?_
  refine z_aload0 gi_7_30 ?_
  refine z_getR (r := 35) gi_7_31 gk_34 (hR _ rm_34_0) ?_
  refine z_iload1 gi_7_34 ?_
  refine z_iald (v := 3) gi_7_35 gk_35 (by decide) (by omega) ((zU_n (by decide)).trans ((zU_n (by decide)).trans (hk))) ?_
  refine z_putI (y := 5) gi_7_36 rfl gk_34 ?_
  refine z_aload0 gi_7_39 ?_
  refine z_iload2 gi_7_40 ?_
  refine z_iload3 gi_7_41 ?_
  refine z_pushJ gp_7_42 ?_
  refine z_cV3 gi_7_43 gk_34 go_8 (Nat.le_of_ble_eq_true rfl) gc_8_RIII ?_
  refine z_aload0 gi_8_0 ?_
  refine z_aload0 gi_8_1 ?_
  refine z_getI (v := 3) gi_8_2 gk_34 (zU_e) ?_
  refine z_iload1 gi_8_5 ?_
  refine z_iload2 gi_8_6 ?_
  refine z_iload3 gi_8_7 ?_
  refine z_callVi (As := [_, _, _, _]) (le := [some _, some _, some _, some _, some _, none, none]) gi_8_8 rfl gk_34 (Nat.le_of_ble_eq_true rfl) (Nat.le_of_ble_eq_true rfl) rfl ?_
  refine ah_3_3 (by decide) ?_
  refine z_aload0 gi_9_77 ?_
  refine z_iload6 gi_9_78 ?_
  refine z_callVx (As := [_]) gi_9_80 rfl rfl (Nat.le_of_ble_eq_true rfl) (Nat.le_of_ble_eq_true rfl) (bg_k (n := 0) (m := 1) hR ((zU_x (by decide)).trans ((zU_x (by decide)).trans (zU_e))) (by decide) (by decide)) ?_
  show zW _ _ _ _ _ _ _ _ _ _
  refine z_iload5 gi_9_83 ?_
  refine z_if_neF gi_9_85 zr_0 (by decide) ?_
  refine z_aload0 gi_9_88 ?_
  refine z_iload6 gi_9_89 ?_
  refine z_iload3 gi_9_91 ?_
  refine z_iload4 gi_9_92 ?_
  refine z_pushJ gp_9_94 ?_
  refine z_iadd (e := 1) gi_9_95 rfl ?_
  refine z_callVi (As := [_, _, _]) (le := [some _, some _, some _, some _, none]) gi_9_96 rfl gk_34 (Nat.le_of_ble_eq_true rfl) (Nat.le_of_ble_eq_true rfl) rfl ?_
  refine z_iload1 gi_11_0 ?_
  refine z_swI (tg := 51) gi_11_1 (by decide) (T := [((1 : Int), 44), ((2 : Int), 51), ((10 : Int), 71), ((11 : Int), 81)]) rfl (by decide) ?_
  refine z_aload0 gi_11_51 ?_
  refine z_pushJ gp_11_52 ?_
  refine z_iload2 gi_11_53 ?_
  refine z_iload3 gi_11_54 ?_
  refine z_cV3 gi_11_55 gk_34 go_8 (Nat.le_of_ble_eq_true rfl) gc_8_RIII ?_
  refine z_aload0 gi_8_0 ?_
  refine z_aload0 gi_8_1 ?_
  refine z_getI (v := 3) gi_8_2 gk_34 ((zU_x (by decide)).trans ((zU_n (by decide)).trans (zU_e))) ?_
  refine z_iload1 gi_8_5 ?_
  refine z_iload2 gi_8_6 ?_
  refine z_iload3 gi_8_7 ?_
  refine z_callVi (As := [_, _, _, _]) (le := [some _, some _, some _, some _, some _, none, none]) gi_8_8 rfl gk_34 (Nat.le_of_ble_eq_true rfl) (Nat.le_of_ble_eq_true rfl) rfl ?_
  refine ah_3_1 (by decide) ?_
  refine z_aload0 gi_9_77 ?_
  refine z_iload6 gi_9_78 ?_
  refine z_callVx (As := [_]) gi_9_80 rfl rfl (Nat.le_of_ble_eq_true rfl) (Nat.le_of_ble_eq_true rfl) (bg_k (n := 1) (m := 2) hR (zU_e) (by decide) (by decide)) ?_
  show zW _ _ _ _ _ _ _ _ _ _
  refine z_iload5 gi_9_83 ?_
  refine z_if_neT gi_9_85 zr_3 (by decide) ?_
  refine z_aload0 gi_9_100 ?_
  refine z_iload6 gi_9_101 ?_
  refine z_getS gi_9_103 ?_
  refine z_iload5 gi_9_106 ?_
  refine z_sald (j := 4) (n := 8) (v := 2) gi_9_108 (by decide) rfl (by decide) (by decide) rfl ?_
  refine z_iload3 gi_9_109 ?_
  refine z_iload4 gi_9_110 ?_
  refine z_pushJ gp_9_112 ?_
  refine z_iadd (e := 2) gi_9_113 rfl ?_
  refine z_callVi (As := [_, _, _, _]) (le := [some _, some _, some _, some _, some _, none, none]) gi_9_114 rfl gk_34 (Nat.le_of_ble_eq_true rfl) (Nat.le_of_ble_eq_true rfl) rfl ?_
  refine z_iload1 gi_12_0 ?_
  refine z_swI (tg := 127) gi_12_1 (by decide) (T := [((20 : Int), 92), ((30 : Int), 104), ((40 : Int), 115), ((41 : Int), 127), ((50 : Int), 139), ((60 : Int), 151), ((61 : Int), 174), ((70 : Int), 186), ((80 : Int), 198), ((81 : Int), 221)]) rfl (by decide) ?_
  refine z_aload0 gi_12_127 ?_
  refine z_iload2 gi_12_128 ?_
  refine z_pushJ gp_12_129 ?_
  refine z_iload3 gi_12_130 ?_
  refine z_pushJ gp_12_131 ?_
  refine z_iadd (e := x + 1) gi_12_132 rfl ?_
  refine z_iload4 gi_12_133 ?_
  refine z_callVi (As := [_, _, _, _]) (le := [some _, some _, some _, some _, some _, none, none]) gi_12_135 rfl gk_34 (Nat.le_of_ble_eq_true rfl) (Nat.le_of_ble_eq_true rfl) rfl ?_
  refine ah_2_1 (by decide) ?_
  refine z_aload0 gi_9_77 ?_
  refine z_iload6 gi_9_78 ?_
  refine z_callVx (As := [_]) gi_9_80 rfl rfl (Nat.le_of_ble_eq_true rfl) (Nat.le_of_ble_eq_true rfl) (bg_k (n := 2) (m := 3) hR (zU_e) (by decide) (by decide)) ?_
  show zW _ _ _ _ _ _ _ _ _ _
  refine z_iload5 gi_9_83 ?_
  refine z_if_neT gi_9_85 zr_2 (by decide) ?_
  refine z_aload0 gi_9_100 ?_
  refine z_iload6 gi_9_101 ?_
  refine z_getS gi_9_103 ?_
  refine z_iload5 gi_9_106 ?_
  refine z_sald (j := 4) (n := 8) (v := 0) gi_9_108 (by decide) rfl (by decide) (by decide) rfl ?_
  refine z_iload3 gi_9_109 ?_
  refine z_iload4 gi_9_110 ?_
  refine z_pushJ gp_9_112 ?_
  refine z_iadd (e := 3) gi_9_113 rfl ?_
  refine z_callVi (As := [_, _, _, _]) (le := [some _, some _, some _, some _, some _, none, none]) gi_9_114 rfl gk_34 (Nat.le_of_ble_eq_true rfl) (Nat.le_of_ble_eq_true rfl) rfl ?_
  refine z_iload1 gi_12_0 ?_
  refine z_swI (tg := 104) gi_12_1 (by decide) (T := [((20 : Int), 92), ((30 : Int), 104), ((40 : Int), 115), ((41 : Int), 127), ((50 : Int), 139), ((60 : Int), 151), ((61 : Int), 174), ((70 : Int), 186), ((80 : Int), 198), ((81 : Int), 221)]) rfl (by decide) ?_
  refine z_aload0 gi_12_104 ?_
  refine z_iload2 gi_12_105 ?_
  refine z_pushJ gp_12_106 ?_
  refine z_iload3 gi_12_107 ?_
  refine z_iload4 gi_12_108 ?_
  refine z_callVi (As := [_, _, _, _]) (le := [some _, some _, some _, some _, some _, none, none]) gi_12_110 rfl gk_34 (Nat.le_of_ble_eq_true rfl) (Nat.le_of_ble_eq_true rfl) rfl ?_
  refine ah_0_1 (by decide) ?_
  refine z_aload0 gi_9_77 ?_
  refine z_iload6 gi_9_78 ?_
  refine z_callVx (As := [_]) gi_9_80 rfl rfl (Nat.le_of_ble_eq_true rfl) (Nat.le_of_ble_eq_true rfl) (bg_k (n := 3) (m := 4) hR (zU_e) (by decide) (by decide)) ?_
  show zW _ _ _ _ _ _ _ _ _ _
  refine z_iload5 gi_9_83 ?_
  refine z_if_neF gi_9_85 zr_0 (by decide) ?_
  refine z_aload0 gi_9_88 ?_
  refine z_iload6 gi_9_89 ?_
  refine z_iload3 gi_9_91 ?_
  refine z_iload4 gi_9_92 ?_
  refine z_pushJ gp_9_94 ?_
  refine z_iadd (e := 4) gi_9_95 rfl ?_
  refine z_callVi (As := [_, _, _]) (le := [some _, some _, some _, some _, none]) gi_9_96 rfl gk_34 (Nat.le_of_ble_eq_true rfl) (Nat.le_of_ble_eq_true rfl) rfl ?_
  refine z_iload1 gi_11_0 ?_
  refine z_swI (tg := 71) gi_11_1 (by decide) (T := [((1 : Int), 44), ((2 : Int), 51), ((10 : Int), 71), ((11 : Int), 81)]) rfl (by decide) ?_
  refine z_aload0 gi_11_71 ?_
  refine z_pushJ gp_11_72 ?_
  refine z_iload2 gi_11_73 ?_
  refine z_iload3 gi_11_74 ?_
  refine z_cV3 gi_11_75 gk_34 go_8 (Nat.le_of_ble_eq_true rfl) gc_8_RIII ?_
  refine z_aload0 gi_8_0 ?_
  refine z_aload0 gi_8_1 ?_
  refine z_getI (v := 3) gi_8_2 gk_34 ((zU_x (by decide)).trans ((zU_n (by decide)).trans ((zU_x (by decide)).trans ((zU_n (by decide)).trans ((zU_x (by decide)).trans ((zU_n (by decide)).trans ((zU_x (by decide)).trans ((zU_n (by decide)).trans (zU_e))))))))) ?_
  refine z_iload1 gi_8_5 ?_
  refine z_iload2 gi_8_6 ?_
  refine z_iload3 gi_8_7 ?_
  refine z_callVi (As := [_, _, _, _]) (le := [some _, some _, some _, some _, some _, none, none]) gi_8_8 rfl gk_34 (Nat.le_of_ble_eq_true rfl) (Nat.le_of_ble_eq_true rfl) rfl ?_
  refine ah_3_0 (by decide) ?_
  refine z_aload0 gi_9_77 ?_
  refine z_iload6 gi_9_78 ?_
  refine z_callVx (As := [_]) gi_9_80 rfl rfl (Nat.le_of_ble_eq_true rfl) (Nat.le_of_ble_eq_true rfl) (bg_k (n := 4) (m := 5) hR (zU_e) (by decide) (by decide)) ?_
  show zW _ _ _ _ _ _ _ _ _ _
  refine z_iload5 gi_9_83 ?_
  refine z_if_neF gi_9_85 zr_0 (by decide) ?_
  refine z_aload0 gi_9_88 ?_
  refine z_iload6 gi_9_89 ?_
  refine z_iload3 gi_9_91 ?_
  refine z_iload4 gi_9_92 ?_
  refine z_pushJ gp_9_94 ?_
  refine z_iadd (e := 5) gi_9_95 rfl ?_
  refine z_callVi (As := [_, _, _]) (le := [some _, some _, some _, some _, none]) gi_9_96 rfl gk_34 (Nat.le_of_ble_eq_true rfl) (Nat.le_of_ble_eq_true rfl) rfl ?_
  refine z_iload1 gi_11_0 ?_
  refine z_swI (tg := 44) gi_11_1 (by decide) (T := [((1 : Int), 44), ((2 : Int), 51), ((10 : Int), 71), ((11 : Int), 81)]) rfl (by decide) ?_
  refine z_iload2 gi_11_44 ?_
  refine z_aload0 gi_11_45 ?_
  refine z_getI (v := b) gi_11_46 gk_34 ((zU_x (by decide)).trans ((zU_n (by decide)).trans ((zU_x (by decide)).trans ((zU_n (by decide)).trans ((zU_x (by decide)).trans ((zU_n (by decide)).trans ((zU_x (by decide)).trans ((zU_n (by decide)).trans ((zU_x (by decide)).trans ((zU_n (by decide)).trans ((zU_x (by decide)).trans (zU_e)))))))))))) ?_
  refine z_iadd (e := x + 1 + b) gi_11_49 rfl ?_
  refine z_iret gi_11_50 gr_11 ?_
  show zW _ _ _ _ _ _ _ _ _ _
  refine z_iret gi_9_99 gr_9 ?_
  show zW _ _ _ _ _ _ _ _ _ _
  refine z_iret gi_8_11 gr_8 ?_
  show zW _ _ _ _ _ _ _ _ _ _
  refine z_pushJ gp_11_78 ?_
  refine z_imul (e := (x + 1 + b) * 2) gi_11_79 rfl ?_
  refine z_iret gi_11_80 gr_11 ?_
  show zW _ _ _ _ _ _ _ _ _ _
  refine z_iret gi_9_99 gr_9 ?_
  show zW _ _ _ _ _ _ _ _ _ _
  refine z_ineg (e := -((x + 1 + b) * 2)) gi_12_113 rfl ?_
  refine z_iret gi_12_114 gr_12 ?_
  show zW _ _ _ _ _ _ _ _ _ _
  refine z_iret gi_9_117 gr_9 ?_
  show zW _ _ _ _ _ _ _ _ _ _
  refine z_iret gi_12_138 gr_12 ?_
  show zW _ _ _ _ _ _ _ _ _ _
  refine z_iret gi_9_117 gr_9 ?_
  show zW _ _ _ _ _ _ _ _ _ _
  refine z_iret gi_8_11 gr_8 ?_
  show zW _ _ _ _ _ _ _ _ _ _
  refine z_istore (ls1 := [some (.ref 34), some (zi 2), some (zi x), some (zi 1), some (zi (-((x + 1 + b) * 2)))]) gi_11_58 rfl ?_
  refine z_iload4 gi_11_60 ?_
  refine z_aload0 gi_11_62 ?_
  refine z_pushJ gp_11_63 ?_
  refine z_pushJ gp_11_64 ?_
  refine z_iload3 gi_11_65 ?_
  refine z_cV3 gi_11_66 gk_34 go_8 (Nat.le_of_ble_eq_true rfl) gc_8_RIII ?_
  refine z_aload0 gi_8_0 ?_
  refine z_aload0 gi_8_1 ?_
  refine z_getI (v := 3) gi_8_2 gk_34 ((zU_x (by decide)).trans ((zU_n (by decide)).trans ((zU_x (by decide)).trans ((zU_n (by decide)).trans ((zU_x (by decide)).trans ((zU_n (by decide)).trans ((zU_x (by decide)).trans ((zU_n (by decide)).trans ((zU_x (by decide)).trans ((zU_n (by decide)).trans (zU_e))))))))))) ?_
  refine z_iload1 gi_8_5 ?_
  refine z_iload2 gi_8_6 ?_
  refine z_iload3 gi_8_7 ?_
  refine z_callVi (As := [_, _, _, _]) (le := [some _, some _, some _, some _, some _, none, none]) gi_8_8 rfl gk_34 (Nat.le_of_ble_eq_true rfl) (Nat.le_of_ble_eq_true rfl) rfl ?_
  refine ah_3_2 (by decide) ?_
  refine z_aload0 gi_9_77 ?_
  refine z_iload6 gi_9_78 ?_
  refine z_callVx (As := [_]) gi_9_80 rfl rfl (Nat.le_of_ble_eq_true rfl) (Nat.le_of_ble_eq_true rfl) (bg_k (n := 5) (m := 6) hR (zU_e) (by decide) (by decide)) ?_
  show zW _ _ _ _ _ _ _ _ _ _
  refine z_iload5 gi_9_83 ?_
  refine z_if_neT gi_9_85 zr_3 (by decide) ?_
  refine z_aload0 gi_9_100 ?_
  refine z_iload6 gi_9_101 ?_
  refine z_getS gi_9_103 ?_
  refine z_iload5 gi_9_106 ?_
  refine z_sald (j := 4) (n := 8) (v := 2) gi_9_108 (by decide) rfl (by decide) (by decide) rfl ?_
  refine z_iload3 gi_9_109 ?_
  refine z_iload4 gi_9_110 ?_
  refine z_pushJ gp_9_112 ?_
  refine z_iadd (e := 2) gi_9_113 rfl ?_
  refine z_callVi (As := [_, _, _, _]) (le := [some _, some _, some _, some _, some _, none, none]) gi_9_114 rfl gk_34 (Nat.le_of_ble_eq_true rfl) (Nat.le_of_ble_eq_true rfl) rfl ?_
  refine z_iload1 gi_12_0 ?_
  refine z_swI (tg := 115) gi_12_1 (by decide) (T := [((20 : Int), 92), ((30 : Int), 104), ((40 : Int), 115), ((41 : Int), 127), ((50 : Int), 139), ((60 : Int), 151), ((61 : Int), 174), ((70 : Int), 186), ((80 : Int), 198), ((81 : Int), 221)]) rfl (by decide) ?_
  refine z_aload0 gi_12_115 ?_
  refine z_iload2 gi_12_116 ?_
  refine z_pushJ gp_12_117 ?_
  refine z_iload3 gi_12_118 ?_
  refine z_iload4 gi_12_119 ?_
  refine z_callVi (As := [_, _, _, _]) (le := [some _, some _, some _, some _, some _, none, none]) gi_12_121 rfl gk_34 (Nat.le_of_ble_eq_true rfl) (Nat.le_of_ble_eq_true rfl) rfl ?_
  refine ah_2_2 (by decide) ?_
  refine z_aload0 gi_9_77 ?_
  refine z_iload6 gi_9_78 ?_
  refine z_callVx (As := [_]) gi_9_80 rfl rfl (Nat.le_of_ble_eq_true rfl) (Nat.le_of_ble_eq_true rfl) (bg_k (n := 6) (m := 7) hR (zU_e) (by decide) (by decide)) ?_
  show zW _ _ _ _ _ _ _ _ _ _
  refine z_iload5 gi_9_83 ?_
  refine z_if_neF gi_9_85 zr_0 (by decide) ?_
  refine z_aload0 gi_9_88 ?_
  refine z_iload6 gi_9_89 ?_
  refine z_iload3 gi_9_91 ?_
  refine z_iload4 gi_9_92 ?_
  refine z_pushJ gp_9_94 ?_
  refine z_iadd (e := 3) gi_9_95 rfl ?_
  refine z_callVi (As := [_, _, _]) (le := [some _, some _, some _, some _, none]) gi_9_96 rfl gk_34 (Nat.le_of_ble_eq_true rfl) (Nat.le_of_ble_eq_true rfl) rfl ?_
  refine z_iload1 gi_11_0 ?_
  refine z_swI (tg := 81) gi_11_1 (by decide) (T := [((1 : Int), 44), ((2 : Int), 51), ((10 : Int), 71), ((11 : Int), 81)]) rfl (by decide) ?_
  refine z_iload2 gi_11_81 ?_
  refine z_aload0 gi_11_82 ?_
  refine z_getI (v := b) gi_11_83 gk_34 ((zU_x (by decide)).trans ((zU_n (by decide)).trans ((zU_x (by decide)).trans ((zU_n (by decide)).trans ((zU_x (by decide)).trans ((zU_n (by decide)).trans ((zU_x (by decide)).trans ((zU_n (by decide)).trans ((zU_x (by decide)).trans ((zU_n (by decide)).trans ((zU_x (by decide)).trans ((zU_n (by decide)).trans ((zU_x (by decide)).trans ((zU_n (by decide)).trans ((zU_x (by decide)).trans (zU_e)))))))))))))))) ?_
  refine z_ixor (e := zxor 1 b) gi_11_86 rfl ?_
  refine z_iret gi_11_87 gr_11 ?_
  show zW _ _ _ _ _ _ _ _ _ _
  refine z_iret gi_9_99 gr_9 ?_
  show zW _ _ _ _ _ _ _ _ _ _
  refine z_pushJ gp_12_124 ?_
  refine z_imul (e := (zxor 1 b) * 3) gi_12_125 rfl ?_
  refine z_iret gi_12_126 gr_12 ?_
  show zW _ _ _ _ _ _ _ _ _ _
  refine z_iret gi_9_117 gr_9 ?_
  show zW _ _ _ _ _ _ _ _ _ _
  refine z_iret gi_8_11 gr_8 ?_
  show zW _ _ _ _ _ _ _ _ _ _
  refine z_isub (e := (-((x + 1 + b) * 2)) - (zxor 1 b) * 3) gi_11_69 rfl ?_
  refine z_iret gi_11_70 gr_11 ?_
  show zW _ _ _ _ _ _ _ _ _ _
  refine z_iret gi_9_99 gr_9 ?_
  show zW _ _ _ _ _ _ _ _ _ _
  refine z_iret gi_8_11 gr_8 ?_
  show zW _ _ _ _ _ _ _ _ _ _
  refine z_iret gi_7_46 gr_7 ?_
  show zW _ _ _ _ _ _ _ _ _ _
  refine z_iret gi_134_10 gr_134 ?_
  refine ⟨_, rfl, ?_⟩
  show zW _ _ _ _ [some (.ref 50), some (zi b), some (zi 3), some (zi x)] _ _ _ _ _
  refine z_aload0 gi_246_0 ?_
  refine z_pushJ gp_246_1 ?_
  refine z_putI (y := 56) gi_246_2 rfl gk_50 ?_
  refine z_aload0 gi_246_5 ?_
  refine z_iload1 gi_246_6 ?_
  refine z_cV1 gi_246_7 gk_50 go_230 (Nat.le_of_ble_eq_true rfl) gc_230_RI ?_
  refine z_iload1 gi_230_0 ?_
  refine z_pushJ gp_230_1 ?_
  refine z_aload0 gi_230_2 ?_
  refine z_getI (v := J 34 1) gi_230_3 gk_50 ((zU_x (by decide)).trans ((zU_n (by decide)).trans ((zU_n (by decide)).trans ((zU_n (by decide)).trans ((zU_n (by decide)).trans ((zU_n (by decide)).trans ((zU_n (by decide)).trans ((zU_n (by decide)).trans ((zU_n (by decide)).trans ((zU_n (by decide)).trans ((zU_n (by decide)).trans ((zU_n (by decide)).trans ((zU_n (by decide)).trans ((zU_n (by decide)).trans ((zU_n (by decide)).trans ((zU_n (by decide)).trans ((zU_n (by decide)).trans ((zU_n (by decide)).trans (a1.symm))))))))))))))))))) ?_
  refine z_pushJ gp_230_6 ?_
  refine z_isub (e := (J 34 1) - 1) gi_230_7 rfl ?_
  refine z_cS3 gi_230_8 (Nat.le_of_ble_eq_true rfl) gc_148_III ?_
  refine z_iload0 gi_148_0 ?_
  refine z_iload1 gi_148_1 ?_
  refine z_icmp_ltF gi_148_2 (by omega) zr_0 (by omega) ?_
  refine z_iload0 gi_148_5 ?_
  refine z_iload2 gi_148_6 ?_
  refine z_icmp_gtF gi_148_7 (by omega) (by omega) (by omega) ?_
  refine z_pushJ gp_148_10 ?_
  refine z_goto gi_148_11 ?_
  refine z_bret1 gi_148_15 gr_148 ?_
  show zW _ _ _ _ _ _ _ _ _ _
  refine z_bret1 gi_230_11 gr_230 ?_
  show zW _ _ _ _ _ _ _ _ _ _
  refine z_if_eqF gi_246_10 zr_1 (by decide) ?_
  refine z_iload2 gi_246_13 ?_
  refine z_pushJ gp_246_14 ?_
  refine z_pushJ gp_246_15 ?_
  refine z_cS3 gi_246_16 (Nat.le_of_ble_eq_true rfl) gc_148_III ?_
  refine z_iload0 gi_148_0 ?_
  refine z_iload1 gi_148_1 ?_
  refine z_icmp_ltF gi_148_2 zr_3 zr_0 (by decide) ?_
  refine z_iload0 gi_148_5 ?_
  refine z_iload2 gi_148_6 ?_
  refine z_icmp_gtF gi_148_7 zr_3 zr_3 (by decide) ?_
  refine z_pushJ gp_148_10 ?_
  refine z_goto gi_148_11 ?_
  refine z_bret1 gi_148_15 gr_148 ?_
  show zW _ _ _ _ _ _ _ _ _ _
  refine z_if_neT gi_246_19 zr_1 (by decide) ?_
  refine z_iload2 gi_246_24 ?_
  refine z_if_neT gi_246_25 zr_3 (by decide) ?_
  refine z_iload2 gi_246_37 ?_
  refine z_pushJ gp_246_38 ?_
  refine z_icmp_neT gi_246_39 zr_3 zr_1 (by decide) ?_
  refine z_iload2 gi_246_51 ?_
  refine z_pushJ gp_246_52 ?_
  refine z_icmp_neT gi_246_53 zr_3 zr_2 (by decide) ?_
  refine z_aload0 gi_246_65 ?_
  refine z_iload1 gi_246_66 ?_
  refine z_iload3 gi_246_67 ?_
  refine z_cV2 gi_246_68 gk_50 go_245 (Nat.le_of_ble_eq_true rfl) gc_245_RII ?_
  refine z_aload0 gi_245_0 ?_
  refine z_getR (r := 81) gi_245_1 gk_50 (hRr _ rm_50_55 (by decide)) ?_
  refine z_iload1 gi_245_4 ?_
  refine z_iald (v := 3) gi_245_5 gk_81 (by decide) (by omega) ((zU_n (by decide)).trans ((zU_n (by decide)).trans ((zU_n (by decide)).trans ((zU_n (by decide)).trans ((zU_n (by decide)).trans ((zU_n (by decide)).trans ((zU_n (by decide)).trans ((zU_n (by decide)).trans ((zU_n (by decide)).trans ((zU_n (by decide)).trans ((zU_n (by decide)).trans ((zU_n (by decide)).trans ((zU_n (by decide)).trans ((zU_n (by decide)).trans ((zU_n (by decide)).trans ((zU_n (by decide)).trans ((zU_n (by decide)).trans ((zU_n (by decide)).trans ((a5 _ hb1.1 hb1.2).1.symm.trans hk))))))))))))))))))) ?_
  refine z_pushJ gp_245_6 ?_
  refine z_icmp_neT gi_245_7 zr_3 zr_4 (by decide) ?_
  refine z_aload0 gi_245_25 ?_
  refine z_getR (r := 81) gi_245_26 gk_50 (hRr _ rm_50_55 (by decide)) ?_
  refine z_iload1 gi_245_29 ?_
  refine z_iald (v := 3) gi_245_30 gk_81 (by decide) (by omega) ((zU_n (by decide)).trans ((zU_n (by decide)).trans ((zU_n (by decide)).trans ((zU_n (by decide)).trans ((zU_n (by decide)).trans ((zU_n (by decide)).trans ((zU_n (by decide)).trans ((zU_n (by decide)).trans ((zU_n (by decide)).trans ((zU_n (by decide)).trans ((zU_n (by decide)).trans ((zU_n (by decide)).trans ((zU_n (by decide)).trans ((zU_n (by decide)).trans ((zU_n (by decide)).trans ((zU_n (by decide)).trans ((zU_n (by decide)).trans ((zU_n (by decide)).trans ((a5 _ hb1.1 hb1.2).1.symm.trans hk))))))))))))))))))) ?_
  refine z_pushJ gp_245_31 ?_
  refine z_icmp_neT gi_245_32 zr_3 zr_5 (by decide) ?_
  refine z_aload0 gi_245_50 ?_
  refine z_iload1 gi_245_51 ?_
  refine z_iload2 gi_245_52 ?_
  refine z_callVi (As := [_, _]) (le := [some _, some _, some _, none]) gi_245_53 rfl gk_50 (Nat.le_of_ble_eq_true rfl) (Nat.le_of_ble_eq_true rfl) rfl ?_
  refine z_aload0 gi_244_0 ?_
  refine z_pushJ gp_244_1 ?_
  refine z_callVx (As := [_]) gi_244_2 rfl rfl (Nat.le_of_ble_eq_true rfl) (Nat.le_of_ble_eq_true rfl) (rn_k (n := 0) (m := 1) hRr (zU_e) (by decide) (by decide)) ?_
  show zW _ _ _ _ _ _ _ _ _ _
  refine z_aload0 gi_244_5 ?_
  refine z_iload1 gi_244_6 ?_
  refine z_iload2 gi_244_7 ?_
  refine z_callVi (As := [_, _]) (le := [some _, some _, some _, none]) gi_244_8 rfl gk_50 (Nat.le_of_ble_eq_true rfl) (Nat.le_of_ble_eq_true rfl) rfl ?_
  refine z_aload0 gi_240_0 ?_
  refine z_getR (r := 81) gi_240_1 gk_50 (hRr _ rm_50_55 (by decide)) ?_
  refine z_iload1 gi_240_4 ?_
  refine z_iald (v := 3) gi_240_5 gk_81 (by decide) (by omega) ((zU_n (by decide)).trans ((zU_n (by decide)).trans ((zU_n (by decide)).trans ((zU_n (by decide)).trans ((zU_n (by decide)).trans ((zU_n (by decide)).trans ((zU_n (by decide)).trans ((zU_n (by decide)).trans ((zU_n (by decide)).trans ((zU_n (by decide)).trans ((zU_n (by decide)).trans ((zU_n (by decide)).trans ((zU_n (by decide)).trans ((zU_n (by decide)).trans ((zU_n (by decide)).trans ((zU_n (by decide)).trans ((zU_n (by decide)).trans ((zU_n (by decide)).trans ((zU_n (by decide)).trans ((zU_n (by decide)).trans ((a5 _ hb1.1 hb1.2).1.symm.trans hk))))))))))))))))))))) ?_
  refine z_pushJ gp_240_6 ?_
  refine z_callSP (As := [_, _]) (v := 1) gi_240_7 rfl (Nat.le_of_ble_eq_true rfl) (Nat.le_of_ble_eq_true rfl) iu_3_3 ?_
  refine z_if_eqF gi_240_10 zr_1 (by decide) ?_
  refine z_aload0 gi_240_13 ?_
  refine z_pushJ gp_240_14 ?_
  refine z_callVx (As := [_]) gi_240_16 rfl rfl (Nat.le_of_ble_eq_true rfl) (Nat.le_of_ble_eq_true rfl) (rn_k (n := 1) (m := 2) hRr (zU_e) (by decide) (by decide)) ?_
  show zW _ _ _ _ _ _ _ _ _ _
  refine z_aload0 gi_240_19 ?_
  refine z_iload1 gi_240_20 ?_
  refine z_iload2 gi_240_21 ?_
  refine z_pushJ gp_240_22 ?_
  refine z_iadd (e := x + 1) gi_240_23 rfl ?_
  refine z_cV2 gi_240_24 gk_50 go_239 (Nat.le_of_ble_eq_true rfl) gc_239_RII ?_
  refine z_aload0 gi_239_0 ?_
  refine z_pushJ gp_239_1 ?_
  refine z_callVx (As := [_]) gi_239_3 rfl rfl (Nat.le_of_ble_eq_true rfl) (Nat.le_of_ble_eq_true rfl) (rn_k (n := 2) (m := 3) hRr (zU_e) (by decide) (by decide)) ?_
  show zW _ _ _ _ _ _ _ _ _ _
  refine z_aload0 gi_239_6 ?_
  refine z_iload1 gi_239_7 ?_
  refine z_iload2 gi_239_8 ?_
  refine z_cV2 gi_239_9 gk_50 go_238 (Nat.le_of_ble_eq_true rfl) gc_238_RII ?_
  refine z_aload0 gi_238_0 ?_
  refine z_pushJ gp_238_1 ?_
  refine z_callVx (As := [_]) gi_238_3 rfl rfl (Nat.le_of_ble_eq_true rfl) (Nat.le_of_ble_eq_true rfl) (rn_k (n := 3) (m := 4) hRr (zU_e) (by decide) (by decide)) ?_
  show zW _ _ _ _ _ _ _ _ _ _
  refine z_aload0 gi_238_6 ?_
  refine z_iload1 gi_238_7 ?_
  refine z_iload2 gi_238_8 ?_
  refine z_cV2 gi_238_9 gk_50 go_237 (Nat.le_of_ble_eq_true rfl) gc_237_RII ?_
  refine z_aload0 gi_237_0 ?_
  refine z_getR (r := 81) gi_237_1 gk_50 (hRr _ rm_50_55 (by decide)) ?_
  refine z_iload1 gi_237_4 ?_
  refine z_iald (v := 3) gi_237_5 gk_81 (by decide) (by omega) ((zU_n (by decide)).trans ((zU_n (by decide)).trans ((zU_n (by decide)).trans ((zU_n (by decide)).trans ((zU_n (by decide)).trans ((zU_n (by decide)).trans ((zU_n (by decide)).trans ((zU_n (by decide)).trans ((zU_n (by decide)).trans ((zU_n (by decide)).trans ((zU_n (by decide)).trans ((zU_n (by decide)).trans ((zU_n (by decide)).trans ((zU_n (by decide)).trans ((zU_n (by decide)).trans ((zU_n (by decide)).trans ((zU_n (by decide)).trans ((zU_n (by decide)).trans ((zU_n (by decide)).trans ((zU_n (by decide)).trans ((zU_n (by decide)).trans ((zU_n (by decide)).trans ((zU_n (by decide)).trans ((zU_n (by decide)).trans ((zU_n (by decide)).trans ((zU_n (by decide)).trans ((a5 _ hb1.1 hb1.2).1.symm.trans hk))))))))))))))))))))))))))) ?_
  refine z_pushJ gp_237_6 ?_
  refine z_callSP (As := [_, _]) (v := 0) gi_237_7 rfl (Nat.le_of_ble_eq_true rfl) (Nat.le_of_ble_eq_true rfl) iu_3_1 ?_
  refine z_if_eqT gi_237_10 zr_0 (by decide) ?_
  refine z_aload0 gi_237_28 ?_
  refine z_getR (r := 81) gi_237_29 gk_50 (hRr _ rm_50_55 (by decide)) ?_
  refine z_iload1 gi_237_32 ?_
  refine z_iald (v := 3) gi_237_33 gk_81 (by decide) (by omega) ((zU_n (by decide)).trans ((zU_n (by decide)).trans ((zU_n (by decide)).trans ((zU_n (by decide)).trans ((zU_n (by decide)).trans ((zU_n (by decide)).trans ((zU_n (by decide)).trans ((zU_n (by decide)).trans ((zU_n (by decide)).trans ((zU_n (by decide)).trans ((zU_n (by decide)).trans ((zU_n (by decide)).trans ((zU_n (by decide)).trans ((zU_n (by decide)).trans ((zU_n (by decide)).trans ((zU_n (by decide)).trans ((zU_n (by decide)).trans ((zU_n (by decide)).trans ((zU_n (by decide)).trans ((zU_n (by decide)).trans ((zU_n (by decide)).trans ((zU_n (by decide)).trans ((zU_n (by decide)).trans ((zU_n (by decide)).trans ((zU_n (by decide)).trans ((zU_n (by decide)).trans ((a5 _ hb1.1 hb1.2).1.symm.trans hk))))))))))))))))))))))))))) ?_
  refine z_pushJ gp_237_34 ?_
  refine z_icmp_neT gi_237_36 zr_3 zr_7 (by decide) ?_
  refine z_aload0 gi_237_54 ?_
  refine z_getR (r := 81) gi_237_55 gk_50 (hRr _ rm_50_55 (by decide)) ?_
  refine z_iload1 gi_237_58 ?_
  refine z_iald (v := 3) gi_237_59 gk_81 (by decide) (by omega) ((zU_n (by decide)).trans ((zU_n (by decide)).trans ((zU_n (by decide)).trans ((zU_n (by decide)).trans ((zU_n (by decide)).trans ((zU_n (by decide)).trans ((zU_n (by decide)).trans ((zU_n (by decide)).trans ((zU_n (by decide)).trans ((zU_n (by decide)).trans ((zU_n (by decide)).trans ((zU_n (by decide)).trans ((zU_n (by decide)).trans ((zU_n (by decide)).trans ((zU_n (by decide)).trans ((zU_n (by decide)).trans ((zU_n (by decide)).trans ((zU_n (by decide)).trans ((zU_n (by decide)).trans ((zU_n (by decide)).trans ((zU_n (by decide)).trans ((zU_n (by decide)).trans ((zU_n (by decide)).trans ((zU_n (by decide)).trans ((zU_n (by decide)).trans ((zU_n (by decide)).trans ((a5 _ hb1.1 hb1.2).1.symm.trans hk))))))))))))))))))))))))))) ?_
  refine z_pushJ gp_237_60 ?_
  refine z_icmp_neT gi_237_62 zr_3 zr_6 (by decide) ?_
  refine z_aload0 gi_237_74 ?_
  refine z_iload1 gi_237_75 ?_
  refine z_iload2 gi_237_76 ?_
  refine z_cV2 gi_237_77 gk_50 go_235 (Nat.le_of_ble_eq_true rfl) gc_235_RII ?_
  refine z_aload0 gi_235_0 ?_
  refine z_pushJ gp_235_1 ?_
  refine z_callVx (As := [_]) gi_235_2 rfl rfl (Nat.le_of_ble_eq_true rfl) (Nat.le_of_ble_eq_true rfl) (rn_k (n := 4) (m := 5) hRr (zU_e) (by decide) (by decide)) ?_
  show zW _ _ _ _ _ _ _ _ _ _
  refine z_iload2 gi_235_5 ?_
  refine z_iload1 gi_235_6 ?_
  refine z_iadd (e := x + 1 + b) gi_235_7 rfl ?_
  refine z_iret gi_235_8 gr_235 ?_
  show zW _ _ _ _ _ _ _ _ _ _
  refine z_iret gi_237_80 gr_237 ?_
  show zW _ _ _ _ _ _ _ _ _ _
  refine z_pushJ gp_238_12 ?_
  refine z_imul (e := (x + 1 + b) * 2) gi_238_13 rfl ?_
  refine z_iret gi_238_14 gr_238 ?_
  show zW _ _ _ _ _ _ _ _ _ _
  refine z_ineg (e := -((x + 1 + b) * 2)) gi_239_12 rfl ?_
  refine z_iret gi_239_13 gr_239 ?_
  show zW _ _ _ _ _ _ _ _ _ _
  refine z_iret gi_240_27 gr_240 ?_
  show zW _ _ _ _ _ _ _ _ _ _
  refine z_istore (ls1 := [some (.ref 50), some (zi b), some (zi x), some (zi (-((x + 1 + b) * 2)))]) gi_244_11 rfl ?_
  refine z_iload3 gi_244_12 ?_
  refine z_aload0 gi_244_13 ?_
  refine z_iload1 gi_244_14 ?_
  refine z_pushJ gp_244_15 ?_
  refine z_callVi (As := [_, _]) (le := [some _, some _, some _, none]) gi_244_16 rfl gk_50 (Nat.le_of_ble_eq_true rfl) (Nat.le_of_ble_eq_true rfl) rfl ?_
  refine z_aload0 gi_243_0 ?_
  refine z_getR (r := 81) gi_243_1 gk_50 (hRr _ rm_50_55 (by decide)) ?_
  refine z_iload1 gi_243_4 ?_
  refine z_iald (v := 3) gi_243_5 gk_81 (by decide) (by omega) ((zU_n (by decide)).trans ((zU_n (by decide)).trans ((zU_n (by decide)).trans ((zU_n (by decide)).trans ((zU_n (by decide)).trans ((zU_n (by decide)).trans ((zU_n (by decide)).trans ((zU_n (by decide)).trans ((zU_n (by decide)).trans ((zU_n (by decide)).trans ((zU_n (by decide)).trans ((zU_n (by decide)).trans ((zU_n (by decide)).trans ((zU_n (by decide)).trans ((zU_n (by decide)).trans ((zU_n (by decide)).trans ((zU_n (by decide)).trans ((zU_n (by decide)).trans ((zU_n (by decide)).trans ((zU_n (by decide)).trans ((zU_n (by decide)).trans ((zU_n (by decide)).trans ((zU_n (by decide)).trans ((zU_n (by decide)).trans ((zU_n (by decide)).trans ((zU_n (by decide)).trans ((zU_n (by decide)).trans ((zU_n (by decide)).trans ((a5 _ hb1.1 hb1.2).1.symm.trans hk))))))))))))))))))))))))))))) ?_
  refine z_pushJ gp_243_6 ?_
  refine z_icmp_neT gi_243_7 zr_3 zr_5 (by decide) ?_
  refine z_aload0 gi_243_32 ?_
  refine z_getR (r := 81) gi_243_33 gk_50 (hRr _ rm_50_55 (by decide)) ?_
  refine z_iload1 gi_243_36 ?_
  refine z_iald (v := 3) gi_243_37 gk_81 (by decide) (by omega) ((zU_n (by decide)).trans ((zU_n (by decide)).trans ((zU_n (by decide)).trans ((zU_n (by decide)).trans ((zU_n (by decide)).trans ((zU_n (by decide)).trans ((zU_n (by decide)).trans ((zU_n (by decide)).trans ((zU_n (by decide)).trans ((zU_n (by decide)).trans ((zU_n (by decide)).trans ((zU_n (by decide)).trans ((zU_n (by decide)).trans ((zU_n (by decide)).trans ((zU_n (by decide)).trans ((zU_n (by decide)).trans ((zU_n (by decide)).trans ((zU_n (by decide)).trans ((zU_n (by decide)).trans ((zU_n (by decide)).trans ((zU_n (by decide)).trans ((zU_n (by decide)).trans ((zU_n (by decide)).trans ((zU_n (by decide)).trans ((zU_n (by decide)).trans ((zU_n (by decide)).trans ((zU_n (by decide)).trans ((zU_n (by decide)).trans ((a5 _ hb1.1 hb1.2).1.symm.trans hk))))))))))))))))))))))))))))) ?_
  refine z_pushJ gp_243_38 ?_
  refine z_icmp_neF gi_243_39 zr_3 zr_3 (by decide) ?_
  refine z_aload0 gi_243_42 ?_
  refine z_iload1 gi_243_43 ?_
  refine z_iload2 gi_243_44 ?_
  refine z_cV2 gi_243_45 gk_50 go_242 (Nat.le_of_ble_eq_true rfl) gc_242_RII ?_
  refine z_aload0 gi_242_0 ?_
  refine z_pushJ gp_242_1 ?_
  refine z_callVx (As := [_]) gi_242_3 rfl rfl (Nat.le_of_ble_eq_true rfl) (Nat.le_of_ble_eq_true rfl) (rn_k (n := 5) (m := 6) hRr (zU_e) (by decide) (by decide)) ?_
  show zW _ _ _ _ _ _ _ _ _ _
  refine z_aload0 gi_242_6 ?_
  refine z_iload1 gi_242_7 ?_
  refine z_iload2 gi_242_8 ?_
  refine z_cV2 gi_242_9 gk_50 go_241 (Nat.le_of_ble_eq_true rfl) gc_241_RII ?_
  refine z_aload0 gi_241_0 ?_
  refine z_pushJ gp_241_1 ?_
  refine z_callVx (As := [_]) gi_241_3 rfl rfl (Nat.le_of_ble_eq_true rfl) (Nat.le_of_ble_eq_true rfl) (rn_k (n := 6) (m := 7) hRr (zU_e) (by decide) (by decide)) ?_
  show zW _ _ _ _ _ _ _ _ _ _
  refine z_iload2 gi_241_6 ?_
  refine z_iload1 gi_241_7 ?_
  refine z_ixor (e := zxor 1 b) gi_241_8 rfl ?_
  refine z_iret gi_241_9 gr_241 ?_
  show zW _ _ _ _ _ _ _ _ _ _
  refine z_pushJ gp_242_12 ?_
  refine z_imul (e := (zxor 1 b) * 3) gi_242_13 rfl ?_
  refine z_iret gi_242_14 gr_242 ?_
  show zW _ _ _ _ _ _ _ _ _ _
  refine z_goto gi_243_48 ?_
  refine z_iret gi_243_57 gr_243 ?_
  show zW _ _ _ _ _ _ _ _ _ _
  refine z_isub (e := (-((x + 1 + b) * 2)) - (zxor 1 b) * 3) gi_244_19 rfl ?_
  refine z_iret gi_244_20 gr_244 ?_
  show zW _ _ _ _ _ _ _ _ _ _
  refine z_iret gi_245_56 gr_245 ?_
  show zW _ _ _ _ _ _ _ _ _ _
  refine z_iret gi_246_71 gr_246 ?_
  refine ⟨?_, ?_⟩
  · rfl
  · have hk := (zK_x (a := 50) (x := 56) (v := 7) (zK_x (a := 82) (x := 6) (v := 11) (zK_x (a := 50) (x := 56) (v := 6) (zK_x (a := 82) (x := 5) (v := 40) (zK_x (a := 50) (x := 56) (v := 5) (zK_x (a := 82) (x := 4) (v := 1) (zK_x (a := 50) (x := 56) (v := 4) (zK_x (a := 82) (x := 3) (v := 10) (zK_x (a := 50) (x := 56) (v := 3) (zK_x (a := 82) (x := 2) (v := 30) (zK_x (a := 50) (x := 56) (v := 2) (zK_x (a := 82) (x := 1) (v := 41) (zK_x (a := 50) (x := 56) (v := 1) (zK_x (a := 82) (x := 0) (v := 2) (zK_x (a := 50) (x := 56) (v := 0) (zK_x (a := 34) (x := 3) (v := 7) (zK_x (a := 36) (x := 6) (v := 11) (zK_x (a := 34) (x := 3) (v := 6) (zK_x (a := 36) (x := 5) (v := 40) (zK_x (a := 34) (x := 3) (v := 5) (zK_x (a := 36) (x := 4) (v := 1) (zK_x (a := 34) (x := 3) (v := 4) (zK_x (a := 36) (x := 3) (v := 10) (zK_x (a := 34) (x := 3) (v := 3) (zK_x (a := 36) (x := 2) (v := 30) (zK_x (a := 34) (x := 3) (v := 2) (zK_x (a := 36) (x := 1) (v := 41) (zK_x (a := 34) (x := 3) (v := 1) (zK_x (a := 36) (x := 0) (v := 2) (zK_x (a := 34) (x := 5) (v := 3) (zK_x (a := 34) (x := 4) (v := b) (zK_x (a := 34) (x := 3) (v := 0) (zK_r (k := (kL [] [(34, 3), (34, 4), (34, 5), (36, 0), (36, 1), (36, 2), (36, 3), (36, 4), (36, 5), (36, 6), (50, 56), (82, 0), (82, 1), (82, 2), (82, 3), (82, 4), (82, 5), (82, 6)])) (A := J)) rfl) rfl) rfl) rfl) rfl) rfl) rfl) rfl) rfl) rfl) rfl) rfl) rfl) rfl) rfl) rfl) rfl) rfl) rfl) rfl) rfl) rfl) rfl) rfl) rfl) rfl) rfl) rfl) rfl) rfl) rfl) rfl)
    exact ⟨hR, hG, RelY_k hk (by repeat' constructor) (fun p => by repeat' constructor) hY, RelD_k hk (by repeat' constructor) (fun p => by repeat' constructor) hD, RelP_k hk (by repeat' constructor) (fun p => by repeat' constructor) hP, RelC_k hk (by repeat' constructor) (fun p => by repeat' constructor) hC, ⟨(show J 34 1 = J 50 54 from a1), (show 0 ≤ J 34 1 ∧ J 34 1 ≤ 50 from a2), rfl, (show (0 : Int) ≤ 7 ∧ (7 : Int) ≤ 1000 from by decide), (fun i i1 i2 => a5 i i1 i2), (fun i i1 i2 _ => by have i3 : i < 7 := i2; have q : i = 0 ∨ i = 1 ∨ i = 2 ∨ i = 3 ∨ i = 4 ∨ i = 5 ∨ i = 6 := (by omega); rcases q with rfl | rfl | rfl | rfl | rfl | rfl | rfl <;> rfl)⟩, RelS_k hk (zK_r (k := kM)) (fun x j a b => ⟨kL_38 (by decide) (by decide) x j a b, kM_38 x j a b⟩) (fun p => ⟨rfl, rfl, rfl⟩) rfl hS, RelT_k hk (by repeat' constructor) (fun p => by repeat' constructor) hTp, RelX_k hk (by repeat' constructor) (fun p => by repeat' constructor) hX, RelW_k hk ⟨rfl, rfl⟩ trivial hW⟩
theorem iu_4_1 {X : Nat × (Nat → Int32)} {d : Nat} {J M : zA} {R : zR} : zW X d 234 0 (gEn 234 [(zi 4), (zi 1)]) [] J M R (zPu 1 J M R) := by
  show zW _ _ _ _ [some (zi 4), some (zi 1)] _ _ _ _ _
  refine z_iload1 gi_234_0 ?_
  refine z_if_eqF gi_234_1 zr_1 (by decide) ?_
  refine z_iload0 gi_234_4 ?_
  refine z_iload1 gi_234_5 ?_
  refine z_icmp_eqF gi_234_6 zr_4 zr_1 (by decide) ?_
  refine z_iload1 gi_234_9 ?_
  refine z_pushJ gp_234_10 ?_
  refine z_icmp_neF gi_234_11 zr_1 zr_1 (by decide) ?_
  refine z_iload0 gi_234_14 ?_
  refine z_pushJ gp_234_15 ?_
  refine z_icmp_eqT gi_234_16 zr_4 zr_4 (by decide) ?_
  refine z_pushJ gp_234_56 ?_
  refine z_goto gi_234_57 ?_
  refine z_bret1 gi_234_61 gr_234 ?_
  exact ⟨rfl, rfl, rfl, rfl⟩
theorem st_act_40 {X : Nat × (Nat → Int32)} {d : Nat} {J M : zA} {R : zR} {b x : Int} (hr : Rel X J M R) (hb : -2147483648 ≤ b ∧ b < 2147483648) (hx : -2147483648 ≤ x ∧ x < 2147483648) (hb1 : 0 ≤ b ∧ b < J 34 1) (hk : J 35 b = 4) : zW X (d + 20) 134 0 (gEn 134 [(.ref 0), (zi b), (zi 0), (zi x)]) [] J M R (stP X (d + 20) 246 [(zi b), (zi 0), (zi x)]) := by
  have hr0 := hr
  obtain ⟨hR, hG, hY, hD, hP, hC, hAc, hS, hTp, hX, hW⟩ := hr0
  have hRr : zRoR R := zRoR_of hR
  have hA0 := hAc
  obtain ⟨a1, a2, a3, a4, a5, a6⟩ := hA0
  show zW _ _ _ _ [some (.ref 0), some (zi b), some (zi 0), some (zi x)] _ _ _ _ _
  refine z_aload0 gi_134_0 ?_
  refine z_getR (r := 34) gi_134_1 gk_0 (hR _ rm_0_10) ?_
  refine z_iload1 gi_134_4 ?_
  refine z_iload2 gi_134_5 ?_
  refine z_iload3 gi_134_6 ?_
  refine z_cV3 gi_134_7 gk_34 go_7 (Nat.le_of_ble_eq_true rfl) gc_7_RIII ?_
  refine z_aload0 gi_7_0 ?_
  refine z_pushJ gp_7_1 ?_
  refine z_putI (y := 3) gi_7_2 rfl gk_34 ?_
  refine z_aload0 gi_7_5 ?_
  refine z_iload1 gi_7_6 ?_
  refine z_cV1 gi_7_7 gk_34 go_3 (Nat.le_of_ble_eq_true rfl) gc_3_RI ?_
  refine z_iload1 gi_3_0 ?_
  refine z_if_ltF gi_3_1 (by omega) (by omega) ?_
  refine z_iload1 gi_3_4 ?_
  refine z_aload0 gi_3_5 ?_
  refine z_getI (v := J 34 1) gi_3_6 gk_34 ((zU_x (by decide)).trans (rfl)) ?_
  refine z_icmp_geF gi_3_9 (by omega) (by omega) (by omega) ?_
  refine z_pushJ gp_3_12 ?_
  refine z_goto gi_3_13 ?_
  refine z_bret1 gi_3_17 gr_3 ?_
  show zW _ _ _ _ _ _ _ _ _ _
  refine z_if_eqF gi_7_10 zr_1 (by decide) ?_
  refine z_iload2 gi_7_13 ?_
  refine z_if_ltF gi_7_14 zr_0 (by decide) ?_
  refine z_iload2 gi_7_17 ?_
  refine z_pushJ gp_7_18 ?_
  refine z_icmp_ltT gi_7_19 zr_0 zr_4 (by decide) ?_
  refine z_aload0 gi_7_24 ?_
  refine z_iload1 gi_7_25 ?_
  refine z_putI (y := 4) gi_7_26 rfl gk_34 ?_
  refine z_aload0 gi_7_29 ?_
  refine z_aload0 gi_7_30 ?_
  refine z_getR (r := 35) gi_7_31 gk_34 (hR _ rm_34_0) ?_
  refine z_iload1 gi_7_34 ?_
  refine z_iald (v := 4) gi_7_35 gk_35 (by decide) (by omega) ((zU_n (by decide)).trans ((zU_n (by decide)).trans (hk))) ?_
  refine z_putI (y := 5) gi_7_36 rfl gk_34 ?_
  refine z_aload0 gi_7_39 ?_
  refine z_iload2 gi_7_40 ?_
  refine z_iload3 gi_7_41 ?_
  refine z_pushJ gp_7_42 ?_
  refine z_cV3 gi_7_43 gk_34 go_8 (Nat.le_of_ble_eq_true rfl) gc_8_RIII ?_
  refine z_aload0 gi_8_0 ?_
  refine z_aload0 gi_8_1 ?_
  refine z_getI (v := 4) gi_8_2 gk_34 (zU_e) ?_
  refine z_iload1 gi_8_5 ?_
  refine z_iload2 gi_8_6 ?_
  refine z_iload3 gi_8_7 ?_
  refine z_callVi (As := [_, _, _, _]) (le := [some _, some _, some _, some _, some _, none, none]) gi_8_8 rfl gk_34 (Nat.le_of_ble_eq_true rfl) (Nat.le_of_ble_eq_true rfl) rfl ?_
  refine ah_4_0 (by decide) ?_
  refine z_aload0 gi_9_77 ?_
  refine z_iload6 gi_9_78 ?_
  refine z_callVx (As := [_]) gi_9_80 rfl rfl (Nat.le_of_ble_eq_true rfl) (Nat.le_of_ble_eq_true rfl) (bg_k (n := 0) (m := 1) hR ((zU_x (by decide)).trans ((zU_x (by decide)).trans (zU_e))) (by decide) (by decide)) ?_
  show zW _ _ _ _ _ _ _ _ _ _
  refine z_iload5 gi_9_83 ?_
  refine z_if_neT gi_9_85 zr_1 (by decide) ?_
  refine z_aload0 gi_9_100 ?_
  refine z_iload6 gi_9_101 ?_
  refine z_getS gi_9_103 ?_
  refine z_iload5 gi_9_106 ?_
  refine z_sald (j := 4) (n := 8) (v := 0) gi_9_108 (by decide) rfl (by decide) (by decide) rfl ?_
  refine z_iload3 gi_9_109 ?_
  refine z_iload4 gi_9_110 ?_
  refine z_pushJ gp_9_112 ?_
  refine z_iadd (e := 1) gi_9_113 rfl ?_
  refine z_callVi (As := [_, _, _, _]) (le := [some _, some _, some _, some _, some _, none, none]) gi_9_114 rfl gk_34 (Nat.le_of_ble_eq_true rfl) (Nat.le_of_ble_eq_true rfl) rfl ?_
  refine z_iload1 gi_12_0 ?_
  refine z_swI (tg := 92) gi_12_1 (by decide) (T := [((20 : Int), 92), ((30 : Int), 104), ((40 : Int), 115), ((41 : Int), 127), ((50 : Int), 139), ((60 : Int), 151), ((61 : Int), 174), ((70 : Int), 186), ((80 : Int), 198), ((81 : Int), 221)]) rfl (by decide) ?_
  refine z_aload0 gi_12_92 ?_
  refine z_iload2 gi_12_93 ?_
  refine z_pushJ gp_12_94 ?_
  refine z_iload3 gi_12_95 ?_
  refine z_iload4 gi_12_96 ?_
  refine z_callVi (As := [_, _, _, _]) (le := [some _, some _, some _, some _, some _, none, none]) gi_12_98 rfl gk_34 (Nat.le_of_ble_eq_true rfl) (Nat.le_of_ble_eq_true rfl) rfl ?_
  refine ah_0_0 (by decide) ?_
  refine z_aload0 gi_9_77 ?_
  refine z_iload6 gi_9_78 ?_
  refine z_callVx (As := [_]) gi_9_80 rfl rfl (Nat.le_of_ble_eq_true rfl) (Nat.le_of_ble_eq_true rfl) (bg_k (n := 1) (m := 2) hR (zU_e) (by decide) (by decide)) ?_
  show zW _ _ _ _ _ _ _ _ _ _
  refine z_iload5 gi_9_83 ?_
  refine z_if_neF gi_9_85 zr_0 (by decide) ?_
  refine z_aload0 gi_9_88 ?_
  refine z_iload6 gi_9_89 ?_
  refine z_iload3 gi_9_91 ?_
  refine z_iload4 gi_9_92 ?_
  refine z_pushJ gp_9_94 ?_
  refine z_iadd (e := 2) gi_9_95 rfl ?_
  refine z_callVi (As := [_, _, _]) (le := [some _, some _, some _, some _, none]) gi_9_96 rfl gk_34 (Nat.le_of_ble_eq_true rfl) (Nat.le_of_ble_eq_true rfl) rfl ?_
  refine z_iload1 gi_11_0 ?_
  refine z_swI (tg := 44) gi_11_1 (by decide) (T := [((1 : Int), 44), ((2 : Int), 51), ((10 : Int), 71), ((11 : Int), 81)]) rfl (by decide) ?_
  refine z_iload2 gi_11_44 ?_
  refine z_aload0 gi_11_45 ?_
  refine z_getI (v := b) gi_11_46 gk_34 ((zU_x (by decide)).trans ((zU_n (by decide)).trans ((zU_x (by decide)).trans ((zU_n (by decide)).trans ((zU_x (by decide)).trans (zU_e)))))) ?_
  refine z_iadd (e := x + b) gi_11_49 rfl ?_
  refine z_iret gi_11_50 gr_11 ?_
  show zW _ _ _ _ _ _ _ _ _ _
  refine z_iret gi_9_99 gr_9 ?_
  show zW _ _ _ _ _ _ _ _ _ _
  refine z_pushJ gp_12_101 ?_
  refine z_iadd (e := x + b + 3) gi_12_102 rfl ?_
  refine z_iret gi_12_103 gr_12 ?_
  show zW _ _ _ _ _ _ _ _ _ _
  refine z_iret gi_9_117 gr_9 ?_
  show zW _ _ _ _ _ _ _ _ _ _
  refine z_iret gi_8_11 gr_8 ?_
  show zW _ _ _ _ _ _ _ _ _ _
  refine z_iret gi_7_46 gr_7 ?_
  show zW _ _ _ _ _ _ _ _ _ _
  refine z_iret gi_134_10 gr_134 ?_
  refine ⟨_, rfl, ?_⟩
  show zW _ _ _ _ [some (.ref 50), some (zi b), some (zi 0), some (zi x)] _ _ _ _ _
  refine z_aload0 gi_246_0 ?_
  refine z_pushJ gp_246_1 ?_
  refine z_putI (y := 56) gi_246_2 rfl gk_50 ?_
  refine z_aload0 gi_246_5 ?_
  refine z_iload1 gi_246_6 ?_
  refine z_cV1 gi_246_7 gk_50 go_230 (Nat.le_of_ble_eq_true rfl) gc_230_RI ?_
  refine z_iload1 gi_230_0 ?_
  refine z_pushJ gp_230_1 ?_
  refine z_aload0 gi_230_2 ?_
  refine z_getI (v := J 34 1) gi_230_3 gk_50 ((zU_x (by decide)).trans ((zU_n (by decide)).trans ((zU_n (by decide)).trans ((zU_n (by decide)).trans ((zU_n (by decide)).trans ((zU_n (by decide)).trans ((zU_n (by decide)).trans ((zU_n (by decide)).trans (a1.symm))))))))) ?_
  refine z_pushJ gp_230_6 ?_
  refine z_isub (e := (J 34 1) - 1) gi_230_7 rfl ?_
  refine z_cS3 gi_230_8 (Nat.le_of_ble_eq_true rfl) gc_148_III ?_
  refine z_iload0 gi_148_0 ?_
  refine z_iload1 gi_148_1 ?_
  refine z_icmp_ltF gi_148_2 (by omega) zr_0 (by omega) ?_
  refine z_iload0 gi_148_5 ?_
  refine z_iload2 gi_148_6 ?_
  refine z_icmp_gtF gi_148_7 (by omega) (by omega) (by omega) ?_
  refine z_pushJ gp_148_10 ?_
  refine z_goto gi_148_11 ?_
  refine z_bret1 gi_148_15 gr_148 ?_
  show zW _ _ _ _ _ _ _ _ _ _
  refine z_bret1 gi_230_11 gr_230 ?_
  show zW _ _ _ _ _ _ _ _ _ _
  refine z_if_eqF gi_246_10 zr_1 (by decide) ?_
  refine z_iload2 gi_246_13 ?_
  refine z_pushJ gp_246_14 ?_
  refine z_pushJ gp_246_15 ?_
  refine z_cS3 gi_246_16 (Nat.le_of_ble_eq_true rfl) gc_148_III ?_
  refine z_iload0 gi_148_0 ?_
  refine z_iload1 gi_148_1 ?_
  refine z_icmp_ltF gi_148_2 zr_0 zr_0 (by decide) ?_
  refine z_iload0 gi_148_5 ?_
  refine z_iload2 gi_148_6 ?_
  refine z_icmp_gtF gi_148_7 zr_0 zr_3 (by decide) ?_
  refine z_pushJ gp_148_10 ?_
  refine z_goto gi_148_11 ?_
  refine z_bret1 gi_148_15 gr_148 ?_
  show zW _ _ _ _ _ _ _ _ _ _
  refine z_if_neT gi_246_19 zr_1 (by decide) ?_
  refine z_iload2 gi_246_24 ?_
  refine z_if_neF gi_246_25 zr_0 (by decide) ?_
  refine z_aload0 gi_246_28 ?_
  refine z_iload1 gi_246_29 ?_
  refine z_iload3 gi_246_30 ?_
  refine z_cV2 gi_246_31 gk_50 go_237 (Nat.le_of_ble_eq_true rfl) gc_237_RII ?_
  refine z_aload0 gi_237_0 ?_
  refine z_getR (r := 81) gi_237_1 gk_50 (hRr _ rm_50_55 (by decide)) ?_
  refine z_iload1 gi_237_4 ?_
  refine z_iald (v := 4) gi_237_5 gk_81 (by decide) (by omega) ((zU_n (by decide)).trans ((zU_n (by decide)).trans ((zU_n (by decide)).trans ((zU_n (by decide)).trans ((zU_n (by decide)).trans ((zU_n (by decide)).trans ((zU_n (by decide)).trans ((zU_n (by decide)).trans ((a5 _ hb1.1 hb1.2).1.symm.trans hk))))))))) ?_
  refine z_pushJ gp_237_6 ?_
  refine z_callSP (As := [_, _]) (v := 1) gi_237_7 rfl (Nat.le_of_ble_eq_true rfl) (Nat.le_of_ble_eq_true rfl) iu_4_1 ?_
  refine z_if_eqF gi_237_10 zr_1 (by decide) ?_
  refine z_aload0 gi_237_13 ?_
  refine z_pushJ gp_237_14 ?_
  refine z_callVx (As := [_]) gi_237_16 rfl rfl (Nat.le_of_ble_eq_true rfl) (Nat.le_of_ble_eq_true rfl) (rn_k (n := 0) (m := 1) hRr (zU_e) (by decide) (by decide)) ?_
  show zW _ _ _ _ _ _ _ _ _ _
  refine z_aload0 gi_237_19 ?_
  refine z_iload1 gi_237_20 ?_
  refine z_iload2 gi_237_21 ?_
  refine z_cV2 gi_237_22 gk_50 go_235 (Nat.le_of_ble_eq_true rfl) gc_235_RII ?_
  refine z_aload0 gi_235_0 ?_
  refine z_pushJ gp_235_1 ?_
  refine z_callVx (As := [_]) gi_235_2 rfl rfl (Nat.le_of_ble_eq_true rfl) (Nat.le_of_ble_eq_true rfl) (rn_k (n := 1) (m := 2) hRr (zU_e) (by decide) (by decide)) ?_
  show zW _ _ _ _ _ _ _ _ _ _
  refine z_iload2 gi_235_5 ?_
  refine z_iload1 gi_235_6 ?_
  refine z_iadd (e := x + b) gi_235_7 rfl ?_
  refine z_iret gi_235_8 gr_235 ?_
  show zW _ _ _ _ _ _ _ _ _ _
  refine z_pushJ gp_237_25 ?_
  refine z_iadd (e := x + b + 3) gi_237_26 rfl ?_
  refine z_iret gi_237_27 gr_237 ?_
  show zW _ _ _ _ _ _ _ _ _ _
  refine z_goto gi_246_34 ?_
  refine z_iret gi_246_71 gr_246 ?_
  refine ⟨?_, ?_⟩
  · rfl
  · have hk := (zK_x (a := 50) (x := 56) (v := 2) (zK_x (a := 82) (x := 1) (v := 1) (zK_x (a := 50) (x := 56) (v := 1) (zK_x (a := 82) (x := 0) (v := 20) (zK_x (a := 50) (x := 56) (v := 0) (zK_x (a := 34) (x := 3) (v := 2) (zK_x (a := 36) (x := 1) (v := 1) (zK_x (a := 34) (x := 3) (v := 1) (zK_x (a := 36) (x := 0) (v := 20) (zK_x (a := 34) (x := 5) (v := 4) (zK_x (a := 34) (x := 4) (v := b) (zK_x (a := 34) (x := 3) (v := 0) (zK_r (k := (kL [] [(34, 3), (34, 4), (34, 5), (36, 0), (36, 1), (50, 56), (82, 0), (82, 1)])) (A := J)) rfl) rfl) rfl) rfl) rfl) rfl) rfl) rfl) rfl) rfl) rfl) rfl)
    exact ⟨hR, hG, RelY_k hk (by repeat' constructor) (fun p => by repeat' constructor) hY, RelD_k hk (by repeat' constructor) (fun p => by repeat' constructor) hD, RelP_k hk (by repeat' constructor) (fun p => by repeat' constructor) hP, RelC_k hk (by repeat' constructor) (fun p => by repeat' constructor) hC, ⟨(show J 34 1 = J 50 54 from a1), (show 0 ≤ J 34 1 ∧ J 34 1 ≤ 50 from a2), rfl, (show (0 : Int) ≤ 2 ∧ (2 : Int) ≤ 1000 from by decide), (fun i i1 i2 => a5 i i1 i2), (fun i i1 i2 _ => by have i3 : i < 2 := i2; have q : i = 0 ∨ i = 1 := (by omega); rcases q with rfl | rfl <;> rfl)⟩, RelS_k hk (zK_r (k := kM)) (fun x j a b => ⟨kL_38 (by decide) (by decide) x j a b, kM_38 x j a b⟩) (fun p => ⟨rfl, rfl, rfl⟩) rfl hS, RelT_k hk (by repeat' constructor) (fun p => by repeat' constructor) hTp, RelX_k hk (by repeat' constructor) (fun p => by repeat' constructor) hX, RelW_k hk ⟨rfl, rfl⟩ trivial hW⟩
theorem iu_4_3 {X : Nat × (Nat → Int32)} {d : Nat} {J M : zA} {R : zR} : zW X d 234 0 (gEn 234 [(zi 4), (zi 3)]) [] J M R (zPu 0 J M R) := by
  show zW _ _ _ _ [some (zi 4), some (zi 3)] _ _ _ _ _
  refine z_iload1 gi_234_0 ?_
  refine z_if_eqF gi_234_1 zr_3 (by decide) ?_
  refine z_iload0 gi_234_4 ?_
  refine z_iload1 gi_234_5 ?_
  refine z_icmp_eqF gi_234_6 zr_4 zr_3 (by decide) ?_
  refine z_iload1 gi_234_9 ?_
  refine z_pushJ gp_234_10 ?_
  refine z_icmp_neT gi_234_11 zr_3 zr_1 (by decide) ?_
  refine z_iload1 gi_234_19 ?_
  refine z_pushJ gp_234_20 ?_
  refine z_icmp_neT gi_234_21 zr_3 zr_2 (by decide) ?_
  refine z_iload1 gi_234_34 ?_
  refine z_pushJ gp_234_35 ?_
  refine z_icmp_neF gi_234_36 zr_3 zr_3 (by decide) ?_
  refine z_iload0 gi_234_39 ?_
  refine z_pushJ gp_234_40 ?_
  refine z_icmp_eqF gi_234_41 zr_4 zr_5 (by decide) ?_
  refine z_iload1 gi_234_44 ?_
  refine z_pushJ gp_234_45 ?_
  refine z_icmp_neT gi_234_47 zr_3 zr_6 (by decide) ?_
  refine z_pushJ gp_234_60 ?_
  refine z_bret0 gi_234_61 gr_234 ?_
  exact ⟨rfl, rfl, rfl, rfl⟩
theorem st_act_41 {X : Nat × (Nat → Int32)} {d : Nat} {J M : zA} {R : zR} {b x : Int} (hr : Rel X J M R) (hb : -2147483648 ≤ b ∧ b < 2147483648) (hx : -2147483648 ≤ x ∧ x < 2147483648) (hb1 : 0 ≤ b ∧ b < J 34 1) (hk : J 35 b = 4) : zW X (d + 20) 134 0 (gEn 134 [(.ref 0), (zi b), (zi 1), (zi x)]) [] J M R (stP X (d + 20) 246 [(zi b), (zi 1), (zi x)]) := by
  have hr0 := hr
  obtain ⟨hR, hG, hY, hD, hP, hC, hAc, hS, hTp, hX, hW⟩ := hr0
  have hRr : zRoR R := zRoR_of hR
  have hA0 := hAc
  obtain ⟨a1, a2, a3, a4, a5, a6⟩ := hA0
  show zW _ _ _ _ [some (.ref 0), some (zi b), some (zi 1), some (zi x)] _ _ _ _ _
  refine z_aload0 gi_134_0 ?_
  refine z_getR (r := 34) gi_134_1 gk_0 (hR _ rm_0_10) ?_
  refine z_iload1 gi_134_4 ?_
  refine z_iload2 gi_134_5 ?_
  refine z_iload3 gi_134_6 ?_
  refine z_cV3 gi_134_7 gk_34 go_7 (Nat.le_of_ble_eq_true rfl) gc_7_RIII ?_
  refine z_aload0 gi_7_0 ?_
  refine z_pushJ gp_7_1 ?_
  refine z_putI (y := 3) gi_7_2 rfl gk_34 ?_
  refine z_aload0 gi_7_5 ?_
  refine z_iload1 gi_7_6 ?_
  refine z_cV1 gi_7_7 gk_34 go_3 (Nat.le_of_ble_eq_true rfl) gc_3_RI ?_
  refine z_iload1 gi_3_0 ?_
  refine z_if_ltF gi_3_1 (by omega) (by omega) ?_
  refine z_iload1 gi_3_4 ?_
  refine z_aload0 gi_3_5 ?_
  refine z_getI (v := J 34 1) gi_3_6 gk_34 ((zU_x (by decide)).trans (rfl)) ?_
  refine z_icmp_geF gi_3_9 (by omega) (by omega) (by omega) ?_
  refine z_pushJ gp_3_12 ?_
  refine z_goto gi_3_13 ?_
  refine z_bret1 gi_3_17 gr_3 ?_
  show zW _ _ _ _ _ _ _ _ _ _
  refine z_if_eqF gi_7_10 zr_1 (by decide) ?_
  refine z_iload2 gi_7_13 ?_
  refine z_if_ltF gi_7_14 zr_1 (by decide) ?_
  refine z_iload2 gi_7_17 ?_
  refine z_pushJ gp_7_18 ?_
  refine z_icmp_ltT gi_7_19 zr_1 zr_4 (by decide) ?_
  refine z_aload0 gi_7_24 ?_
  refine z_iload1 gi_7_25 ?_
  refine z_putI (y := 4) gi_7_26 rfl gk_34 ?_
  refine z_aload0 gi_7_29 ?_
  refine z_aload0 gi_7_30 ?_
  refine z_getR (r := 35) gi_7_31 gk_34 (hR _ rm_34_0) ?_
  refine z_iload1 gi_7_34 ?_
  refine z_iald (v := 4) gi_7_35 gk_35 (by decide) (by omega) ((zU_n (by decide)).trans ((zU_n (by decide)).trans (hk))) ?_
  refine z_putI (y := 5) gi_7_36 rfl gk_34 ?_
  refine z_aload0 gi_7_39 ?_
  refine z_iload2 gi_7_40 ?_
  refine z_iload3 gi_7_41 ?_
  refine z_pushJ gp_7_42 ?_
  refine z_cV3 gi_7_43 gk_34 go_8 (Nat.le_of_ble_eq_true rfl) gc_8_RIII ?_
  refine z_aload0 gi_8_0 ?_
  refine z_aload0 gi_8_1 ?_
  refine z_getI (v := 4) gi_8_2 gk_34 (zU_e) ?_
  refine z_iload1 gi_8_5 ?_
  refine z_iload2 gi_8_6 ?_
  refine z_iload3 gi_8_7 ?_
  refine z_callVi (As := [_, _, _, _]) (le := [some _, some _, some _, some _, some _, none, none]) gi_8_8 rfl gk_34 (Nat.le_of_ble_eq_true rfl) (Nat.le_of_ble_eq_true rfl) rfl ?_
  refine ah_4_1 (by decide) ?_
  refine z_aload0 gi_9_77 ?_
  refine z_iload6 gi_9_78 ?_
  refine z_callVx (As := [_]) gi_9_80 rfl rfl (Nat.le_of_ble_eq_true rfl) (Nat.le_of_ble_eq_true rfl) (bg_k (n := 0) (m := 1) hR ((zU_x (by decide)).trans ((zU_x (by decide)).trans (zU_e))) (by decide) (by decide)) ?_
  show zW _ _ _ _ _ _ _ _ _ _
  refine z_iload5 gi_9_83 ?_
  refine z_if_neF gi_9_85 zr_0 (by decide) ?_
  refine z_aload0 gi_9_88 ?_
  refine z_iload6 gi_9_89 ?_
  refine z_iload3 gi_9_91 ?_
  refine z_iload4 gi_9_92 ?_
  refine z_pushJ gp_9_94 ?_
  refine z_iadd (e := 1) gi_9_95 rfl ?_
  refine z_callVi (As := [_, _, _]) (le := [some _, some _, some _, some _, none]) gi_9_96 rfl gk_34 (Nat.le_of_ble_eq_true rfl) (Nat.le_of_ble_eq_true rfl) rfl ?_
  refine z_iload1 gi_11_0 ?_
  refine z_swI (tg := 71) gi_11_1 (by decide) (T := [((1 : Int), 44), ((2 : Int), 51), ((10 : Int), 71), ((11 : Int), 81)]) rfl (by decide) ?_
  refine z_aload0 gi_11_71 ?_
  refine z_pushJ gp_11_72 ?_
  refine z_iload2 gi_11_73 ?_
  refine z_iload3 gi_11_74 ?_
  refine z_cV3 gi_11_75 gk_34 go_8 (Nat.le_of_ble_eq_true rfl) gc_8_RIII ?_
  refine z_aload0 gi_8_0 ?_
  refine z_aload0 gi_8_1 ?_
  refine z_getI (v := 4) gi_8_2 gk_34 ((zU_x (by decide)).trans ((zU_n (by decide)).trans (zU_e))) ?_
  refine z_iload1 gi_8_5 ?_
  refine z_iload2 gi_8_6 ?_
  refine z_iload3 gi_8_7 ?_
  refine z_callVi (As := [_, _, _, _]) (le := [some _, some _, some _, some _, some _, none, none]) gi_8_8 rfl gk_34 (Nat.le_of_ble_eq_true rfl) (Nat.le_of_ble_eq_true rfl) rfl ?_
  refine ah_4_0 (by decide) ?_
  refine z_aload0 gi_9_77 ?_
  refine z_iload6 gi_9_78 ?_
  refine z_callVx (As := [_]) gi_9_80 rfl rfl (Nat.le_of_ble_eq_true rfl) (Nat.le_of_ble_eq_true rfl) (bg_k (n := 1) (m := 2) hR (zU_e) (by decide) (by decide)) ?_
  show zW _ _ _ _ _ _ _ _ _ _
  refine z_iload5 gi_9_83 ?_
  refine z_if_neT gi_9_85 zr_1 (by decide) ?_
  refine z_aload0 gi_9_100 ?_
  refine z_iload6 gi_9_101 ?_
  refine z_getS gi_9_103 ?_
  refine z_iload5 gi_9_106 ?_
  refine z_sald (j := 4) (n := 8) (v := 0) gi_9_108 (by decide) rfl (by decide) (by decide) rfl ?_
  refine z_iload3 gi_9_109 ?_
  refine z_iload4 gi_9_110 ?_
  refine z_pushJ gp_9_112 ?_
  refine z_iadd (e := 2) gi_9_113 rfl ?_
  refine z_callVi (As := [_, _, _, _]) (le := [some _, some _, some _, some _, some _, none, none]) gi_9_114 rfl gk_34 (Nat.le_of_ble_eq_true rfl) (Nat.le_of_ble_eq_true rfl) rfl ?_
  refine z_iload1 gi_12_0 ?_
  refine z_swI (tg := 92) gi_12_1 (by decide) (T := [((20 : Int), 92), ((30 : Int), 104), ((40 : Int), 115), ((41 : Int), 127), ((50 : Int), 139), ((60 : Int), 151), ((61 : Int), 174), ((70 : Int), 186), ((80 : Int), 198), ((81 : Int), 221)]) rfl (by decide) ?_
  refine z_aload0 gi_12_92 ?_
  refine z_iload2 gi_12_93 ?_
  refine z_pushJ gp_12_94 ?_
  refine z_iload3 gi_12_95 ?_
  refine z_iload4 gi_12_96 ?_
  refine z_callVi (As := [_, _, _, _]) (le := [some _, some _, some _, some _, some _, none, none]) gi_12_98 rfl gk_34 (Nat.le_of_ble_eq_true rfl) (Nat.le_of_ble_eq_true rfl) rfl ?_
  refine ah_0_0 (by decide) ?_
  refine z_aload0 gi_9_77 ?_
  refine z_iload6 gi_9_78 ?_
  refine z_callVx (As := [_]) gi_9_80 rfl rfl (Nat.le_of_ble_eq_true rfl) (Nat.le_of_ble_eq_true rfl) (bg_k (n := 2) (m := 3) hR (zU_e) (by decide) (by decide)) ?_
  show zW _ _ _ _ _ _ _ _ _ _
  refine z_iload5 gi_9_83 ?_
  refine z_if_neF gi_9_85 zr_0 (by decide) ?_
  refine z_aload0 gi_9_88 ?_
  refine z_iload6 gi_9_89 ?_
  refine z_iload3 gi_9_91 ?_
  refine z_iload4 gi_9_92 ?_
  refine z_pushJ gp_9_94 ?_
  refine z_iadd (e := 3) gi_9_95 rfl ?_
  refine z_callVi (As := [_, _, _]) (le := [some _, some _, some _, some _, none]) gi_9_96 rfl gk_34 (Nat.le_of_ble_eq_true rfl) (Nat.le_of_ble_eq_true rfl) rfl ?_
  refine z_iload1 gi_11_0 ?_
  refine z_swI (tg := 44) gi_11_1 (by decide) (T := [((1 : Int), 44), ((2 : Int), 51), ((10 : Int), 71), ((11 : Int), 81)]) rfl (by decide) ?_
  refine z_iload2 gi_11_44 ?_
  refine z_aload0 gi_11_45 ?_
  refine z_getI (v := b) gi_11_46 gk_34 ((zU_x (by decide)).trans ((zU_n (by decide)).trans ((zU_x (by decide)).trans ((zU_n (by decide)).trans ((zU_x (by decide)).trans ((zU_n (by decide)).trans ((zU_x (by decide)).trans (zU_e)))))))) ?_
  refine z_iadd (e := x + b) gi_11_49 rfl ?_
  refine z_iret gi_11_50 gr_11 ?_
  show zW _ _ _ _ _ _ _ _ _ _
  refine z_iret gi_9_99 gr_9 ?_
  show zW _ _ _ _ _ _ _ _ _ _
  refine z_pushJ gp_12_101 ?_
  refine z_iadd (e := x + b + 3) gi_12_102 rfl ?_
  refine z_iret gi_12_103 gr_12 ?_
  show zW _ _ _ _ _ _ _ _ _ _
  refine z_iret gi_9_117 gr_9 ?_
  show zW _ _ _ _ _ _ _ _ _ _
  refine z_iret gi_8_11 gr_8 ?_
  show zW _ _ _ _ _ _ _ _ _ _
  refine z_pushJ gp_11_78 ?_
  refine z_imul (e := (x + b + 3) * 2) gi_11_79 rfl ?_
  refine z_iret gi_11_80 gr_11 ?_
  show zW _ _ _ _ _ _ _ _ _ _
  refine z_iret gi_9_99 gr_9 ?_
  show zW _ _ _ _ _ _ _ _ _ _
  refine z_iret gi_8_11 gr_8 ?_
  show zW _ _ _ _ _ _ _ _ _ _
  refine z_iret gi_7_46 gr_7 ?_
  show zW _ _ _ _ _ _ _ _ _ _
  refine z_iret gi_134_10 gr_134 ?_
  refine ⟨_, rfl, ?_⟩
  show zW _ _ _ _ [some (.ref 50), some (zi b), some (zi 1), some (zi x)] _ _ _ _ _
  refine z_aload0 gi_246_0 ?_
  refine z_pushJ gp_246_1 ?_
  refine z_putI (y := 56) gi_246_2 rfl gk_50 ?_
  refine z_aload0 gi_246_5 ?_
  refine z_iload1 gi_246_6 ?_
  refine z_cV1 gi_246_7 gk_50 go_230 (Nat.le_of_ble_eq_true rfl) gc_230_RI ?_
  refine z_iload1 gi_230_0 ?_
  refine z_pushJ gp_230_1 ?_
  refine z_aload0 gi_230_2 ?_
  refine z_getI (v := J 34 1) gi_230_3 gk_50 ((zU_x (by decide)).trans ((zU_n (by decide)).trans ((zU_n (by decide)).trans ((zU_n (by decide)).trans ((zU_n (by decide)).trans ((zU_n (by decide)).trans ((zU_n (by decide)).trans ((zU_n (by decide)).trans ((zU_n (by decide)).trans ((zU_n (by decide)).trans (a1.symm))))))))))) ?_
  refine z_pushJ gp_230_6 ?_
  refine z_isub (e := (J 34 1) - 1) gi_230_7 rfl ?_
  refine z_cS3 gi_230_8 (Nat.le_of_ble_eq_true rfl) gc_148_III ?_
  refine z_iload0 gi_148_0 ?_
  refine z_iload1 gi_148_1 ?_
  refine z_icmp_ltF gi_148_2 (by omega) zr_0 (by omega) ?_
  refine z_iload0 gi_148_5 ?_
  refine z_iload2 gi_148_6 ?_
  refine z_icmp_gtF gi_148_7 (by omega) (by omega) (by omega) ?_
  refine z_pushJ gp_148_10 ?_
  refine z_goto gi_148_11 ?_
  refine z_bret1 gi_148_15 gr_148 ?_
  show zW _ _ _ _ _ _ _ _ _ _
  refine z_bret1 gi_230_11 gr_230 ?_
  show zW _ _ _ _ _ _ _ _ _ _
  refine z_if_eqF gi_246_10 zr_1 (by decide) ?_
  refine z_iload2 gi_246_13 ?_
  refine z_pushJ gp_246_14 ?_
  refine z_pushJ gp_246_15 ?_
  refine z_cS3 gi_246_16 (Nat.le_of_ble_eq_true rfl) gc_148_III ?_
  refine z_iload0 gi_148_0 ?_
  refine z_iload1 gi_148_1 ?_
  refine z_icmp_ltF gi_148_2 zr_1 zr_0 (by decide) ?_
  refine z_iload0 gi_148_5 ?_
  refine z_iload2 gi_148_6 ?_
  refine z_icmp_gtF gi_148_7 zr_1 zr_3 (by decide) ?_
  refine z_pushJ gp_148_10 ?_
  refine z_goto gi_148_11 ?_
  refine z_bret1 gi_148_15 gr_148 ?_
  show zW _ _ _ _ _ _ _ _ _ _
  refine z_if_neT gi_246_19 zr_1 (by decide) ?_
  refine z_iload2 gi_246_24 ?_
  refine z_if_neT gi_246_25 zr_1 (by decide) ?_
  refine z_iload2 gi_246_37 ?_
  refine z_pushJ gp_246_38 ?_
  refine z_icmp_neF gi_246_39 zr_1 zr_1 (by decide) ?_
  refine z_aload0 gi_246_42 ?_
  refine z_iload1 gi_246_43 ?_
  refine z_iload3 gi_246_44 ?_
  refine z_callVi (As := [_, _]) (le := [some _, some _, some _, none]) gi_246_45 rfl gk_50 (Nat.le_of_ble_eq_true rfl) (Nat.le_of_ble_eq_true rfl) rfl ?_
  refine z_aload0 gi_240_0 ?_
  refine z_getR (r := 81) gi_240_1 gk_50 (hRr _ rm_50_55 (by decide)) ?_
  refine z_iload1 gi_240_4 ?_
  refine z_iald (v := 4) gi_240_5 gk_81 (by decide) (by omega) ((zU_n (by decide)).trans ((zU_n (by decide)).trans ((zU_n (by decide)).trans ((zU_n (by decide)).trans ((zU_n (by decide)).trans ((zU_n (by decide)).trans ((zU_n (by decide)).trans ((zU_n (by decide)).trans ((zU_n (by decide)).trans ((zU_n (by decide)).trans ((a5 _ hb1.1 hb1.2).1.symm.trans hk))))))))))) ?_
  refine z_pushJ gp_240_6 ?_
  refine z_callSP (As := [_, _]) (v := 0) gi_240_7 rfl (Nat.le_of_ble_eq_true rfl) (Nat.le_of_ble_eq_true rfl) iu_4_3 ?_
  refine z_if_eqT gi_240_10 zr_0 (by decide) ?_
  refine z_aload0 gi_240_28 ?_
  refine z_getR (r := 81) gi_240_29 gk_50 (hRr _ rm_50_55 (by decide)) ?_
  refine z_iload1 gi_240_32 ?_
  refine z_iald (v := 4) gi_240_33 gk_81 (by decide) (by omega) ((zU_n (by decide)).trans ((zU_n (by decide)).trans ((zU_n (by decide)).trans ((zU_n (by decide)).trans ((zU_n (by decide)).trans ((zU_n (by decide)).trans ((zU_n (by decide)).trans ((zU_n (by decide)).trans ((zU_n (by decide)).trans ((zU_n (by decide)).trans ((a5 _ hb1.1 hb1.2).1.symm.trans hk))))))))))) ?_
  refine z_pushJ gp_240_34 ?_
  refine z_icmp_neT gi_240_36 zr_4 zr_7 (by decide) ?_
  refine z_aload0 gi_240_61 ?_
  refine z_getR (r := 81) gi_240_62 gk_50 (hRr _ rm_50_55 (by decide)) ?_
  refine z_iload1 gi_240_65 ?_
  refine z_iald (v := 4) gi_240_66 gk_81 (by decide) (by omega) ((zU_n (by decide)).trans ((zU_n (by decide)).trans ((zU_n (by decide)).trans ((zU_n (by decide)).trans ((zU_n (by decide)).trans ((zU_n (by decide)).trans ((zU_n (by decide)).trans ((zU_n (by decide)).trans ((zU_n (by decide)).trans ((zU_n (by decide)).trans ((a5 _ hb1.1 hb1.2).1.symm.trans hk))))))))))) ?_
  refine z_pushJ gp_240_67 ?_
  refine z_icmp_neT gi_240_68 zr_4 zr_2 (by decide) ?_
  refine z_aload0 gi_240_80 ?_
  refine z_iload1 gi_240_81 ?_
  refine z_iload2 gi_240_82 ?_
  refine z_cV2 gi_240_83 gk_50 go_238 (Nat.le_of_ble_eq_true rfl) gc_238_RII ?_
  refine z_aload0 gi_238_0 ?_
  refine z_pushJ gp_238_1 ?_
  refine z_callVx (As := [_]) gi_238_3 rfl rfl (Nat.le_of_ble_eq_true rfl) (Nat.le_of_ble_eq_true rfl) (rn_k (n := 0) (m := 1) hRr (zU_e) (by decide) (by decide)) ?_
  show zW _ _ _ _ _ _ _ _ _ _
  refine z_aload0 gi_238_6 ?_
  refine z_iload1 gi_238_7 ?_
  refine z_iload2 gi_238_8 ?_
  refine z_cV2 gi_238_9 gk_50 go_237 (Nat.le_of_ble_eq_true rfl) gc_237_RII ?_
  refine z_aload0 gi_237_0 ?_
  refine z_getR (r := 81) gi_237_1 gk_50 (hRr _ rm_50_55 (by decide)) ?_
  refine z_iload1 gi_237_4 ?_
  refine z_iald (v := 4) gi_237_5 gk_81 (by decide) (by omega) ((zU_n (by decide)).trans ((zU_n (by decide)).trans ((zU_n (by decide)).trans ((zU_n (by decide)).trans ((zU_n (by decide)).trans ((zU_n (by decide)).trans ((zU_n (by decide)).trans ((zU_n (by decide)).trans ((zU_n (by decide)).trans ((zU_n (by decide)).trans ((zU_n (by decide)).trans ((zU_n (by decide)).trans ((a5 _ hb1.1 hb1.2).1.symm.trans hk))))))))))))) ?_
  refine z_pushJ gp_237_6 ?_
  refine z_callSP (As := [_, _]) (v := 1) gi_237_7 rfl (Nat.le_of_ble_eq_true rfl) (Nat.le_of_ble_eq_true rfl) iu_4_1 ?_
  refine z_if_eqF gi_237_10 zr_1 (by decide) ?_
  refine z_aload0 gi_237_13 ?_
  refine z_pushJ gp_237_14 ?_
  refine z_callVx (As := [_]) gi_237_16 rfl rfl (Nat.le_of_ble_eq_true rfl) (Nat.le_of_ble_eq_true rfl) (rn_k (n := 1) (m := 2) hRr (zU_e) (by decide) (by decide)) ?_
  show zW _ _ _ _ _ _ _ _ _ _
  refine z_aload0 gi_237_19 ?_
  refine z_iload1 gi_237_20 ?_
  refine z_iload2 gi_237_21 ?_
  refine z_cV2 gi_237_22 gk_50 go_235 (Nat.le_of_ble_eq_true rfl) gc_235_RII ?_
  refine z_aload0 gi_235_0 ?_
  refine z_pushJ gp_235_1 ?_
  refine z_callVx (As := [_]) gi_235_2 rfl rfl (Nat.le_of_ble_eq_true rfl) (Nat.le_of_ble_eq_true rfl) (rn_k (n := 2) (m := 3) hRr (zU_e) (by decide) (by decide)) ?_
  show zW _ _ _ _ _ _ _ _ _ _
  refine z_iload2 gi_235_5 ?_
  refine z_iload1 gi_235_6 ?_
  refine z_iadd (e := x + b) gi_235_7 rfl ?_
  refine z_iret gi_235_8 gr_235 ?_
  show zW _ _ _ _ _ _ _ _ _ _
  refine z_pushJ gp_237_25 ?_
  refine z_iadd (e := x + b + 3) gi_237_26 rfl ?_
  refine z_iret gi_237_27 gr_237 ?_
  show zW _ _ _ _ _ _ _ _ _ _
  refine z_pushJ gp_238_12 ?_
  refine z_imul (e := (x + b + 3) * 2) gi_238_13 rfl ?_
  refine z_iret gi_238_14 gr_238 ?_
  show zW _ _ _ _ _ _ _ _ _ _
  refine z_iret gi_240_86 gr_240 ?_
  show zW _ _ _ _ _ _ _ _ _ _
  refine z_goto gi_246_48 ?_
  refine z_iret gi_246_71 gr_246 ?_
  refine ⟨?_, ?_⟩
  · rfl
  · have hk := (zK_x (a := 50) (x := 56) (v := 3) (zK_x (a := 82) (x := 2) (v := 1) (zK_x (a := 50) (x := 56) (v := 2) (zK_x (a := 82) (x := 1) (v := 20) (zK_x (a := 50) (x := 56) (v := 1) (zK_x (a := 82) (x := 0) (v := 10) (zK_x (a := 50) (x := 56) (v := 0) (zK_x (a := 34) (x := 3) (v := 3) (zK_x (a := 36) (x := 2) (v := 1) (zK_x (a := 34) (x := 3) (v := 2) (zK_x (a := 36) (x := 1) (v := 20) (zK_x (a := 34) (x := 3) (v := 1) (zK_x (a := 36) (x := 0) (v := 10) (zK_x (a := 34) (x := 5) (v := 4) (zK_x (a := 34) (x := 4) (v := b) (zK_x (a := 34) (x := 3) (v := 0) (zK_r (k := (kL [] [(34, 3), (34, 4), (34, 5), (36, 0), (36, 1), (36, 2), (50, 56), (82, 0), (82, 1), (82, 2)])) (A := J)) rfl) rfl) rfl) rfl) rfl) rfl) rfl) rfl) rfl) rfl) rfl) rfl) rfl) rfl) rfl) rfl)
    exact ⟨hR, hG, RelY_k hk (by repeat' constructor) (fun p => by repeat' constructor) hY, RelD_k hk (by repeat' constructor) (fun p => by repeat' constructor) hD, RelP_k hk (by repeat' constructor) (fun p => by repeat' constructor) hP, RelC_k hk (by repeat' constructor) (fun p => by repeat' constructor) hC, ⟨(show J 34 1 = J 50 54 from a1), (show 0 ≤ J 34 1 ∧ J 34 1 ≤ 50 from a2), rfl, (show (0 : Int) ≤ 3 ∧ (3 : Int) ≤ 1000 from by decide), (fun i i1 i2 => a5 i i1 i2), (fun i i1 i2 _ => by have i3 : i < 3 := i2; have q : i = 0 ∨ i = 1 ∨ i = 2 := (by omega); rcases q with rfl | rfl | rfl <;> rfl)⟩, RelS_k hk (zK_r (k := kM)) (fun x j a b => ⟨kL_38 (by decide) (by decide) x j a b, kM_38 x j a b⟩) (fun p => ⟨rfl, rfl, rfl⟩) rfl hS, RelT_k hk (by repeat' constructor) (fun p => by repeat' constructor) hTp, RelX_k hk (by repeat' constructor) (fun p => by repeat' constructor) hX, RelW_k hk ⟨rfl, rfl⟩ trivial hW⟩
theorem st_act_42 {X : Nat × (Nat → Int32)} {d : Nat} {J M : zA} {R : zR} {b x : Int} (hr : Rel X J M R) (hb : -2147483648 ≤ b ∧ b < 2147483648) (hx : -2147483648 ≤ x ∧ x < 2147483648) (hb1 : 0 ≤ b ∧ b < J 34 1) (hk : J 35 b = 4) : zW X (d + 20) 134 0 (gEn 134 [(.ref 0), (zi b), (zi 2), (zi x)]) [] J M R (stP X (d + 20) 246 [(zi b), (zi 2), (zi x)]) := by
  have hr0 := hr
  obtain ⟨hR, hG, hY, hD, hP, hC, hAc, hS, hTp, hX, hW⟩ := hr0
  have hRr : zRoR R := zRoR_of hR
  have hA0 := hAc
  obtain ⟨a1, a2, a3, a4, a5, a6⟩ := hA0
  show zW _ _ _ _ [some (.ref 0), some (zi b), some (zi 2), some (zi x)] _ _ _ _ _
  refine z_aload0 gi_134_0 ?_
  refine z_getR (r := 34) gi_134_1 gk_0 (hR _ rm_0_10) ?_
  refine z_iload1 gi_134_4 ?_
  refine z_iload2 gi_134_5 ?_
  refine z_iload3 gi_134_6 ?_
  refine z_cV3 gi_134_7 gk_34 go_7 (Nat.le_of_ble_eq_true rfl) gc_7_RIII ?_
  refine z_aload0 gi_7_0 ?_
  refine z_pushJ gp_7_1 ?_
  refine z_putI (y := 3) gi_7_2 rfl gk_34 ?_
  refine z_aload0 gi_7_5 ?_
  refine z_iload1 gi_7_6 ?_
  refine z_cV1 gi_7_7 gk_34 go_3 (Nat.le_of_ble_eq_true rfl) gc_3_RI ?_
  refine z_iload1 gi_3_0 ?_
  refine z_if_ltF gi_3_1 (by omega) (by omega) ?_
  refine z_iload1 gi_3_4 ?_
  refine z_aload0 gi_3_5 ?_
  refine z_getI (v := J 34 1) gi_3_6 gk_34 ((zU_x (by decide)).trans (rfl)) ?_
  refine z_icmp_geF gi_3_9 (by omega) (by omega) (by omega) ?_
  refine z_pushJ gp_3_12 ?_
  refine z_goto gi_3_13 ?_
  refine z_bret1 gi_3_17 gr_3 ?_
  show zW _ _ _ _ _ _ _ _ _ _
  refine z_if_eqF gi_7_10 zr_1 (by decide) ?_
  refine z_iload2 gi_7_13 ?_
  refine z_if_ltF gi_7_14 zr_2 (by decide) ?_
  refine z_iload2 gi_7_17 ?_
  refine z_pushJ gp_7_18 ?_
  refine z_icmp_ltT gi_7_19 zr_2 zr_4 (by decide) ?_
  refine z_aload0 gi_7_24 ?_
  refine z_iload1 gi_7_25 ?_
  refine z_putI (y := 4) gi_7_26 rfl gk_34 ?_
  refine z_aload0 gi_7_29 ?_
  refine z_aload0 gi_7_30 ?_
  refine z_getR (r := 35) gi_7_31 gk_34 (hR _ rm_34_0) ?_
  refine z_iload1 gi_7_34 ?_
  refine z_iald (v := 4) gi_7_35 gk_35 (by decide) (by omega) ((zU_n (by decide)).trans ((zU_n (by decide)).trans (hk))) ?_
  refine z_putI (y := 5) gi_7_36 rfl gk_34 ?_
  refine z_aload0 gi_7_39 ?_
  refine z_iload2 gi_7_40 ?_
  refine z_iload3 gi_7_41 ?_
  refine z_pushJ gp_7_42 ?_
  refine z_cV3 gi_7_43 gk_34 go_8 (Nat.le_of_ble_eq_true rfl) gc_8_RIII ?_
  refine z_aload0 gi_8_0 ?_
  refine z_aload0 gi_8_1 ?_
  refine z_getI (v := 4) gi_8_2 gk_34 (zU_e) ?_
  refine z_iload1 gi_8_5 ?_
  refine z_iload2 gi_8_6 ?_
  refine z_iload3 gi_8_7 ?_
  refine z_callVi (As := [_, _, _, _]) (le := [some _, some _, some _, some _, some _, none, none]) gi_8_8 rfl gk_34 (Nat.le_of_ble_eq_true rfl) (Nat.le_of_ble_eq_true rfl) rfl ?_
  refine ah_4_2 (by decide) ?_
  refine z_aload0 gi_9_77 ?_
  refine z_iload6 gi_9_78 ?_
  refine z_callVx (As := [_]) gi_9_80 rfl rfl (Nat.le_of_ble_eq_true rfl) (Nat.le_of_ble_eq_true rfl) (bg_k (n := 0) (m := 1) hR ((zU_x (by decide)).trans ((zU_x (by decide)).trans (zU_e))) (by decide) (by decide)) ?_
  show zW _ _ _ _ _ _ _ _ _ _
  refine z_iload5 gi_9_83 ?_
  refine z_if_neF gi_9_85 zr_0 (by decide) ?_
  refine z_aload0 gi_9_88 ?_
  refine z_iload6 gi_9_89 ?_
  refine z_iload3 gi_9_91 ?_
  refine z_iload4 gi_9_92 ?_
  refine z_pushJ gp_9_94 ?_
  refine z_iadd (e := 1) gi_9_95 rfl ?_
  refine z_callVi (As := [_, _, _]) (le := [some _, some _, some _, some _, none]) gi_9_96 rfl gk_34 (Nat.le_of_ble_eq_true rfl) (Nat.le_of_ble_eq_true rfl) rfl ?_
  refine z_iload1 gi_11_0 ?_
  refine z_swI (tg := 81) gi_11_1 (by decide) (T := [((1 : Int), 44), ((2 : Int), 51), ((10 : Int), 71), ((11 : Int), 81)]) rfl (by decide) ?_
  refine z_iload2 gi_11_81 ?_
  refine z_aload0 gi_11_82 ?_
  refine z_getI (v := b) gi_11_83 gk_34 ((zU_x (by decide)).trans ((zU_n (by decide)).trans ((zU_x (by decide)).trans (zU_e)))) ?_
  refine z_ixor (e := zxor x b) gi_11_86 rfl ?_
  refine z_iret gi_11_87 gr_11 ?_
  show zW _ _ _ _ _ _ _ _ _ _
  refine z_iret gi_9_99 gr_9 ?_
  show zW _ _ _ _ _ _ _ _ _ _
  refine z_iret gi_8_11 gr_8 ?_
  show zW _ _ _ _ _ _ _ _ _ _
  refine z_iret gi_7_46 gr_7 ?_
  show zW _ _ _ _ _ _ _ _ _ _
  refine z_iret gi_134_10 gr_134 ?_
  refine ⟨_, rfl, ?_⟩
  show zW _ _ _ _ [some (.ref 50), some (zi b), some (zi 2), some (zi x)] _ _ _ _ _
  refine z_aload0 gi_246_0 ?_
  refine z_pushJ gp_246_1 ?_
  refine z_putI (y := 56) gi_246_2 rfl gk_50 ?_
  refine z_aload0 gi_246_5 ?_
  refine z_iload1 gi_246_6 ?_
  refine z_cV1 gi_246_7 gk_50 go_230 (Nat.le_of_ble_eq_true rfl) gc_230_RI ?_
  refine z_iload1 gi_230_0 ?_
  refine z_pushJ gp_230_1 ?_
  refine z_aload0 gi_230_2 ?_
  refine z_getI (v := J 34 1) gi_230_3 gk_50 ((zU_x (by decide)).trans ((zU_n (by decide)).trans ((zU_n (by decide)).trans ((zU_n (by decide)).trans ((zU_n (by decide)).trans ((zU_n (by decide)).trans (a1.symm))))))) ?_
  refine z_pushJ gp_230_6 ?_
  refine z_isub (e := (J 34 1) - 1) gi_230_7 rfl ?_
  refine z_cS3 gi_230_8 (Nat.le_of_ble_eq_true rfl) gc_148_III ?_
  refine z_iload0 gi_148_0 ?_
  refine z_iload1 gi_148_1 ?_
  refine z_icmp_ltF gi_148_2 (by omega) zr_0 (by omega) ?_
  refine z_iload0 gi_148_5 ?_
  refine z_iload2 gi_148_6 ?_
  refine z_icmp_gtF gi_148_7 (by omega) (by omega) (by omega) ?_
  refine z_pushJ gp_148_10 ?_
  refine z_goto gi_148_11 ?_
  refine z_bret1 gi_148_15 gr_148 ?_
  show zW _ _ _ _ _ _ _ _ _ _
  refine z_bret1 gi_230_11 gr_230 ?_
  show zW _ _ _ _ _ _ _ _ _ _
  refine z_if_eqF gi_246_10 zr_1 (by decide) ?_
  refine z_iload2 gi_246_13 ?_
  refine z_pushJ gp_246_14 ?_
  refine z_pushJ gp_246_15 ?_
  refine z_cS3 gi_246_16 (Nat.le_of_ble_eq_true rfl) gc_148_III ?_
  refine z_iload0 gi_148_0 ?_
  refine z_iload1 gi_148_1 ?_
  refine z_icmp_ltF gi_148_2 zr_2 zr_0 (by decide) ?_
  refine z_iload0 gi_148_5 ?_
  refine z_iload2 gi_148_6 ?_
  refine z_icmp_gtF gi_148_7 zr_2 zr_3 (by decide) ?_
  refine z_pushJ gp_148_10 ?_
  refine z_goto gi_148_11 ?_
  refine z_bret1 gi_148_15 gr_148 ?_
  show zW _ _ _ _ _ _ _ _ _ _
  refine z_if_neT gi_246_19 zr_1 (by decide) ?_
  refine z_iload2 gi_246_24 ?_
  refine z_if_neT gi_246_25 zr_2 (by decide) ?_
  refine z_iload2 gi_246_37 ?_
  refine z_pushJ gp_246_38 ?_
  refine z_icmp_neT gi_246_39 zr_2 zr_1 (by decide) ?_
  refine z_iload2 gi_246_51 ?_
  refine z_pushJ gp_246_52 ?_
  refine z_icmp_neF gi_246_53 zr_2 zr_2 (by decide) ?_
  refine z_aload0 gi_246_56 ?_
  refine z_iload1 gi_246_57 ?_
  refine z_iload3 gi_246_58 ?_
  refine z_callVi (As := [_, _]) (le := [some _, some _, some _, none]) gi_246_59 rfl gk_50 (Nat.le_of_ble_eq_true rfl) (Nat.le_of_ble_eq_true rfl) rfl ?_
  refine z_aload0 gi_243_0 ?_
  refine z_getR (r := 81) gi_243_1 gk_50 (hRr _ rm_50_55 (by decide)) ?_
  refine z_iload1 gi_243_4 ?_
  refine z_iald (v := 4) gi_243_5 gk_81 (by decide) (by omega) ((zU_n (by decide)).trans ((zU_n (by decide)).trans ((zU_n (by decide)).trans ((zU_n (by decide)).trans ((zU_n (by decide)).trans ((zU_n (by decide)).trans ((a5 _ hb1.1 hb1.2).1.symm.trans hk))))))) ?_
  refine z_pushJ gp_243_6 ?_
  refine z_icmp_neT gi_243_7 zr_4 zr_5 (by decide) ?_
  refine z_aload0 gi_243_32 ?_
  refine z_getR (r := 81) gi_243_33 gk_50 (hRr _ rm_50_55 (by decide)) ?_
  refine z_iload1 gi_243_36 ?_
  refine z_iald (v := 4) gi_243_37 gk_81 (by decide) (by omega) ((zU_n (by decide)).trans ((zU_n (by decide)).trans ((zU_n (by decide)).trans ((zU_n (by decide)).trans ((zU_n (by decide)).trans ((zU_n (by decide)).trans ((a5 _ hb1.1 hb1.2).1.symm.trans hk))))))) ?_
  refine z_pushJ gp_243_38 ?_
  refine z_icmp_neT gi_243_39 zr_4 zr_3 (by decide) ?_
  refine z_aload0 gi_243_51 ?_
  refine z_iload1 gi_243_52 ?_
  refine z_iload2 gi_243_53 ?_
  refine z_cV2 gi_243_54 gk_50 go_241 (Nat.le_of_ble_eq_true rfl) gc_241_RII ?_
  refine z_aload0 gi_241_0 ?_
  refine z_pushJ gp_241_1 ?_
  refine z_callVx (As := [_]) gi_241_3 rfl rfl (Nat.le_of_ble_eq_true rfl) (Nat.le_of_ble_eq_true rfl) (rn_k (n := 0) (m := 1) hRr (zU_e) (by decide) (by decide)) ?_
  show zW _ _ _ _ _ _ _ _ _ _
  refine z_iload2 gi_241_6 ?_
  refine z_iload1 gi_241_7 ?_
  refine z_ixor (e := zxor x b) gi_241_8 rfl ?_
  refine z_iret gi_241_9 gr_241 ?_
  show zW _ _ _ _ _ _ _ _ _ _
  refine z_iret gi_243_57 gr_243 ?_
  show zW _ _ _ _ _ _ _ _ _ _
  refine z_goto gi_246_62 ?_
  refine z_iret gi_246_71 gr_246 ?_
  refine ⟨?_, ?_⟩
  · rfl
  · have hk := (zK_x (a := 50) (x := 56) (v := 1) (zK_x (a := 82) (x := 0) (v := 11) (zK_x (a := 50) (x := 56) (v := 0) (zK_x (a := 34) (x := 3) (v := 1) (zK_x (a := 36) (x := 0) (v := 11) (zK_x (a := 34) (x := 5) (v := 4) (zK_x (a := 34) (x := 4) (v := b) (zK_x (a := 34) (x := 3) (v := 0) (zK_r (k := (kL [] [(34, 3), (34, 4), (34, 5), (36, 0), (50, 56), (82, 0)])) (A := J)) rfl) rfl) rfl) rfl) rfl) rfl) rfl) rfl)
    exact ⟨hR, hG, RelY_k hk (by repeat' constructor) (fun p => by repeat' constructor) hY, RelD_k hk (by repeat' constructor) (fun p => by repeat' constructor) hD, RelP_k hk (by repeat' constructor) (fun p => by repeat' constructor) hP, RelC_k hk (by repeat' constructor) (fun p => by repeat' constructor) hC, ⟨(show J 34 1 = J 50 54 from a1), (show 0 ≤ J 34 1 ∧ J 34 1 ≤ 50 from a2), rfl, (show (0 : Int) ≤ 1 ∧ (1 : Int) ≤ 1000 from by decide), (fun i i1 i2 => a5 i i1 i2), (fun i i1 i2 _ => by have i3 : i < 1 := i2; have q : i = 0 := (by omega); subst q; rfl)⟩, RelS_k hk (zK_r (k := kM)) (fun x j a b => ⟨kL_38 (by decide) (by decide) x j a b, kM_38 x j a b⟩) (fun p => ⟨rfl, rfl, rfl⟩) rfl hS, RelT_k hk (by repeat' constructor) (fun p => by repeat' constructor) hTp, RelX_k hk (by repeat' constructor) (fun p => by repeat' constructor) hX, RelW_k hk ⟨rfl, rfl⟩ trivial hW⟩
theorem st_act_43 {X : Nat × (Nat → Int32)} {d : Nat} {J M : zA} {R : zR} {b x : Int} (hr : Rel X J M R) (hb : -2147483648 ≤ b ∧ b < 2147483648) (hx : -2147483648 ≤ x ∧ x < 2147483648) (hb1 : 0 ≤ b ∧ b < J 34 1) (hk : J 35 b = 4) : zW X (d + 20) 134 0 (gEn 134 [(.ref 0), (zi b), (zi 3), (zi x)]) [] J M R (stP X (d + 20) 246 [(zi b), (zi 3), (zi x)]) := by
  have hr0 := hr
  obtain ⟨hR, hG, hY, hD, hP, hC, hAc, hS, hTp, hX, hW⟩ := hr0
  have hRr : zRoR R := zRoR_of hR
  have hA0 := hAc
  obtain ⟨a1, a2, a3, a4, a5, a6⟩ := hA0
  show zW _ _ _ _ [some (.ref 0), some (zi b), some (zi 3), some (zi x)] _ _ _ _ _
  refine z_aload0 gi_134_0 ?_
  refine z_getR (r := 34) gi_134_1 gk_0 (hR _ rm_0_10) ?_
  refine z_iload1 gi_134_4 ?_
  refine z_iload2 gi_134_5 ?_
  refine z_iload3 gi_134_6 ?_
  refine z_cV3 gi_134_7 gk_34 go_7 (Nat.le_of_ble_eq_true rfl) gc_7_RIII ?_
  refine z_aload0 gi_7_0 ?_
  refine z_pushJ gp_7_1 ?_
  refine z_putI (y := 3) gi_7_2 rfl gk_34 ?_
  refine z_aload0 gi_7_5 ?_
  refine z_iload1 gi_7_6 ?_
  refine z_cV1 gi_7_7 gk_34 go_3 (Nat.le_of_ble_eq_true rfl) gc_3_RI ?_
  refine z_iload1 gi_3_0 ?_
  refine z_if_ltF gi_3_1 (by omega) (by omega) ?_
  refine z_iload1 gi_3_4 ?_
  refine z_aload0 gi_3_5 ?_
  refine z_getI (v := J 34 1) gi_3_6 gk_34 ((zU_x (by decide)).trans (rfl)) ?_
  refine z_icmp_geF gi_3_9 (by omega) (by omega) (by omega) ?_
  refine z_pushJ gp_3_12 ?_
  refine z_goto gi_3_13 ?_
  refine z_bret1 gi_3_17 gr_3 ?_
  show zW _ _ _ _ _ _ _ _ _ _
  refine z_if_eqF gi_7_10 zr_1 (by decide) ?_
  refine z_iload2 gi_7_13 ?_
  refine z_if_ltF gi_7_14 zr_3 (by decide) ?_
  refine z_iload2 gi_7_17 ?_
  refine z_pushJ gp_7_18 ?_
  refine z_icmp_ltT gi_7_19 zr_3 zr_4 (by decide) ?_
  refine z_aload0 gi_7_24 ?_
  refine z_iload1 gi_7_25 ?_
  refine z_putI (y := 4) gi_7_26 rfl gk_34 ?_
  refine z_aload0 gi_7_29 ?_
  refine z_aload0 gi_7_30 ?_
  refine z_getR (r := 35) gi_7_31 gk_34 (hR _ rm_34_0) ?_
  refine z_iload1 gi_7_34 ?_
  refine z_iald (v := 4) gi_7_35 gk_35 (by decide) (by omega) ((zU_n (by decide)).trans ((zU_n (by decide)).trans (hk))) ?_
  refine z_putI (y := 5) gi_7_36 rfl gk_34 ?_
  refine z_aload0 gi_7_39 ?_
  refine z_iload2 gi_7_40 ?_
  refine z_iload3 gi_7_41 ?_
  refine z_pushJ gp_7_42 ?_
  refine z_cV3 gi_7_43 gk_34 go_8 (Nat.le_of_ble_eq_true rfl) gc_8_RIII ?_
  refine z_aload0 gi_8_0 ?_
  refine z_aload0 gi_8_1 ?_
  refine z_getI (v := 4) gi_8_2 gk_34 (zU_e) ?_
  refine z_iload1 gi_8_5 ?_
  refine z_iload2 gi_8_6 ?_
  refine z_iload3 gi_8_7 ?_
  refine z_callVi (As := [_, _, _, _]) (le := [some _, some _, some _, some _, some _, none, none]) gi_8_8 rfl gk_34 (Nat.le_of_ble_eq_true rfl) (Nat.le_of_ble_eq_true rfl) rfl ?_
  refine ah_4_3 (by decide) ?_
  refine z_aload0 gi_9_77 ?_
  refine z_iload6 gi_9_78 ?_
  refine z_callVx (As := [_]) gi_9_80 rfl rfl (Nat.le_of_ble_eq_true rfl) (Nat.le_of_ble_eq_true rfl) (bg_k (n := 0) (m := 1) hR ((zU_x (by decide)).trans ((zU_x (by decide)).trans (zU_e))) (by decide) (by decide)) ?_
  show zW _ _ _ _ _ _ _ _ _ _
  refine z_iload5 gi_9_83 ?_
  refine z_if_neT gi_9_85 zr_4 (by decide) ?_
  refine z_aload0 gi_9_100 ?_
  refine z_iload6 gi_9_101 ?_
  refine z_getS gi_9_103 ?_
  refine z_iload5 gi_9_106 ?_
  refine z_sald (j := 4) (n := 8) (v := 1) gi_9_108 (by decide) rfl (by decide) (by decide) rfl ?_
  refine z_iload3 gi_9_109 ?_
  refine z_iload4 gi_9_110 ?_
  refine z_pushJ gp_9_112 ?_
  refine z_iadd (e := 1) gi_9_113 rfl ?_
  refine z_callVi (As := [_, _, _, _]) (le := [some _, some _, some _, some _, some _, none, none]) gi_9_114 rfl gk_34 (Nat.le_of_ble_eq_true rfl) (Nat.le_of_ble_eq_true rfl) rfl ?_
  refine z_iload1 gi_12_0 ?_
  refine z_swI (tg := 139) gi_12_1 (by decide) (T := [((20 : Int), 92), ((30 : Int), 104), ((40 : Int), 115), ((41 : Int), 127), ((50 : Int), 139), ((60 : Int), 151), ((61 : Int), 174), ((70 : Int), 186), ((80 : Int), 198), ((81 : Int), 221)]) rfl (by decide) ?_
  refine z_aload0 rfl ?_
  refine z_iload2 rfl ?_
  refine z_pushJ gp_12_141 ?_
  refine z_iload3 rfl ?_
  refine z_iload4 rfl ?_
  refine z_callVi (As := [_, _, _, _]) (le := [some _, some _, some _, some _, some _, none, none]) rfl rfl gk_34 (Nat.le_of_ble_eq_true rfl) (Nat.le_of_ble_eq_true rfl) rfl ?_
  refine ah_1_3 (by decide) ?_
  refine z_aload0 gi_9_77 ?_
  refine z_iload6 gi_9_78 ?_
  refine z_callVx (As := [_]) gi_9_80 rfl rfl (Nat.le_of_ble_eq_true rfl) (Nat.le_of_ble_eq_true rfl) (bg_k (n := 1) (m := 2) hR (zU_e) (by decide) (by decide)) ?_
  show zW _ _ _ _ _ _ _ _ _ _
  refine z_iload5 gi_9_83 ?_
  refine z_if_neF gi_9_85 zr_0 (by decide) ?_
  refine z_aload0 gi_9_88 ?_
  refine z_iload6 gi_9_89 ?_
  refine z_iload3 gi_9_91 ?_
  refine z_iload4 gi_9_92 ?_
  refine z_pushJ gp_9_94 ?_
  refine z_iadd (e := 2) gi_9_95 rfl ?_
  refine z_callVi (As := [_, _, _]) (le := [some _, some _, some _, some _, none]) gi_9_96 rfl gk_34 (Nat.le_of_ble_eq_true rfl) (Nat.le_of_ble_eq_true rfl) rfl ?_
  refine z_iload1 gi_11_0 ?_
  refine z_swI (tg := 51) gi_11_1 (by decide) (T := [((1 : Int), 44), ((2 : Int), 51), ((10 : Int), 71), ((11 : Int), 81)]) rfl (by decide) ?_
  refine z_aload0 gi_11_51 ?_
  refine z_pushJ gp_11_52 ?_
  refine z_iload2 gi_11_53 ?_
  refine z_iload3 gi_11_54 ?_
  refine z_cV3 gi_11_55 gk_34 go_8 (Nat.le_of_ble_eq_true rfl) gc_8_RIII ?_
  refine z_aload0 gi_8_0 ?_
  refine z_aload0 gi_8_1 ?_
  refine z_getI (v := 4) gi_8_2 gk_34 ((zU_x (by decide)).trans ((zU_n (by decide)).trans ((zU_x (by decide)).trans ((zU_n (by decide)).trans (zU_e))))) ?_
  refine z_iload1 gi_8_5 ?_
  refine z_iload2 gi_8_6 ?_
  refine z_iload3 gi_8_7 ?_
  refine z_callVi (As := [_, _, _, _]) (le := [some _, some _, some _, some _, some _, none, none]) gi_8_8 rfl gk_34 (Nat.le_of_ble_eq_true rfl) (Nat.le_of_ble_eq_true rfl) rfl ?_
  refine ah_4_1 (by decide) ?_
  refine z_aload0 gi_9_77 ?_
  refine z_iload6 gi_9_78 ?_
  refine z_callVx (As := [_]) gi_9_80 rfl rfl (Nat.le_of_ble_eq_true rfl) (Nat.le_of_ble_eq_true rfl) (bg_k (n := 2) (m := 3) hR (zU_e) (by decide) (by decide)) ?_
  show zW _ _ _ _ _ _ _ _ _ _
  refine z_iload5 gi_9_83 ?_
  refine z_if_neF gi_9_85 zr_0 (by decide) ?_
  refine z_aload0 gi_9_88 ?_
  refine z_iload6 gi_9_89 ?_
  refine z_iload3 gi_9_91 ?_
  refine z_iload4 gi_9_92 ?_
  refine z_pushJ gp_9_94 ?_
  refine z_iadd (e := 3) gi_9_95 rfl ?_
  refine z_callVi (As := [_, _, _]) (le := [some _, some _, some _, some _, none]) gi_9_96 rfl gk_34 (Nat.le_of_ble_eq_true rfl) (Nat.le_of_ble_eq_true rfl) rfl ?_
  refine z_iload1 gi_11_0 ?_
  refine z_swI (tg := 71) gi_11_1 (by decide) (T := [((1 : Int), 44), ((2 : Int), 51), ((10 : Int), 71), ((11 : Int), 81)]) rfl (by decide) ?_
  refine z_aload0 gi_11_71 ?_
  refine z_pushJ gp_11_72 ?_
  refine z_iload2 gi_11_73 ?_
  refine z_iload3 gi_11_74 ?_
  refine z_cV3 gi_11_75 gk_34 go_8 (Nat.le_of_ble_eq_true rfl) gc_8_RIII ?_
  refine z_aload0 gi_8_0 ?_
  refine z_aload0 gi_8_1 ?_
  refine z_getI (v := 4) gi_8_2 gk_34 ((zU_x (by decide)).trans ((zU_n (by decide)).trans ((zU_x (by decide)).trans ((zU_n (by decide)).trans ((zU_x (by decide)).trans ((zU_n (by decide)).trans (zU_e))))))) ?_
  refine z_iload1 gi_8_5 ?_
  refine z_iload2 gi_8_6 ?_
  refine z_iload3 gi_8_7 ?_
  refine z_callVi (As := [_, _, _, _]) (le := [some _, some _, some _, some _, some _, none, none]) gi_8_8 rfl gk_34 (Nat.le_of_ble_eq_true rfl) (Nat.le_of_ble_eq_true rfl) rfl ?_
  refine ah_4_0 (by decide) ?_
  refine z_aload0 gi_9_77 ?_
  refine z_iload6 gi_9_78 ?_
  refine z_callVx (As := [_]) gi_9_80 rfl rfl (Nat.le_of_ble_eq_true rfl) (Nat.le_of_ble_eq_true rfl) (bg_k (n := 3) (m := 4) hR (zU_e) (by decide) (by decide)) ?_
  show zW _ _ _ _ _ _ _ _ _ _
  refine z_iload5 gi_9_83 ?_
  refine z_if_neT gi_9_85 zr_1 (by decide) ?_
  refine z_aload0 gi_9_100 ?_
  refine z_iload6 gi_9_101 ?_
  refine z_getS gi_9_103 ?_
  refine z_iload5 gi_9_106 ?_
  refine z_sald (j := 4) (n := 8) (v := 0) gi_9_108 (by decide) rfl (by decide) (by decide) rfl ?_
  refine z_iload3 gi_9_109 ?_
  refine z_iload4 gi_9_110 ?_
  refine z_pushJ gp_9_112 ?_
  refine z_iadd (e := 4) gi_9_113 rfl ?_
  refine z_callVi (As := [_, _, _, _]) (le := [some _, some _, some _, some _, some _, none, none]) gi_9_114 rfl gk_34 (Nat.le_of_ble_eq_true rfl) (Nat.le_of_ble_eq_true rfl) rfl ?_
  refine z_iload1 gi_12_0 ?_
  refine z_swI (tg := 92) gi_12_1 (by decide) (T := [((20 : Int), 92), ((30 : Int), 104), ((40 : Int), 115), ((41 : Int), 127), ((50 : Int), 139), ((60 : Int), 151), ((61 : Int), 174), ((70 : Int), 186), ((80 : Int), 198), ((81 : Int), 221)]) rfl (by decide) ?_
  refine z_aload0 gi_12_92 ?_
  refine z_iload2 gi_12_93 ?_
  refine z_pushJ gp_12_94 ?_
  refine z_iload3 gi_12_95 ?_
  refine z_iload4 gi_12_96 ?_
  refine z_callVi (As := [_, _, _, _]) (le := [some _, some _, some _, some _, some _, none, none]) gi_12_98 rfl gk_34 (Nat.le_of_ble_eq_true rfl) (Nat.le_of_ble_eq_true rfl) rfl ?_
  refine ah_0_0 (by decide) ?_
  refine z_aload0 gi_9_77 ?_
  refine z_iload6 gi_9_78 ?_
  refine z_callVx (As := [_]) gi_9_80 rfl rfl (Nat.le_of_ble_eq_true rfl) (Nat.le_of_ble_eq_true rfl) (bg_k (n := 4) (m := 5) hR (zU_e) (by decide) (by decide)) ?_
  show zW _ _ _ _ _ _ _ _ _ _
  refine z_iload5 gi_9_83 ?_
  refine z_if_neF gi_9_85 zr_0 (by decide) ?_
  refine z_aload0 gi_9_88 ?_
  refine z_iload6 gi_9_89 ?_
  refine z_iload3 gi_9_91 ?_
  refine z_iload4 gi_9_92 ?_
  refine z_pushJ gp_9_94 ?_
  refine z_iadd (e := 5) gi_9_95 rfl ?_
  refine z_callVi (As := [_, _, _]) (le := [some _, some _, some _, some _, none]) gi_9_96 rfl gk_34 (Nat.le_of_ble_eq_true rfl) (Nat.le_of_ble_eq_true rfl) rfl ?_
  refine z_iload1 gi_11_0 ?_
  refine z_swI (tg := 44) gi_11_1 (by decide) (T := [((1 : Int), 44), ((2 : Int), 51), ((10 : Int), 71), ((11 : Int), 81)]) rfl (by decide) ?_
  refine z_iload2 gi_11_44 ?_
  refine z_aload0 gi_11_45 ?_
  refine z_getI (v := b) gi_11_46 gk_34 ((zU_x (by decide)).trans ((zU_n (by decide)).trans ((zU_x (by decide)).trans ((zU_n (by decide)).trans ((zU_x (by decide)).trans ((zU_n (by decide)).trans ((zU_x (by decide)).trans ((zU_n (by decide)).trans ((zU_x (by decide)).trans ((zU_n (by decide)).trans ((zU_x (by decide)).trans (zU_e)))))))))))) ?_
  refine z_iadd (e := x + b) gi_11_49 rfl ?_
  refine z_iret gi_11_50 gr_11 ?_
  show zW _ _ _ _ _ _ _ _ _ _
  refine z_iret gi_9_99 gr_9 ?_
  show zW _ _ _ _ _ _ _ _ _ _
  refine z_pushJ gp_12_101 ?_
  refine z_iadd (e := x + b + 3) gi_12_102 rfl ?_
  refine z_iret gi_12_103 gr_12 ?_
  show zW _ _ _ _ _ _ _ _ _ _
  refine z_iret gi_9_117 gr_9 ?_
  show zW _ _ _ _ _ _ _ _ _ _
  refine z_iret gi_8_11 gr_8 ?_
  show zW _ _ _ _ _ _ _ _ _ _
  refine z_pushJ gp_11_78 ?_
  refine z_imul (e := (x + b + 3) * 2) gi_11_79 rfl ?_
  refine z_iret gi_11_80 gr_11 ?_
  show zW _ _ _ _ _ _ _ _ _ _
  refine z_iret gi_9_99 gr_9 ?_
  show zW _ _ _ _ _ _ _ _ _ _
  refine z_iret gi_8_11 gr_8 ?_
  show zW _ _ _ _ _ _ _ _ _ _
  refine z_istore (ls1 := [some (.ref 34), some (zi 2), some (zi x), some (zi 2), some (zi ((x + b + 3) * 2))]) gi_11_58 rfl ?_
  refine z_iload4 gi_11_60 ?_
  refine z_aload0 gi_11_62 ?_
  refine z_pushJ gp_11_63 ?_
  refine z_pushJ gp_11_64 ?_
  refine z_iload3 gi_11_65 ?_
  refine z_cV3 gi_11_66 gk_34 go_8 (Nat.le_of_ble_eq_true rfl) gc_8_RIII ?_
  refine z_aload0 gi_8_0 ?_
  refine z_aload0 gi_8_1 ?_
  refine z_getI (v := 4) gi_8_2 gk_34 ((zU_x (by decide)).trans ((zU_n (by decide)).trans ((zU_x (by decide)).trans ((zU_n (by decide)).trans ((zU_x (by decide)).trans ((zU_n (by decide)).trans ((zU_x (by decide)).trans ((zU_n (by decide)).trans ((zU_x (by decide)).trans ((zU_n (by decide)).trans (zU_e))))))))))) ?_
  refine z_iload1 gi_8_5 ?_
  refine z_iload2 gi_8_6 ?_
  refine z_iload3 gi_8_7 ?_
  refine z_callVi (As := [_, _, _, _]) (le := [some _, some _, some _, some _, some _, none, none]) gi_8_8 rfl gk_34 (Nat.le_of_ble_eq_true rfl) (Nat.le_of_ble_eq_true rfl) rfl ?_
  refine ah_4_2 (by decide) ?_
  refine z_aload0 gi_9_77 ?_
  refine z_iload6 gi_9_78 ?_
  refine z_callVx (As := [_]) gi_9_80 rfl rfl (Nat.le_of_ble_eq_true rfl) (Nat.le_of_ble_eq_true rfl) (bg_k (n := 5) (m := 6) hR (zU_e) (by decide) (by decide)) ?_
  show zW _ _ _ _ _ _ _ _ _ _
  refine z_iload5 gi_9_83 ?_
  refine z_if_neF gi_9_85 zr_0 (by decide) ?_
  refine z_aload0 gi_9_88 ?_
  refine z_iload6 gi_9_89 ?_
  refine z_iload3 gi_9_91 ?_
  refine z_iload4 gi_9_92 ?_
  refine z_pushJ gp_9_94 ?_
  refine z_iadd (e := 3) gi_9_95 rfl ?_
  refine z_callVi (As := [_, _, _]) (le := [some _, some _, some _, some _, none]) gi_9_96 rfl gk_34 (Nat.le_of_ble_eq_true rfl) (Nat.le_of_ble_eq_true rfl) rfl ?_
  refine z_iload1 gi_11_0 ?_
  refine z_swI (tg := 81) gi_11_1 (by decide) (T := [((1 : Int), 44), ((2 : Int), 51), ((10 : Int), 71), ((11 : Int), 81)]) rfl (by decide) ?_
  refine z_iload2 gi_11_81 ?_
  refine z_aload0 gi_11_82 ?_
  refine z_getI (v := b) gi_11_83 gk_34 ((zU_x (by decide)).trans ((zU_n (by decide)).trans ((zU_x (by decide)).trans ((zU_n (by decide)).trans ((zU_x (by decide)).trans ((zU_n (by decide)).trans ((zU_x (by decide)).trans ((zU_n (by decide)).trans ((zU_x (by decide)).trans ((zU_n (by decide)).trans ((zU_x (by decide)).trans ((zU_n (by decide)).trans ((zU_x (by decide)).trans (zU_e)))))))))))))) ?_
  refine z_ixor (e := zxor 1 b) gi_11_86 rfl ?_
  refine z_iret gi_11_87 gr_11 ?_
  show zW _ _ _ _ _ _ _ _ _ _
  refine z_iret gi_9_99 gr_9 ?_
  show zW _ _ _ _ _ _ _ _ _ _
  refine z_iret gi_8_11 gr_8 ?_
  show zW _ _ _ _ _ _ _ _ _ _
  refine z_isub (e := (x + b + 3) * 2 - (zxor 1 b)) gi_11_69 rfl ?_
  refine z_iret gi_11_70 gr_11 ?_
  show zW _ _ _ _ _ _ _ _ _ _
  refine z_iret gi_9_99 gr_9 ?_
  show zW _ _ _ _ _ _ _ _ _ _
  refine z_pushJ gp_12_148 ?_
  refine z_ixor (e := zxor ((x + b + 3) * 2 - (zxor 1 b)) 5) rfl rfl ?_
  refine z_iret rfl gr_12 ?_
  show zW _ _ _ _ _ _ _ _ _ _
  refine z_iret gi_9_117 gr_9 ?_
  show zW _ _ _ _ _ _ _ _ _ _
  refine z_iret gi_8_11 gr_8 ?_
  show zW _ _ _ _ _ _ _ _ _ _
  refine z_iret gi_7_46 gr_7 ?_
  show zW _ _ _ _ _ _ _ _ _ _
  refine z_iret gi_134_10 gr_134 ?_
  refine ⟨_, rfl, ?_⟩
  show zW _ _ _ _ [some (.ref 50), some (zi b), some (zi 3), some (zi x)] _ _ _ _ _
  refine z_aload0 gi_246_0 ?_
  refine z_pushJ gp_246_1 ?_
  refine z_putI (y := 56) gi_246_2 rfl gk_50 ?_
  refine z_aload0 gi_246_5 ?_
  refine z_iload1 gi_246_6 ?_
  refine z_cV1 gi_246_7 gk_50 go_230 (Nat.le_of_ble_eq_true rfl) gc_230_RI ?_
  refine z_iload1 gi_230_0 ?_
  refine z_pushJ gp_230_1 ?_
  refine z_aload0 gi_230_2 ?_
  refine z_getI (v := J 34 1) gi_230_3 gk_50 ((zU_x (by decide)).trans ((zU_n (by decide)).trans ((zU_n (by decide)).trans ((zU_n (by decide)).trans ((zU_n (by decide)).trans ((zU_n (by decide)).trans ((zU_n (by decide)).trans ((zU_n (by decide)).trans ((zU_n (by decide)).trans ((zU_n (by decide)).trans ((zU_n (by decide)).trans ((zU_n (by decide)).trans ((zU_n (by decide)).trans ((zU_n (by decide)).trans ((zU_n (by decide)).trans ((zU_n (by decide)).trans (a1.symm))))))))))))))))) ?_
  refine z_pushJ gp_230_6 ?_
  refine z_isub (e := (J 34 1) - 1) gi_230_7 rfl ?_
  refine z_cS3 gi_230_8 (Nat.le_of_ble_eq_true rfl) gc_148_III ?_
  refine z_iload0 gi_148_0 ?_
  refine z_iload1 gi_148_1 ?_
  refine z_icmp_ltF gi_148_2 (by omega) zr_0 (by omega) ?_
  refine z_iload0 gi_148_5 ?_
  refine z_iload2 gi_148_6 ?_
  refine z_icmp_gtF gi_148_7 (by omega) (by omega) (by omega) ?_
  refine z_pushJ gp_148_10 ?_
  refine z_goto gi_148_11 ?_
  refine z_bret1 gi_148_15 gr_148 ?_
  show zW _ _ _ _ _ _ _ _ _ _
  refine z_bret1 gi_230_11 gr_230 ?_
  show zW _ _ _ _ _ _ _ _ _ _
  refine z_if_eqF gi_246_10 zr_1 (by decide) ?_
  refine z_iload2 gi_246_13 ?_
  refine z_pushJ gp_246_14 ?_
  refine z_pushJ gp_246_15 ?_
  refine z_cS3 gi_246_16 (Nat.le_of_ble_eq_true rfl) gc_148_III ?_
  refine z_iload0 gi_148_0 ?_
  refine z_iload1 gi_148_1 ?_
  refine z_icmp_ltF gi_148_2 zr_3 zr_0 (by decide) ?_
  refine z_iload0 gi_148_5 ?_
  refine z_iload2 gi_148_6 ?_
  refine z_icmp_gtF gi_148_7 zr_3 zr_3 (by decide) ?_
  refine z_pushJ gp_148_10 ?_
  refine z_goto gi_148_11 ?_
  refine z_bret1 gi_148_15 gr_148 ?_
  show zW _ _ _ _ _ _ _ _ _ _
  refine z_if_neT gi_246_19 zr_1 (by decide) ?_
  refine z_iload2 gi_246_24 ?_
  refine z_if_neT gi_246_25 zr_3 (by decide) ?_
  refine z_iload2 gi_246_37 ?_
  refine z_pushJ gp_246_38 ?_
  refine z_icmp_neT gi_246_39 zr_3 zr_1 (by decide) ?_
  refine z_iload2 gi_246_51 ?_
  refine z_pushJ gp_246_52 ?_
  refine z_icmp_neT gi_246_53 zr_3 zr_2 (by decide) ?_
  refine z_aload0 gi_246_65 ?_
  refine z_iload1 gi_246_66 ?_
  refine z_iload3 gi_246_67 ?_
  refine z_cV2 gi_246_68 gk_50 go_245 (Nat.le_of_ble_eq_true rfl) gc_245_RII ?_
  refine z_aload0 gi_245_0 ?_
  refine z_getR (r := 81) gi_245_1 gk_50 (hRr _ rm_50_55 (by decide)) ?_
  refine z_iload1 gi_245_4 ?_
  refine z_iald (v := 4) gi_245_5 gk_81 (by decide) (by omega) ((zU_n (by decide)).trans ((zU_n (by decide)).trans ((zU_n (by decide)).trans ((zU_n (by decide)).trans ((zU_n (by decide)).trans ((zU_n (by decide)).trans ((zU_n (by decide)).trans ((zU_n (by decide)).trans ((zU_n (by decide)).trans ((zU_n (by decide)).trans ((zU_n (by decide)).trans ((zU_n (by decide)).trans ((zU_n (by decide)).trans ((zU_n (by decide)).trans ((zU_n (by decide)).trans ((zU_n (by decide)).trans ((a5 _ hb1.1 hb1.2).1.symm.trans hk))))))))))))))))) ?_
  refine z_pushJ gp_245_6 ?_
  refine z_icmp_neF gi_245_7 zr_4 zr_4 (by decide) ?_
  refine z_aload0 rfl ?_
  refine z_pushJ gp_245_11 ?_
  refine z_callVx (As := [_]) rfl rfl rfl (Nat.le_of_ble_eq_true rfl) (Nat.le_of_ble_eq_true rfl) (rn_k (n := 0) (m := 1) hRr (zU_e) (by decide) (by decide)) ?_
  show zW _ _ _ _ _ _ _ _ _ _
  refine z_aload0 rfl ?_
  refine z_iload1 rfl ?_
  refine z_iload2 rfl ?_
  refine z_callVi (As := [_, _]) (le := [some _, some _, some _, none]) rfl rfl gk_50 (Nat.le_of_ble_eq_true rfl) (Nat.le_of_ble_eq_true rfl) rfl ?_
  refine z_aload0 gi_244_0 ?_
  refine z_pushJ gp_244_1 ?_
  refine z_callVx (As := [_]) gi_244_2 rfl rfl (Nat.le_of_ble_eq_true rfl) (Nat.le_of_ble_eq_true rfl) (rn_k (n := 1) (m := 2) hRr (zU_e) (by decide) (by decide)) ?_
  show zW _ _ _ _ _ _ _ _ _ _
  refine z_aload0 gi_244_5 ?_
  refine z_iload1 gi_244_6 ?_
  refine z_iload2 gi_244_7 ?_
  refine z_callVi (As := [_, _]) (le := [some _, some _, some _, none]) gi_244_8 rfl gk_50 (Nat.le_of_ble_eq_true rfl) (Nat.le_of_ble_eq_true rfl) rfl ?_
  refine z_aload0 gi_240_0 ?_
  refine z_getR (r := 81) gi_240_1 gk_50 (hRr _ rm_50_55 (by decide)) ?_
  refine z_iload1 gi_240_4 ?_
  refine z_iald (v := 4) gi_240_5 gk_81 (by decide) (by omega) ((zU_n (by decide)).trans ((zU_n (by decide)).trans ((zU_n (by decide)).trans ((zU_n (by decide)).trans ((zU_n (by decide)).trans ((zU_n (by decide)).trans ((zU_n (by decide)).trans ((zU_n (by decide)).trans ((zU_n (by decide)).trans ((zU_n (by decide)).trans ((zU_n (by decide)).trans ((zU_n (by decide)).trans ((zU_n (by decide)).trans ((zU_n (by decide)).trans ((zU_n (by decide)).trans ((zU_n (by decide)).trans ((zU_n (by decide)).trans ((zU_n (by decide)).trans ((zU_n (by decide)).trans ((zU_n (by decide)).trans ((a5 _ hb1.1 hb1.2).1.symm.trans hk))))))))))))))))))))) ?_
  refine z_pushJ gp_240_6 ?_
  refine z_callSP (As := [_, _]) (v := 0) gi_240_7 rfl (Nat.le_of_ble_eq_true rfl) (Nat.le_of_ble_eq_true rfl) iu_4_3 ?_
  refine z_if_eqT gi_240_10 zr_0 (by decide) ?_
  refine z_aload0 gi_240_28 ?_
  refine z_getR (r := 81) gi_240_29 gk_50 (hRr _ rm_50_55 (by decide)) ?_
  refine z_iload1 gi_240_32 ?_
  refine z_iald (v := 4) gi_240_33 gk_81 (by decide) (by omega) ((zU_n (by decide)).trans ((zU_n (by decide)).trans ((zU_n (by decide)).trans ((zU_n (by decide)).trans ((zU_n (by decide)).trans ((zU_n (by decide)).trans ((zU_n (by decide)).trans ((zU_n (by decide)).trans ((zU_n (by decide)).trans ((zU_n (by decide)).trans ((zU_n (by decide)).trans ((zU_n (by decide)).trans ((zU_n (by decide)).trans ((zU_n (by decide)).trans ((zU_n (by decide)).trans ((zU_n (by decide)).trans ((zU_n (by decide)).trans ((zU_n (by decide)).trans ((zU_n (by decide)).trans ((zU_n (by decide)).trans ((a5 _ hb1.1 hb1.2).1.symm.trans hk))))))))))))))))))))) ?_
  refine z_pushJ gp_240_34 ?_
  refine z_icmp_neT gi_240_36 zr_4 zr_7 (by decide) ?_
  refine z_aload0 gi_240_61 ?_
  refine z_getR (r := 81) gi_240_62 gk_50 (hRr _ rm_50_55 (by decide)) ?_
  refine z_iload1 gi_240_65 ?_
  refine z_iald (v := 4) gi_240_66 gk_81 (by decide) (by omega) ((zU_n (by decide)).trans ((zU_n (by decide)).trans ((zU_n (by decide)).trans ((zU_n (by decide)).trans ((zU_n (by decide)).trans ((zU_n (by decide)).trans ((zU_n (by decide)).trans ((zU_n (by decide)).trans ((zU_n (by decide)).trans ((zU_n (by decide)).trans ((zU_n (by decide)).trans ((zU_n (by decide)).trans ((zU_n (by decide)).trans ((zU_n (by decide)).trans ((zU_n (by decide)).trans ((zU_n (by decide)).trans ((zU_n (by decide)).trans ((zU_n (by decide)).trans ((zU_n (by decide)).trans ((zU_n (by decide)).trans ((a5 _ hb1.1 hb1.2).1.symm.trans hk))))))))))))))))))))) ?_
  refine z_pushJ gp_240_67 ?_
  refine z_icmp_neT gi_240_68 zr_4 zr_2 (by decide) ?_
  refine z_aload0 gi_240_80 ?_
  refine z_iload1 gi_240_81 ?_
  refine z_iload2 gi_240_82 ?_
  refine z_cV2 gi_240_83 gk_50 go_238 (Nat.le_of_ble_eq_true rfl) gc_238_RII ?_
  refine z_aload0 gi_238_0 ?_
  refine z_pushJ gp_238_1 ?_
  refine z_callVx (As := [_]) gi_238_3 rfl rfl (Nat.le_of_ble_eq_true rfl) (Nat.le_of_ble_eq_true rfl) (rn_k (n := 2) (m := 3) hRr (zU_e) (by decide) (by decide)) ?_
  show zW _ _ _ _ _ _ _ _ _ _
  refine z_aload0 gi_238_6 ?_
  refine z_iload1 gi_238_7 ?_
  refine z_iload2 gi_238_8 ?_
  refine z_cV2 gi_238_9 gk_50 go_237 (Nat.le_of_ble_eq_true rfl) gc_237_RII ?_
  refine z_aload0 gi_237_0 ?_
  refine z_getR (r := 81) gi_237_1 gk_50 (hRr _ rm_50_55 (by decide)) ?_
  refine z_iload1 gi_237_4 ?_
  refine z_iald (v := 4) gi_237_5 gk_81 (by decide) (by omega) ((zU_n (by decide)).trans ((zU_n (by decide)).trans ((zU_n (by decide)).trans ((zU_n (by decide)).trans ((zU_n (by decide)).trans ((zU_n (by decide)).trans ((zU_n (by decide)).trans ((zU_n (by decide)).trans ((zU_n (by decide)).trans ((zU_n (by decide)).trans ((zU_n (by decide)).trans ((zU_n (by decide)).trans ((zU_n (by decide)).trans ((zU_n (by decide)).trans ((zU_n (by decide)).trans ((zU_n (by decide)).trans ((zU_n (by decide)).trans ((zU_n (by decide)).trans ((zU_n (by decide)).trans ((zU_n (by decide)).trans ((zU_n (by decide)).trans ((zU_n (by decide)).trans ((a5 _ hb1.1 hb1.2).1.symm.trans hk))))))))))))))))))))))) ?_
  refine z_pushJ gp_237_6 ?_
  refine z_callSP (As := [_, _]) (v := 1) gi_237_7 rfl (Nat.le_of_ble_eq_true rfl) (Nat.le_of_ble_eq_true rfl) iu_4_1 ?_
  refine z_if_eqF gi_237_10 zr_1 (by decide) ?_
  refine z_aload0 gi_237_13 ?_
  refine z_pushJ gp_237_14 ?_
  refine z_callVx (As := [_]) gi_237_16 rfl rfl (Nat.le_of_ble_eq_true rfl) (Nat.le_of_ble_eq_true rfl) (rn_k (n := 3) (m := 4) hRr (zU_e) (by decide) (by decide)) ?_
  show zW _ _ _ _ _ _ _ _ _ _
  refine z_aload0 gi_237_19 ?_
  refine z_iload1 gi_237_20 ?_
  refine z_iload2 gi_237_21 ?_
  refine z_cV2 gi_237_22 gk_50 go_235 (Nat.le_of_ble_eq_true rfl) gc_235_RII ?_
  refine z_aload0 gi_235_0 ?_
  refine z_pushJ gp_235_1 ?_
  refine z_callVx (As := [_]) gi_235_2 rfl rfl (Nat.le_of_ble_eq_true rfl) (Nat.le_of_ble_eq_true rfl) (rn_k (n := 4) (m := 5) hRr (zU_e) (by decide) (by decide)) ?_
  show zW _ _ _ _ _ _ _ _ _ _
  refine z_iload2 gi_235_5 ?_
  refine z_iload1 gi_235_6 ?_
  refine z_iadd (e := x + b) gi_235_7 rfl ?_
  refine z_iret gi_235_8 gr_235 ?_
  show zW _ _ _ _ _ _ _ _ _ _
  refine z_pushJ gp_237_25 ?_
  refine z_iadd (e := x + b + 3) gi_237_26 rfl ?_
  refine z_iret gi_237_27 gr_237 ?_
  show zW _ _ _ _ _ _ _ _ _ _
  refine z_pushJ gp_238_12 ?_
  refine z_imul (e := (x + b + 3) * 2) gi_238_13 rfl ?_
  refine z_iret gi_238_14 gr_238 ?_
  show zW _ _ _ _ _ _ _ _ _ _
  refine z_iret gi_240_86 gr_240 ?_
  show zW _ _ _ _ _ _ _ _ _ _
  refine z_istore (ls1 := [some (.ref 50), some (zi b), some (zi x), some (zi ((x + b + 3) * 2))]) gi_244_11 rfl ?_
  refine z_iload3 gi_244_12 ?_
  refine z_aload0 gi_244_13 ?_
  refine z_iload1 gi_244_14 ?_
  refine z_pushJ gp_244_15 ?_
  refine z_callVi (As := [_, _]) (le := [some _, some _, some _, none]) gi_244_16 rfl gk_50 (Nat.le_of_ble_eq_true rfl) (Nat.le_of_ble_eq_true rfl) rfl ?_
  refine z_aload0 gi_243_0 ?_
  refine z_getR (r := 81) gi_243_1 gk_50 (hRr _ rm_50_55 (by decide)) ?_
  refine z_iload1 gi_243_4 ?_
  refine z_iald (v := 4) gi_243_5 gk_81 (by decide) (by omega) ((zU_n (by decide)).trans ((zU_n (by decide)).trans ((zU_n (by decide)).trans ((zU_n (by decide)).trans ((zU_n (by decide)).trans ((zU_n (by decide)).trans ((zU_n (by decide)).trans ((zU_n (by decide)).trans ((zU_n (by decide)).trans ((zU_n (by decide)).trans ((zU_n (by decide)).trans ((zU_n (by decide)).trans ((zU_n (by decide)).trans ((zU_n (by decide)).trans ((zU_n (by decide)).trans ((zU_n (by decide)).trans ((zU_n (by decide)).trans ((zU_n (by decide)).trans ((zU_n (by decide)).trans ((zU_n (by decide)).trans ((zU_n (by decide)).trans ((zU_n (by decide)).trans ((zU_n (by decide)).trans ((zU_n (by decide)).trans ((zU_n (by decide)).trans ((zU_n (by decide)).trans ((a5 _ hb1.1 hb1.2).1.symm.trans hk))))))))))))))))))))))))))) ?_
  refine z_pushJ gp_243_6 ?_
  refine z_icmp_neT gi_243_7 zr_4 zr_5 (by decide) ?_
  refine z_aload0 gi_243_32 ?_
  refine z_getR (r := 81) gi_243_33 gk_50 (hRr _ rm_50_55 (by decide)) ?_
  refine z_iload1 gi_243_36 ?_
  refine z_iald (v := 4) gi_243_37 gk_81 (by decide) (by omega) ((zU_n (by decide)).trans ((zU_n (by decide)).trans ((zU_n (by decide)).trans ((zU_n (by decide)).trans ((zU_n (by decide)).trans ((zU_n (by decide)).trans ((zU_n (by decide)).trans ((zU_n (by decide)).trans ((zU_n (by decide)).trans ((zU_n (by decide)).trans ((zU_n (by decide)).trans ((zU_n (by decide)).trans ((zU_n (by decide)).trans ((zU_n (by decide)).trans ((zU_n (by decide)).trans ((zU_n (by decide)).trans ((zU_n (by decide)).trans ((zU_n (by decide)).trans ((zU_n (by decide)).trans ((zU_n (by decide)).trans ((zU_n (by decide)).trans ((zU_n (by decide)).trans ((zU_n (by decide)).trans ((zU_n (by decide)).trans ((zU_n (by decide)).trans ((zU_n (by decide)).trans ((a5 _ hb1.1 hb1.2).1.symm.trans hk))))))))))))))))))))))))))) ?_
  refine z_pushJ gp_243_38 ?_
  refine z_icmp_neT gi_243_39 zr_4 zr_3 (by decide) ?_
  refine z_aload0 gi_243_51 ?_
  refine z_iload1 gi_243_52 ?_
  refine z_iload2 gi_243_53 ?_
  refine z_cV2 gi_243_54 gk_50 go_241 (Nat.le_of_ble_eq_true rfl) gc_241_RII ?_
  refine z_aload0 gi_241_0 ?_
  refine z_pushJ gp_241_1 ?_
  refine z_callVx (As := [_]) gi_241_3 rfl rfl (Nat.le_of_ble_eq_true rfl) (Nat.le_of_ble_eq_true rfl) (rn_k (n := 5) (m := 6) hRr (zU_e) (by decide) (by decide)) ?_
  show zW _ _ _ _ _ _ _ _ _ _
  refine z_iload2 gi_241_6 ?_
  refine z_iload1 gi_241_7 ?_
  refine z_ixor (e := zxor 1 b) gi_241_8 rfl ?_
  refine z_iret gi_241_9 gr_241 ?_
  show zW _ _ _ _ _ _ _ _ _ _
  refine z_iret gi_243_57 gr_243 ?_
  show zW _ _ _ _ _ _ _ _ _ _
  refine z_isub (e := (x + b + 3) * 2 - (zxor 1 b)) gi_244_19 rfl ?_
  refine z_iret gi_244_20 gr_244 ?_
  show zW _ _ _ _ _ _ _ _ _ _
  refine z_pushJ gp_245_22 ?_
  refine z_ixor (e := zxor ((x + b + 3) * 2 - (zxor 1 b)) 5) rfl rfl ?_
  refine z_iret rfl gr_245 ?_
  show zW _ _ _ _ _ _ _ _ _ _
  refine z_iret gi_246_71 gr_246 ?_
  refine ⟨?_, ?_⟩
  · rfl
  · have hk := (zK_x (a := 50) (x := 56) (v := 6) (zK_x (a := 82) (x := 5) (v := 11) (zK_x (a := 50) (x := 56) (v := 5) (zK_x (a := 82) (x := 4) (v := 1) (zK_x (a := 50) (x := 56) (v := 4) (zK_x (a := 82) (x := 3) (v := 20) (zK_x (a := 50) (x := 56) (v := 3) (zK_x (a := 82) (x := 2) (v := 10) (zK_x (a := 50) (x := 56) (v := 2) (zK_x (a := 82) (x := 1) (v := 2) (zK_x (a := 50) (x := 56) (v := 1) (zK_x (a := 82) (x := 0) (v := 50) (zK_x (a := 50) (x := 56) (v := 0) (zK_x (a := 34) (x := 3) (v := 6) (zK_x (a := 36) (x := 5) (v := 11) (zK_x (a := 34) (x := 3) (v := 5) (zK_x (a := 36) (x := 4) (v := 1) (zK_x (a := 34) (x := 3) (v := 4) (zK_x (a := 36) (x := 3) (v := 20) (zK_x (a := 34) (x := 3) (v := 3) (zK_x (a := 36) (x := 2) (v := 10) (zK_x (a := 34) (x := 3) (v := 2) (zK_x (a := 36) (x := 1) (v := 2) (zK_x (a := 34) (x := 3) (v := 1) (zK_x (a := 36) (x := 0) (v := 50) (zK_x (a := 34) (x := 5) (v := 4) (zK_x (a := 34) (x := 4) (v := b) (zK_x (a := 34) (x := 3) (v := 0) (zK_r (k := (kL [] [(34, 3), (34, 4), (34, 5), (36, 0), (36, 1), (36, 2), (36, 3), (36, 4), (36, 5), (50, 56), (82, 0), (82, 1), (82, 2), (82, 3), (82, 4), (82, 5)])) (A := J)) rfl) rfl) rfl) rfl) rfl) rfl) rfl) rfl) rfl) rfl) rfl) rfl) rfl) rfl) rfl) rfl) rfl) rfl) rfl) rfl) rfl) rfl) rfl) rfl) rfl) rfl) rfl) rfl)
    exact ⟨hR, hG, RelY_k hk (by repeat' constructor) (fun p => by repeat' constructor) hY, RelD_k hk (by repeat' constructor) (fun p => by repeat' constructor) hD, RelP_k hk (by repeat' constructor) (fun p => by repeat' constructor) hP, RelC_k hk (by repeat' constructor) (fun p => by repeat' constructor) hC, ⟨(show J 34 1 = J 50 54 from a1), (show 0 ≤ J 34 1 ∧ J 34 1 ≤ 50 from a2), rfl, (show (0 : Int) ≤ 6 ∧ (6 : Int) ≤ 1000 from by decide), (fun i i1 i2 => a5 i i1 i2), (fun i i1 i2 _ => by have i3 : i < 6 := i2; have q : i = 0 ∨ i = 1 ∨ i = 2 ∨ i = 3 ∨ i = 4 ∨ i = 5 := (by omega); rcases q with rfl | rfl | rfl | rfl | rfl | rfl <;> rfl)⟩, RelS_k hk (zK_r (k := kM)) (fun x j a b => ⟨kL_38 (by decide) (by decide) x j a b, kM_38 x j a b⟩) (fun p => ⟨rfl, rfl, rfl⟩) rfl hS, RelT_k hk (by repeat' constructor) (fun p => by repeat' constructor) hTp, RelX_k hk (by repeat' constructor) (fun p => by repeat' constructor) hX, RelW_k hk ⟨rfl, rfl⟩ trivial hW⟩
theorem iu_5_1 {X : Nat × (Nat → Int32)} {d : Nat} {J M : zA} {R : zR} : zW X d 234 0 (gEn 234 [(zi 5), (zi 1)]) [] J M R (zPu 0 J M R) := by
  show zW _ _ _ _ [some (zi 5), some (zi 1)] _ _ _ _ _
  refine z_iload1 gi_234_0 ?_
  refine z_if_eqF gi_234_1 zr_1 (by decide) ?_
  refine z_iload0 gi_234_4 ?_
  refine z_iload1 gi_234_5 ?_
  refine z_icmp_eqF gi_234_6 zr_5 zr_1 (by decide) ?_
  refine z_iload1 gi_234_9 ?_
  refine z_pushJ gp_234_10 ?_
  refine z_icmp_neF gi_234_11 zr_1 zr_1 (by decide) ?_
  refine z_iload0 gi_234_14 ?_
  refine z_pushJ gp_234_15 ?_
  refine z_icmp_eqF gi_234_16 zr_5 zr_4 (by decide) ?_
  refine z_iload1 gi_234_19 ?_
  refine z_pushJ gp_234_20 ?_
  refine z_icmp_neT gi_234_21 zr_1 zr_2 (by decide) ?_
  refine z_iload1 gi_234_34 ?_
  refine z_pushJ gp_234_35 ?_
  refine z_icmp_neT gi_234_36 zr_1 zr_3 (by decide) ?_
  refine z_iload1 gi_234_44 ?_
  refine z_pushJ gp_234_45 ?_
  refine z_icmp_neT gi_234_47 zr_1 zr_6 (by decide) ?_
  refine z_pushJ gp_234_60 ?_
  refine z_bret0 gi_234_61 gr_234 ?_
  exact ⟨rfl, rfl, rfl, rfl⟩
theorem st_act_50 {X : Nat × (Nat → Int32)} {d : Nat} {J M : zA} {R : zR} {b x : Int} (hr : Rel X J M R) (hb : -2147483648 ≤ b ∧ b < 2147483648) (hx : -2147483648 ≤ x ∧ x < 2147483648) (hb1 : 0 ≤ b ∧ b < J 34 1) (hk : J 35 b = 5) : zW X (d + 20) 134 0 (gEn 134 [(.ref 0), (zi b), (zi 0), (zi x)]) [] J M R (stP X (d + 20) 246 [(zi b), (zi 0), (zi x)]) := by
  have hr0 := hr
  obtain ⟨hR, hG, hY, hD, hP, hC, hAc, hS, hTp, hX, hW⟩ := hr0
  have hRr : zRoR R := zRoR_of hR
  have hA0 := hAc
  obtain ⟨a1, a2, a3, a4, a5, a6⟩ := hA0
  show zW _ _ _ _ [some (.ref 0), some (zi b), some (zi 0), some (zi x)] _ _ _ _ _
  refine z_aload0 gi_134_0 ?_
  refine z_getR (r := 34) gi_134_1 gk_0 (hR _ rm_0_10) ?_
  refine z_iload1 gi_134_4 ?_
  refine z_iload2 gi_134_5 ?_
  refine z_iload3 gi_134_6 ?_
  refine z_cV3 gi_134_7 gk_34 go_7 (Nat.le_of_ble_eq_true rfl) gc_7_RIII ?_
  refine z_aload0 gi_7_0 ?_
  refine z_pushJ gp_7_1 ?_
  refine z_putI (y := 3) gi_7_2 rfl gk_34 ?_
  refine z_aload0 gi_7_5 ?_
  refine z_iload1 gi_7_6 ?_
  refine z_cV1 gi_7_7 gk_34 go_3 (Nat.le_of_ble_eq_true rfl) gc_3_RI ?_
  refine z_iload1 gi_3_0 ?_
  refine z_if_ltF gi_3_1 (by omega) (by omega) ?_
  refine z_iload1 gi_3_4 ?_
  refine z_aload0 gi_3_5 ?_
  refine z_getI (v := J 34 1) gi_3_6 gk_34 ((zU_x (by decide)).trans (rfl)) ?_
  refine z_icmp_geF gi_3_9 (by omega) (by omega) (by omega) ?_
  refine z_pushJ gp_3_12 ?_
  refine z_goto gi_3_13 ?_
  refine z_bret1 gi_3_17 gr_3 ?_
  show zW _ _ _ _ _ _ _ _ _ _
  refine z_if_eqF gi_7_10 zr_1 (by decide) ?_
  refine z_iload2 gi_7_13 ?_
  refine z_if_ltF gi_7_14 zr_0 (by decide) ?_
  refine z_iload2 gi_7_17 ?_
  refine z_pushJ gp_7_18 ?_
  refine z_icmp_ltT gi_7_19 zr_0 zr_4 (by decide) ?_
  refine z_aload0 gi_7_24 ?_
  refine z_iload1 gi_7_25 ?_
  refine z_putI (y := 4) gi_7_26 rfl gk_34 ?_
  refine z_aload0 gi_7_29 ?_
  refine z_aload0 gi_7_30 ?_
  refine z_getR (r := 35) gi_7_31 gk_34 (hR _ rm_34_0) ?_
  refine z_iload1 gi_7_34 ?_
  refine z_iald (v := 5) gi_7_35 gk_35 (by decide) (by omega) ((zU_n (by decide)).trans ((zU_n (by decide)).trans (hk))) ?_
  refine z_putI (y := 5) gi_7_36 rfl gk_34 ?_
  refine z_aload0 gi_7_39 ?_
  refine z_iload2 gi_7_40 ?_
  refine z_iload3 gi_7_41 ?_
  refine z_pushJ gp_7_42 ?_
  refine z_cV3 gi_7_43 gk_34 go_8 (Nat.le_of_ble_eq_true rfl) gc_8_RIII ?_
  refine z_aload0 gi_8_0 ?_
  refine z_aload0 gi_8_1 ?_
  refine z_getI (v := 5) gi_8_2 gk_34 (zU_e) ?_
  refine z_iload1 gi_8_5 ?_
  refine z_iload2 gi_8_6 ?_
  refine z_iload3 gi_8_7 ?_
  refine z_callVi (As := [_, _, _, _]) (le := [some _, some _, some _, some _, some _, none, none]) gi_8_8 rfl gk_34 (Nat.le_of_ble_eq_true rfl) (Nat.le_of_ble_eq_true rfl) rfl ?_
  refine ah_5_0 (by decide) ?_
  refine z_aload0 gi_9_77 ?_
  refine z_iload6 gi_9_78 ?_
  refine z_callVx (As := [_]) gi_9_80 rfl rfl (Nat.le_of_ble_eq_true rfl) (Nat.le_of_ble_eq_true rfl) (bg_k (n := 0) (m := 1) hR ((zU_x (by decide)).trans ((zU_x (by decide)).trans (zU_e))) (by decide) (by decide)) ?_
  show zW _ _ _ _ _ _ _ _ _ _
  refine z_iload5 gi_9_83 ?_
  refine z_if_neF gi_9_85 zr_0 (by decide) ?_
  refine z_aload0 gi_9_88 ?_
  refine z_iload6 gi_9_89 ?_
  refine z_iload3 gi_9_91 ?_
  refine z_iload4 gi_9_92 ?_
  refine z_pushJ gp_9_94 ?_
  refine z_iadd (e := 1) gi_9_95 rfl ?_
  refine z_callVi (As := [_, _, _]) (le := [some _, some _, some _, some _, none]) gi_9_96 rfl gk_34 (Nat.le_of_ble_eq_true rfl) (Nat.le_of_ble_eq_true rfl) rfl ?_
  refine z_iload1 gi_11_0 ?_
  refine z_swI (tg := 44) gi_11_1 (by decide) (T := [((1 : Int), 44), ((2 : Int), 51), ((10 : Int), 71), ((11 : Int), 81)]) rfl (by decide) ?_
  refine z_iload2 gi_11_44 ?_
  refine z_aload0 gi_11_45 ?_
  refine z_getI (v := b) gi_11_46 gk_34 ((zU_x (by decide)).trans ((zU_n (by decide)).trans ((zU_x (by decide)).trans (zU_e)))) ?_
  refine z_iadd (e := x + b) gi_11_49 rfl ?_
  refine z_iret gi_11_50 gr_11 ?_
  show zW _ _ _ _ _ _ _ _ _ _
  refine z_iret gi_9_99 gr_9 ?_
  show zW _ _ _ _ _ _ _ _ _ _
  refine z_iret gi_8_11 gr_8 ?_
  show zW _ _ _ _ _ _ _ _ _ _
  refine z_iret gi_7_46 gr_7 ?_
  show zW _ _ _ _ _ _ _ _ _ _
  refine z_iret gi_134_10 gr_134 ?_
  refine ⟨_, rfl, ?_⟩
  show zW _ _ _ _ [some (.ref 50), some (zi b), some (zi 0), some (zi x)] _ _ _ _ _
  refine z_aload0 gi_246_0 ?_
  refine z_pushJ gp_246_1 ?_
  refine z_putI (y := 56) gi_246_2 rfl gk_50 ?_
  refine z_aload0 gi_246_5 ?_
  refine z_iload1 gi_246_6 ?_
  refine z_cV1 gi_246_7 gk_50 go_230 (Nat.le_of_ble_eq_true rfl) gc_230_RI ?_
  refine z_iload1 gi_230_0 ?_
  refine z_pushJ gp_230_1 ?_
  refine z_aload0 gi_230_2 ?_
  refine z_getI (v := J 34 1) gi_230_3 gk_50 ((zU_x (by decide)).trans ((zU_n (by decide)).trans ((zU_n (by decide)).trans ((zU_n (by decide)).trans ((zU_n (by decide)).trans ((zU_n (by decide)).trans (a1.symm))))))) ?_
  refine z_pushJ gp_230_6 ?_
  refine z_isub (e := (J 34 1) - 1) gi_230_7 rfl ?_
  refine z_cS3 gi_230_8 (Nat.le_of_ble_eq_true rfl) gc_148_III ?_
  refine z_iload0 gi_148_0 ?_
  refine z_iload1 gi_148_1 ?_
  refine z_icmp_ltF gi_148_2 (by omega) zr_0 (by omega) ?_
  refine z_iload0 gi_148_5 ?_
  refine z_iload2 gi_148_6 ?_
  refine z_icmp_gtF gi_148_7 (by omega) (by omega) (by omega) ?_
  refine z_pushJ gp_148_10 ?_
  refine z_goto gi_148_11 ?_
  refine z_bret1 gi_148_15 gr_148 ?_
  show zW _ _ _ _ _ _ _ _ _ _
  refine z_bret1 gi_230_11 gr_230 ?_
  show zW _ _ _ _ _ _ _ _ _ _
  refine z_if_eqF gi_246_10 zr_1 (by decide) ?_
  refine z_iload2 gi_246_13 ?_
  refine z_pushJ gp_246_14 ?_
  refine z_pushJ gp_246_15 ?_
  refine z_cS3 gi_246_16 (Nat.le_of_ble_eq_true rfl) gc_148_III ?_
  refine z_iload0 gi_148_0 ?_
  refine z_iload1 gi_148_1 ?_
  refine z_icmp_ltF gi_148_2 zr_0 zr_0 (by decide) ?_
  refine z_iload0 gi_148_5 ?_
  refine z_iload2 gi_148_6 ?_
  refine z_icmp_gtF gi_148_7 zr_0 zr_3 (by decide) ?_
  refine z_pushJ gp_148_10 ?_
  refine z_goto gi_148_11 ?_
  refine z_bret1 gi_148_15 gr_148 ?_
  show zW _ _ _ _ _ _ _ _ _ _
  refine z_if_neT gi_246_19 zr_1 (by decide) ?_
  refine z_iload2 gi_246_24 ?_
  refine z_if_neF gi_246_25 zr_0 (by decide) ?_
  refine z_aload0 gi_246_28 ?_
  refine z_iload1 gi_246_29 ?_
  refine z_iload3 gi_246_30 ?_
  refine z_cV2 gi_246_31 gk_50 go_237 (Nat.le_of_ble_eq_true rfl) gc_237_RII ?_
  refine z_aload0 gi_237_0 ?_
  refine z_getR (r := 81) gi_237_1 gk_50 (hRr _ rm_50_55 (by decide)) ?_
  refine z_iload1 gi_237_4 ?_
  refine z_iald (v := 5) gi_237_5 gk_81 (by decide) (by omega) ((zU_n (by decide)).trans ((zU_n (by decide)).trans ((zU_n (by decide)).trans ((zU_n (by decide)).trans ((zU_n (by decide)).trans ((zU_n (by decide)).trans ((a5 _ hb1.1 hb1.2).1.symm.trans hk))))))) ?_
  refine z_pushJ gp_237_6 ?_
  refine z_callSP (As := [_, _]) (v := 0) gi_237_7 rfl (Nat.le_of_ble_eq_true rfl) (Nat.le_of_ble_eq_true rfl) iu_5_1 ?_
  refine z_if_eqT gi_237_10 zr_0 (by decide) ?_
  refine z_aload0 gi_237_28 ?_
  refine z_getR (r := 81) gi_237_29 gk_50 (hRr _ rm_50_55 (by decide)) ?_
  refine z_iload1 gi_237_32 ?_
  refine z_iald (v := 5) gi_237_33 gk_81 (by decide) (by omega) ((zU_n (by decide)).trans ((zU_n (by decide)).trans ((zU_n (by decide)).trans ((zU_n (by decide)).trans ((zU_n (by decide)).trans ((zU_n (by decide)).trans ((a5 _ hb1.1 hb1.2).1.symm.trans hk))))))) ?_
  refine z_pushJ gp_237_34 ?_
  refine z_icmp_neT gi_237_36 zr_5 zr_7 (by decide) ?_
  refine z_aload0 gi_237_54 ?_
  refine z_getR (r := 81) gi_237_55 gk_50 (hRr _ rm_50_55 (by decide)) ?_
  refine z_iload1 gi_237_58 ?_
  refine z_iald (v := 5) gi_237_59 gk_81 (by decide) (by omega) ((zU_n (by decide)).trans ((zU_n (by decide)).trans ((zU_n (by decide)).trans ((zU_n (by decide)).trans ((zU_n (by decide)).trans ((zU_n (by decide)).trans ((a5 _ hb1.1 hb1.2).1.symm.trans hk))))))) ?_
  refine z_pushJ gp_237_60 ?_
  refine z_icmp_neT gi_237_62 zr_5 zr_6 (by decide) ?_
  refine z_aload0 gi_237_74 ?_
  refine z_iload1 gi_237_75 ?_
  refine z_iload2 gi_237_76 ?_
  refine z_cV2 gi_237_77 gk_50 go_235 (Nat.le_of_ble_eq_true rfl) gc_235_RII ?_
  refine z_aload0 gi_235_0 ?_
  refine z_pushJ gp_235_1 ?_
  refine z_callVx (As := [_]) gi_235_2 rfl rfl (Nat.le_of_ble_eq_true rfl) (Nat.le_of_ble_eq_true rfl) (rn_k (n := 0) (m := 1) hRr (zU_e) (by decide) (by decide)) ?_
  show zW _ _ _ _ _ _ _ _ _ _
  refine z_iload2 gi_235_5 ?_
  refine z_iload1 gi_235_6 ?_
  refine z_iadd (e := x + b) gi_235_7 rfl ?_
  refine z_iret gi_235_8 gr_235 ?_
  show zW _ _ _ _ _ _ _ _ _ _
  refine z_iret gi_237_80 gr_237 ?_
  show zW _ _ _ _ _ _ _ _ _ _
  refine z_goto gi_246_34 ?_
  refine z_iret gi_246_71 gr_246 ?_
  refine ⟨?_, ?_⟩
  · rfl
  · have hk := (zK_x (a := 50) (x := 56) (v := 1) (zK_x (a := 82) (x := 0) (v := 1) (zK_x (a := 50) (x := 56) (v := 0) (zK_x (a := 34) (x := 3) (v := 1) (zK_x (a := 36) (x := 0) (v := 1) (zK_x (a := 34) (x := 5) (v := 5) (zK_x (a := 34) (x := 4) (v := b) (zK_x (a := 34) (x := 3) (v := 0) (zK_r (k := (kL [] [(34, 3), (34, 4), (34, 5), (36, 0), (50, 56), (82, 0)])) (A := J)) rfl) rfl) rfl) rfl) rfl) rfl) rfl) rfl)
    exact ⟨hR, hG, RelY_k hk (by repeat' constructor) (fun p => by repeat' constructor) hY, RelD_k hk (by repeat' constructor) (fun p => by repeat' constructor) hD, RelP_k hk (by repeat' constructor) (fun p => by repeat' constructor) hP, RelC_k hk (by repeat' constructor) (fun p => by repeat' constructor) hC, ⟨(show J 34 1 = J 50 54 from a1), (show 0 ≤ J 34 1 ∧ J 34 1 ≤ 50 from a2), rfl, (show (0 : Int) ≤ 1 ∧ (1 : Int) ≤ 1000 from by decide), (fun i i1 i2 => a5 i i1 i2), (fun i i1 i2 _ => by have i3 : i < 1 := i2; have q : i = 0 := (by omega); subst q; rfl)⟩, RelS_k hk (zK_r (k := kM)) (fun x j a b => ⟨kL_38 (by decide) (by decide) x j a b, kM_38 x j a b⟩) (fun p => ⟨rfl, rfl, rfl⟩) rfl hS, RelT_k hk (by repeat' constructor) (fun p => by repeat' constructor) hTp, RelX_k hk (by repeat' constructor) (fun p => by repeat' constructor) hX, RelW_k hk ⟨rfl, rfl⟩ trivial hW⟩
theorem iu_5_3 {X : Nat × (Nat → Int32)} {d : Nat} {J M : zA} {R : zR} : zW X d 234 0 (gEn 234 [(zi 5), (zi 3)]) [] J M R (zPu 1 J M R) := by
  show zW _ _ _ _ [some (zi 5), some (zi 3)] _ _ _ _ _
  refine z_iload1 gi_234_0 ?_
  refine z_if_eqF gi_234_1 zr_3 (by decide) ?_
  refine z_iload0 gi_234_4 ?_
  refine z_iload1 gi_234_5 ?_
  refine z_icmp_eqF gi_234_6 zr_5 zr_3 (by decide) ?_
  refine z_iload1 gi_234_9 ?_
  refine z_pushJ gp_234_10 ?_
  refine z_icmp_neT gi_234_11 zr_3 zr_1 (by decide) ?_
  refine z_iload1 gi_234_19 ?_
  refine z_pushJ gp_234_20 ?_
  refine z_icmp_neT gi_234_21 zr_3 zr_2 (by decide) ?_
  refine z_iload1 gi_234_34 ?_
  refine z_pushJ gp_234_35 ?_
  refine z_icmp_neF gi_234_36 zr_3 zr_3 (by decide) ?_
  refine z_iload0 gi_234_39 ?_
  refine z_pushJ gp_234_40 ?_
  refine z_icmp_eqT gi_234_41 zr_5 zr_5 (by decide) ?_
  refine z_pushJ gp_234_56 ?_
  refine z_goto gi_234_57 ?_
  refine z_bret1 gi_234_61 gr_234 ?_
  exact ⟨rfl, rfl, rfl, rfl⟩
theorem st_act_51 {X : Nat × (Nat → Int32)} {d : Nat} {J M : zA} {R : zR} {b x : Int} (hr : Rel X J M R) (hb : -2147483648 ≤ b ∧ b < 2147483648) (hx : -2147483648 ≤ x ∧ x < 2147483648) (hb1 : 0 ≤ b ∧ b < J 34 1) (hk : J 35 b = 5) : zW X (d + 20) 134 0 (gEn 134 [(.ref 0), (zi b), (zi 1), (zi x)]) [] J M R (stP X (d + 20) 246 [(zi b), (zi 1), (zi x)]) := by
  have hr0 := hr
  obtain ⟨hR, hG, hY, hD, hP, hC, hAc, hS, hTp, hX, hW⟩ := hr0
  have hRr : zRoR R := zRoR_of hR
  have hA0 := hAc
  obtain ⟨a1, a2, a3, a4, a5, a6⟩ := hA0
  show zW _ _ _ _ [some (.ref 0), some (zi b), some (zi 1), some (zi x)] _ _ _ _ _
  refine z_aload0 gi_134_0 ?_
  refine z_getR (r := 34) gi_134_1 gk_0 (hR _ rm_0_10) ?_
  refine z_iload1 gi_134_4 ?_
  refine z_iload2 gi_134_5 ?_
  refine z_iload3 gi_134_6 ?_
  refine z_cV3 gi_134_7 gk_34 go_7 (Nat.le_of_ble_eq_true rfl) gc_7_RIII ?_
  refine z_aload0 gi_7_0 ?_
  refine z_pushJ gp_7_1 ?_
  refine z_putI (y := 3) gi_7_2 rfl gk_34 ?_
  refine z_aload0 gi_7_5 ?_
  refine z_iload1 gi_7_6 ?_
  refine z_cV1 gi_7_7 gk_34 go_3 (Nat.le_of_ble_eq_true rfl) gc_3_RI ?_
  refine z_iload1 gi_3_0 ?_
  refine z_if_ltF gi_3_1 (by omega) (by omega) ?_
  refine z_iload1 gi_3_4 ?_
  refine z_aload0 gi_3_5 ?_
  refine z_getI (v := J 34 1) gi_3_6 gk_34 ((zU_x (by decide)).trans (rfl)) ?_
  refine z_icmp_geF gi_3_9 (by omega) (by omega) (by omega) ?_
  refine z_pushJ gp_3_12 ?_
  refine z_goto gi_3_13 ?_
  refine z_bret1 gi_3_17 gr_3 ?_
  show zW _ _ _ _ _ _ _ _ _ _
  refine z_if_eqF gi_7_10 zr_1 (by decide) ?_
  refine z_iload2 gi_7_13 ?_
  refine z_if_ltF gi_7_14 zr_1 (by decide) ?_
  refine z_iload2 gi_7_17 ?_
  refine z_pushJ gp_7_18 ?_
  refine z_icmp_ltT gi_7_19 zr_1 zr_4 (by decide) ?_
  refine z_aload0 gi_7_24 ?_
  refine z_iload1 gi_7_25 ?_
  refine z_putI (y := 4) gi_7_26 rfl gk_34 ?_
  refine z_aload0 gi_7_29 ?_
  refine z_aload0 gi_7_30 ?_
  refine z_getR (r := 35) gi_7_31 gk_34 (hR _ rm_34_0) ?_
  refine z_iload1 gi_7_34 ?_
  refine z_iald (v := 5) gi_7_35 gk_35 (by decide) (by omega) ((zU_n (by decide)).trans ((zU_n (by decide)).trans (hk))) ?_
  refine z_putI (y := 5) gi_7_36 rfl gk_34 ?_
  refine z_aload0 gi_7_39 ?_
  refine z_iload2 gi_7_40 ?_
  refine z_iload3 gi_7_41 ?_
  refine z_pushJ gp_7_42 ?_
  refine z_cV3 gi_7_43 gk_34 go_8 (Nat.le_of_ble_eq_true rfl) gc_8_RIII ?_
  refine z_aload0 gi_8_0 ?_
  refine z_aload0 gi_8_1 ?_
  refine z_getI (v := 5) gi_8_2 gk_34 (zU_e) ?_
  refine z_iload1 gi_8_5 ?_
  refine z_iload2 gi_8_6 ?_
  refine z_iload3 gi_8_7 ?_
  refine z_callVi (As := [_, _, _, _]) (le := [some _, some _, some _, some _, some _, none, none]) gi_8_8 rfl gk_34 (Nat.le_of_ble_eq_true rfl) (Nat.le_of_ble_eq_true rfl) rfl ?_
  refine ah_5_1 (by decide) ?_
  refine z_aload0 gi_9_77 ?_
  refine z_iload6 gi_9_78 ?_
  refine z_callVx (As := [_]) gi_9_80 rfl rfl (Nat.le_of_ble_eq_true rfl) (Nat.le_of_ble_eq_true rfl) (bg_k (n := 0) (m := 1) hR ((zU_x (by decide)).trans ((zU_x (by decide)).trans (zU_e))) (by decide) (by decide)) ?_
  show zW _ _ _ _ _ _ _ _ _ _
  refine z_iload5 gi_9_83 ?_
  refine z_if_neT gi_9_85 zr_3 (by decide) ?_
  refine z_aload0 gi_9_100 ?_
  refine z_iload6 gi_9_101 ?_
  refine z_getS gi_9_103 ?_
  refine z_iload5 gi_9_106 ?_
  refine z_sald (j := 4) (n := 8) (v := 2) gi_9_108 (by decide) rfl (by decide) (by decide) rfl ?_
  refine z_iload3 gi_9_109 ?_
  refine z_iload4 gi_9_110 ?_
  refine z_pushJ gp_9_112 ?_
  refine z_iadd (e := 1) gi_9_113 rfl ?_
  refine z_callVi (As := [_, _, _, _]) (le := [some _, some _, some _, some _, some _, none, none]) gi_9_114 rfl gk_34 (Nat.le_of_ble_eq_true rfl) (Nat.le_of_ble_eq_true rfl) rfl ?_
  refine z_iload1 gi_12_0 ?_
  refine z_swI (tg := 127) gi_12_1 (by decide) (T := [((20 : Int), 92), ((30 : Int), 104), ((40 : Int), 115), ((41 : Int), 127), ((50 : Int), 139), ((60 : Int), 151), ((61 : Int), 174), ((70 : Int), 186), ((80 : Int), 198), ((81 : Int), 221)]) rfl (by decide) ?_
  refine z_aload0 gi_12_127 ?_
  refine z_iload2 gi_12_128 ?_
  refine z_pushJ gp_12_129 ?_
  refine z_iload3 gi_12_130 ?_
  refine z_pushJ gp_12_131 ?_
  refine z_iadd (e := x + 1) gi_12_132 rfl ?_
  refine z_iload4 gi_12_133 ?_
  refine z_callVi (As := [_, _, _, _]) (le := [some _, some _, some _, some _, some _, none, none]) gi_12_135 rfl gk_34 (Nat.le_of_ble_eq_true rfl) (Nat.le_of_ble_eq_true rfl) rfl ?_
  refine ah_2_1 (by decide) ?_
  refine z_aload0 gi_9_77 ?_
  refine z_iload6 gi_9_78 ?_
  refine z_callVx (As := [_]) gi_9_80 rfl rfl (Nat.le_of_ble_eq_true rfl) (Nat.le_of_ble_eq_true rfl) (bg_k (n := 1) (m := 2) hR (zU_e) (by decide) (by decide)) ?_
  show zW _ _ _ _ _ _ _ _ _ _
  refine z_iload5 gi_9_83 ?_
  refine z_if_neT gi_9_85 zr_2 (by decide) ?_
  refine z_aload0 gi_9_100 ?_
  refine z_iload6 gi_9_101 ?_
  refine z_getS gi_9_103 ?_
  refine z_iload5 gi_9_106 ?_
  refine z_sald (j := 4) (n := 8) (v := 0) gi_9_108 (by decide) rfl (by decide) (by decide) rfl ?_
  refine z_iload3 gi_9_109 ?_
  refine z_iload4 gi_9_110 ?_
  refine z_pushJ gp_9_112 ?_
  refine z_iadd (e := 2) gi_9_113 rfl ?_
  refine z_callVi (As := [_, _, _, _]) (le := [some _, some _, some _, some _, some _, none, none]) gi_9_114 rfl gk_34 (Nat.le_of_ble_eq_true rfl) (Nat.le_of_ble_eq_true rfl) rfl ?_
  refine z_iload1 gi_12_0 ?_
  refine z_swI (tg := 104) gi_12_1 (by decide) (T := [((20 : Int), 92), ((30 : Int), 104), ((40 : Int), 115), ((41 : Int), 127), ((50 : Int), 139), ((60 : Int), 151), ((61 : Int), 174), ((70 : Int), 186), ((80 : Int), 198), ((81 : Int), 221)]) rfl (by decide) ?_
  refine z_aload0 gi_12_104 ?_
  refine z_iload2 gi_12_105 ?_
  refine z_pushJ gp_12_106 ?_
  refine z_iload3 gi_12_107 ?_
  refine z_iload4 gi_12_108 ?_
  refine z_callVi (As := [_, _, _, _]) (le := [some _, some _, some _, some _, some _, none, none]) gi_12_110 rfl gk_34 (Nat.le_of_ble_eq_true rfl) (Nat.le_of_ble_eq_true rfl) rfl ?_
  refine ah_0_1 (by decide) ?_
  refine z_aload0 gi_9_77 ?_
  refine z_iload6 gi_9_78 ?_
  refine z_callVx (As := [_]) gi_9_80 rfl rfl (Nat.le_of_ble_eq_true rfl) (Nat.le_of_ble_eq_true rfl) (bg_k (n := 2) (m := 3) hR (zU_e) (by decide) (by decide)) ?_
  show zW _ _ _ _ _ _ _ _ _ _
  refine z_iload5 gi_9_83 ?_
  refine z_if_neF gi_9_85 zr_0 (by decide) ?_
  refine z_aload0 gi_9_88 ?_
  refine z_iload6 gi_9_89 ?_
  refine z_iload3 gi_9_91 ?_
  refine z_iload4 gi_9_92 ?_
  refine z_pushJ gp_9_94 ?_
  refine z_iadd (e := 3) gi_9_95 rfl ?_
  refine z_callVi (As := [_, _, _]) (le := [some _, some _, some _, some _, none]) gi_9_96 rfl gk_34 (Nat.le_of_ble_eq_true rfl) (Nat.le_of_ble_eq_true rfl) rfl ?_
  refine z_iload1 gi_11_0 ?_
  refine z_swI (tg := 71) gi_11_1 (by decide) (T := [((1 : Int), 44), ((2 : Int), 51), ((10 : Int), 71), ((11 : Int), 81)]) rfl (by decide) ?_
  refine z_aload0 gi_11_71 ?_
  refine z_pushJ gp_11_72 ?_
  refine z_iload2 gi_11_73 ?_
  refine z_iload3 gi_11_74 ?_
  refine z_cV3 gi_11_75 gk_34 go_8 (Nat.le_of_ble_eq_true rfl) gc_8_RIII ?_
  refine z_aload0 gi_8_0 ?_
  refine z_aload0 gi_8_1 ?_
  refine z_getI (v := 5) gi_8_2 gk_34 ((zU_x (by decide)).trans ((zU_n (by decide)).trans ((zU_x (by decide)).trans ((zU_n (by decide)).trans ((zU_x (by decide)).trans ((zU_n (by decide)).trans (zU_e))))))) ?_
  refine z_iload1 gi_8_5 ?_
  refine z_iload2 gi_8_6 ?_
  refine z_iload3 gi_8_7 ?_
  refine z_callVi (As := [_, _, _, _]) (le := [some _, some _, some _, some _, some _, none, none]) gi_8_8 rfl gk_34 (Nat.le_of_ble_eq_true rfl) (Nat.le_of_ble_eq_true rfl) rfl ?_
  refine ah_5_0 (by decide) ?_
  refine z_aload0 gi_9_77 ?_
  refine z_iload6 gi_9_78 ?_
  refine z_callVx (As := [_]) gi_9_80 rfl rfl (Nat.le_of_ble_eq_true rfl) (Nat.le_of_ble_eq_true rfl) (bg_k (n := 3) (m := 4) hR (zU_e) (by decide) (by decide)) ?_
  show zW _ _ _ _ _ _ _ _ _ _
  refine z_iload5 gi_9_83 ?_
  refine z_if_neF gi_9_85 zr_0 (by decide) ?_
  refine z_aload0 gi_9_88 ?_
  refine z_iload6 gi_9_89 ?_
  refine z_iload3 gi_9_91 ?_
  refine z_iload4 gi_9_92 ?_
  refine z_pushJ gp_9_94 ?_
  refine z_iadd (e := 4) gi_9_95 rfl ?_
  refine z_callVi (As := [_, _, _]) (le := [some _, some _, some _, some _, none]) gi_9_96 rfl gk_34 (Nat.le_of_ble_eq_true rfl) (Nat.le_of_ble_eq_true rfl) rfl ?_
  refine z_iload1 gi_11_0 ?_
  refine z_swI (tg := 44) gi_11_1 (by decide) (T := [((1 : Int), 44), ((2 : Int), 51), ((10 : Int), 71), ((11 : Int), 81)]) rfl (by decide) ?_
  refine z_iload2 gi_11_44 ?_
  refine z_aload0 gi_11_45 ?_
  refine z_getI (v := b) gi_11_46 gk_34 ((zU_x (by decide)).trans ((zU_n (by decide)).trans ((zU_x (by decide)).trans ((zU_n (by decide)).trans ((zU_x (by decide)).trans ((zU_n (by decide)).trans ((zU_x (by decide)).trans ((zU_n (by decide)).trans ((zU_x (by decide)).trans (zU_e)))))))))) ?_
  refine z_iadd (e := x + 1 + b) gi_11_49 rfl ?_
  refine z_iret gi_11_50 gr_11 ?_
  show zW _ _ _ _ _ _ _ _ _ _
  refine z_iret gi_9_99 gr_9 ?_
  show zW _ _ _ _ _ _ _ _ _ _
  refine z_iret gi_8_11 gr_8 ?_
  show zW _ _ _ _ _ _ _ _ _ _
  refine z_pushJ gp_11_78 ?_
  refine z_imul (e := (x + 1 + b) * 2) gi_11_79 rfl ?_
  refine z_iret gi_11_80 gr_11 ?_
  show zW _ _ _ _ _ _ _ _ _ _
  refine z_iret gi_9_99 gr_9 ?_
  show zW _ _ _ _ _ _ _ _ _ _
  refine z_ineg (e := -((x + 1 + b) * 2)) gi_12_113 rfl ?_
  refine z_iret gi_12_114 gr_12 ?_
  show zW _ _ _ _ _ _ _ _ _ _
  refine z_iret gi_9_117 gr_9 ?_
  show zW _ _ _ _ _ _ _ _ _ _
  refine z_iret gi_12_138 gr_12 ?_
  show zW _ _ _ _ _ _ _ _ _ _
  refine z_iret gi_9_117 gr_9 ?_
  show zW _ _ _ _ _ _ _ _ _ _
  refine z_iret gi_8_11 gr_8 ?_
  show zW _ _ _ _ _ _ _ _ _ _
  refine z_iret gi_7_46 gr_7 ?_
  show zW _ _ _ _ _ _ _ _ _ _
  refine z_iret gi_134_10 gr_134 ?_
  refine ⟨_, rfl, ?_⟩
  show zW _ _ _ _ [some (.ref 50), some (zi b), some (zi 1), some (zi x)] _ _ _ _ _
  refine z_aload0 gi_246_0 ?_
  refine z_pushJ gp_246_1 ?_
  refine z_putI (y := 56) gi_246_2 rfl gk_50 ?_
  refine z_aload0 gi_246_5 ?_
  refine z_iload1 gi_246_6 ?_
  refine z_cV1 gi_246_7 gk_50 go_230 (Nat.le_of_ble_eq_true rfl) gc_230_RI ?_
  refine z_iload1 gi_230_0 ?_
  refine z_pushJ gp_230_1 ?_
  refine z_aload0 gi_230_2 ?_
  refine z_getI (v := J 34 1) gi_230_3 gk_50 ((zU_x (by decide)).trans ((zU_n (by decide)).trans ((zU_n (by decide)).trans ((zU_n (by decide)).trans ((zU_n (by decide)).trans ((zU_n (by decide)).trans ((zU_n (by decide)).trans ((zU_n (by decide)).trans ((zU_n (by decide)).trans ((zU_n (by decide)).trans ((zU_n (by decide)).trans ((zU_n (by decide)).trans (a1.symm))))))))))))) ?_
  refine z_pushJ gp_230_6 ?_
  refine z_isub (e := (J 34 1) - 1) gi_230_7 rfl ?_
  refine z_cS3 gi_230_8 (Nat.le_of_ble_eq_true rfl) gc_148_III ?_
  refine z_iload0 gi_148_0 ?_
  refine z_iload1 gi_148_1 ?_
  refine z_icmp_ltF gi_148_2 (by omega) zr_0 (by omega) ?_
  refine z_iload0 gi_148_5 ?_
  refine z_iload2 gi_148_6 ?_
  refine z_icmp_gtF gi_148_7 (by omega) (by omega) (by omega) ?_
  refine z_pushJ gp_148_10 ?_
  refine z_goto gi_148_11 ?_
  refine z_bret1 gi_148_15 gr_148 ?_
  show zW _ _ _ _ _ _ _ _ _ _
  refine z_bret1 gi_230_11 gr_230 ?_
  show zW _ _ _ _ _ _ _ _ _ _
  refine z_if_eqF gi_246_10 zr_1 (by decide) ?_
  refine z_iload2 gi_246_13 ?_
  refine z_pushJ gp_246_14 ?_
  refine z_pushJ gp_246_15 ?_
  refine z_cS3 gi_246_16 (Nat.le_of_ble_eq_true rfl) gc_148_III ?_
  refine z_iload0 gi_148_0 ?_
  refine z_iload1 gi_148_1 ?_
  refine z_icmp_ltF gi_148_2 zr_1 zr_0 (by decide) ?_
  refine z_iload0 gi_148_5 ?_
  refine z_iload2 gi_148_6 ?_
  refine z_icmp_gtF gi_148_7 zr_1 zr_3 (by decide) ?_
  refine z_pushJ gp_148_10 ?_
  refine z_goto gi_148_11 ?_
  refine z_bret1 gi_148_15 gr_148 ?_
  show zW _ _ _ _ _ _ _ _ _ _
  refine z_if_neT gi_246_19 zr_1 (by decide) ?_
  refine z_iload2 gi_246_24 ?_
  refine z_if_neT gi_246_25 zr_1 (by decide) ?_
  refine z_iload2 gi_246_37 ?_
  refine z_pushJ gp_246_38 ?_
  refine z_icmp_neF gi_246_39 zr_1 zr_1 (by decide) ?_
  refine z_aload0 gi_246_42 ?_
  refine z_iload1 gi_246_43 ?_
  refine z_iload3 gi_246_44 ?_
  refine z_callVi (As := [_, _]) (le := [some _, some _, some _, none]) gi_246_45 rfl gk_50 (Nat.le_of_ble_eq_true rfl) (Nat.le_of_ble_eq_true rfl) rfl ?_
  refine z_aload0 gi_240_0 ?_
  refine z_getR (r := 81) gi_240_1 gk_50 (hRr _ rm_50_55 (by decide)) ?_
  refine z_iload1 gi_240_4 ?_
  refine z_iald (v := 5) gi_240_5 gk_81 (by decide) (by omega) ((zU_n (by decide)).trans ((zU_n (by decide)).trans ((zU_n (by decide)).trans ((zU_n (by decide)).trans ((zU_n (by decide)).trans ((zU_n (by decide)).trans ((zU_n (by decide)).trans ((zU_n (by decide)).trans ((zU_n (by decide)).trans ((zU_n (by decide)).trans ((zU_n (by decide)).trans ((zU_n (by decide)).trans ((a5 _ hb1.1 hb1.2).1.symm.trans hk))))))))))))) ?_
  refine z_pushJ gp_240_6 ?_
  refine z_callSP (As := [_, _]) (v := 1) gi_240_7 rfl (Nat.le_of_ble_eq_true rfl) (Nat.le_of_ble_eq_true rfl) iu_5_3 ?_
  refine z_if_eqF gi_240_10 zr_1 (by decide) ?_
  refine z_aload0 gi_240_13 ?_
  refine z_pushJ gp_240_14 ?_
  refine z_callVx (As := [_]) gi_240_16 rfl rfl (Nat.le_of_ble_eq_true rfl) (Nat.le_of_ble_eq_true rfl) (rn_k (n := 0) (m := 1) hRr (zU_e) (by decide) (by decide)) ?_
  show zW _ _ _ _ _ _ _ _ _ _
  refine z_aload0 gi_240_19 ?_
  refine z_iload1 gi_240_20 ?_
  refine z_iload2 gi_240_21 ?_
  refine z_pushJ gp_240_22 ?_
  refine z_iadd (e := x + 1) gi_240_23 rfl ?_
  refine z_cV2 gi_240_24 gk_50 go_239 (Nat.le_of_ble_eq_true rfl) gc_239_RII ?_
  refine z_aload0 gi_239_0 ?_
  refine z_pushJ gp_239_1 ?_
  refine z_callVx (As := [_]) gi_239_3 rfl rfl (Nat.le_of_ble_eq_true rfl) (Nat.le_of_ble_eq_true rfl) (rn_k (n := 1) (m := 2) hRr (zU_e) (by decide) (by decide)) ?_
  show zW _ _ _ _ _ _ _ _ _ _
  refine z_aload0 gi_239_6 ?_
  refine z_iload1 gi_239_7 ?_
  refine z_iload2 gi_239_8 ?_
  refine z_cV2 gi_239_9 gk_50 go_238 (Nat.le_of_ble_eq_true rfl) gc_238_RII ?_
  refine z_aload0 gi_238_0 ?_
  refine z_pushJ gp_238_1 ?_
  refine z_callVx (As := [_]) gi_238_3 rfl rfl (Nat.le_of_ble_eq_true rfl) (Nat.le_of_ble_eq_true rfl) (rn_k (n := 2) (m := 3) hRr (zU_e) (by decide) (by decide)) ?_
  show zW _ _ _ _ _ _ _ _ _ _
  refine z_aload0 gi_238_6 ?_
  refine z_iload1 gi_238_7 ?_
  refine z_iload2 gi_238_8 ?_
  refine z_cV2 gi_238_9 gk_50 go_237 (Nat.le_of_ble_eq_true rfl) gc_237_RII ?_
  refine z_aload0 gi_237_0 ?_
  refine z_getR (r := 81) gi_237_1 gk_50 (hRr _ rm_50_55 (by decide)) ?_
  refine z_iload1 gi_237_4 ?_
  refine z_iald (v := 5) gi_237_5 gk_81 (by decide) (by omega) ((zU_n (by decide)).trans ((zU_n (by decide)).trans ((zU_n (by decide)).trans ((zU_n (by decide)).trans ((zU_n (by decide)).trans ((zU_n (by decide)).trans ((zU_n (by decide)).trans ((zU_n (by decide)).trans ((zU_n (by decide)).trans ((zU_n (by decide)).trans ((zU_n (by decide)).trans ((zU_n (by decide)).trans ((zU_n (by decide)).trans ((zU_n (by decide)).trans ((zU_n (by decide)).trans ((zU_n (by decide)).trans ((zU_n (by decide)).trans ((zU_n (by decide)).trans ((a5 _ hb1.1 hb1.2).1.symm.trans hk))))))))))))))))))) ?_
  refine z_pushJ gp_237_6 ?_
  refine z_callSP (As := [_, _]) (v := 0) gi_237_7 rfl (Nat.le_of_ble_eq_true rfl) (Nat.le_of_ble_eq_true rfl) iu_5_1 ?_
  refine z_if_eqT gi_237_10 zr_0 (by decide) ?_
  refine z_aload0 gi_237_28 ?_
  refine z_getR (r := 81) gi_237_29 gk_50 (hRr _ rm_50_55 (by decide)) ?_
  refine z_iload1 gi_237_32 ?_
  refine z_iald (v := 5) gi_237_33 gk_81 (by decide) (by omega) ((zU_n (by decide)).trans ((zU_n (by decide)).trans ((zU_n (by decide)).trans ((zU_n (by decide)).trans ((zU_n (by decide)).trans ((zU_n (by decide)).trans ((zU_n (by decide)).trans ((zU_n (by decide)).trans ((zU_n (by decide)).trans ((zU_n (by decide)).trans ((zU_n (by decide)).trans ((zU_n (by decide)).trans ((zU_n (by decide)).trans ((zU_n (by decide)).trans ((zU_n (by decide)).trans ((zU_n (by decide)).trans ((zU_n (by decide)).trans ((zU_n (by decide)).trans ((a5 _ hb1.1 hb1.2).1.symm.trans hk))))))))))))))))))) ?_
  refine z_pushJ gp_237_34 ?_
  refine z_icmp_neT gi_237_36 zr_5 zr_7 (by decide) ?_
  refine z_aload0 gi_237_54 ?_
  refine z_getR (r := 81) gi_237_55 gk_50 (hRr _ rm_50_55 (by decide)) ?_
  refine z_iload1 gi_237_58 ?_
  refine z_iald (v := 5) gi_237_59 gk_81 (by decide) (by omega) ((zU_n (by decide)).trans ((zU_n (by decide)).trans ((zU_n (by decide)).trans ((zU_n (by decide)).trans ((zU_n (by decide)).trans ((zU_n (by decide)).trans ((zU_n (by decide)).trans ((zU_n (by decide)).trans ((zU_n (by decide)).trans ((zU_n (by decide)).trans ((zU_n (by decide)).trans ((zU_n (by decide)).trans ((zU_n (by decide)).trans ((zU_n (by decide)).trans ((zU_n (by decide)).trans ((zU_n (by decide)).trans ((zU_n (by decide)).trans ((zU_n (by decide)).trans ((a5 _ hb1.1 hb1.2).1.symm.trans hk))))))))))))))))))) ?_
  refine z_pushJ gp_237_60 ?_
  refine z_icmp_neT gi_237_62 zr_5 zr_6 (by decide) ?_
  refine z_aload0 gi_237_74 ?_
  refine z_iload1 gi_237_75 ?_
  refine z_iload2 gi_237_76 ?_
  refine z_cV2 gi_237_77 gk_50 go_235 (Nat.le_of_ble_eq_true rfl) gc_235_RII ?_
  refine z_aload0 gi_235_0 ?_
  refine z_pushJ gp_235_1 ?_
  refine z_callVx (As := [_]) gi_235_2 rfl rfl (Nat.le_of_ble_eq_true rfl) (Nat.le_of_ble_eq_true rfl) (rn_k (n := 3) (m := 4) hRr (zU_e) (by decide) (by decide)) ?_
  show zW _ _ _ _ _ _ _ _ _ _
  refine z_iload2 gi_235_5 ?_
  refine z_iload1 gi_235_6 ?_
  refine z_iadd (e := x + 1 + b) gi_235_7 rfl ?_
  refine z_iret gi_235_8 gr_235 ?_
  show zW _ _ _ _ _ _ _ _ _ _
  refine z_iret gi_237_80 gr_237 ?_
  show zW _ _ _ _ _ _ _ _ _ _
  refine z_pushJ gp_238_12 ?_
  refine z_imul (e := (x + 1 + b) * 2) gi_238_13 rfl ?_
  refine z_iret gi_238_14 gr_238 ?_
  show zW _ _ _ _ _ _ _ _ _ _
  refine z_ineg (e := -((x + 1 + b) * 2)) gi_239_12 rfl ?_
  refine z_iret gi_239_13 gr_239 ?_
  show zW _ _ _ _ _ _ _ _ _ _
  refine z_iret gi_240_27 gr_240 ?_
  show zW _ _ _ _ _ _ _ _ _ _
  refine z_goto gi_246_48 ?_
  refine z_iret gi_246_71 gr_246 ?_
  refine ⟨?_, ?_⟩
  · rfl
  · have hk := (zK_x (a := 50) (x := 56) (v := 4) (zK_x (a := 82) (x := 3) (v := 1) (zK_x (a := 50) (x := 56) (v := 3) (zK_x (a := 82) (x := 2) (v := 10) (zK_x (a := 50) (x := 56) (v := 2) (zK_x (a := 82) (x := 1) (v := 30) (zK_x (a := 50) (x := 56) (v := 1) (zK_x (a := 82) (x := 0) (v := 41) (zK_x (a := 50) (x := 56) (v := 0) (zK_x (a := 34) (x := 3) (v := 4) (zK_x (a := 36) (x := 3) (v := 1) (zK_x (a := 34) (x := 3) (v := 3) (zK_x (a := 36) (x := 2) (v := 10) (zK_x (a := 34) (x := 3) (v := 2) (zK_x (a := 36) (x := 1) (v := 30) (zK_x (a := 34) (x := 3) (v := 1) (zK_x (a := 36) (x := 0) (v := 41) (zK_x (a := 34) (x := 5) (v := 5) (zK_x (a := 34) (x := 4) (v := b) (zK_x (a := 34) (x := 3) (v := 0) (zK_r (k := (kL [] [(34, 3), (34, 4), (34, 5), (36, 0), (36, 1), (36, 2), (36, 3), (50, 56), (82, 0), (82, 1), (82, 2), (82, 3)])) (A := J)) rfl) rfl) rfl) rfl) rfl) rfl) rfl) rfl) rfl) rfl) rfl) rfl) rfl) rfl) rfl) rfl) rfl) rfl) rfl) rfl)
    exact ⟨hR, hG, RelY_k hk (by repeat' constructor) (fun p => by repeat' constructor) hY, RelD_k hk (by repeat' constructor) (fun p => by repeat' constructor) hD, RelP_k hk (by repeat' constructor) (fun p => by repeat' constructor) hP, RelC_k hk (by repeat' constructor) (fun p => by repeat' constructor) hC, ⟨(show J 34 1 = J 50 54 from a1), (show 0 ≤ J 34 1 ∧ J 34 1 ≤ 50 from a2), rfl, (show (0 : Int) ≤ 4 ∧ (4 : Int) ≤ 1000 from by decide), (fun i i1 i2 => a5 i i1 i2), (fun i i1 i2 _ => by have i3 : i < 4 := i2; have q : i = 0 ∨ i = 1 ∨ i = 2 ∨ i = 3 := (by omega); rcases q with rfl | rfl | rfl | rfl <;> rfl)⟩, RelS_k hk (zK_r (k := kM)) (fun x j a b => ⟨kL_38 (by decide) (by decide) x j a b, kM_38 x j a b⟩) (fun p => ⟨rfl, rfl, rfl⟩) rfl hS, RelT_k hk (by repeat' constructor) (fun p => by repeat' constructor) hTp, RelX_k hk (by repeat' constructor) (fun p => by repeat' constructor) hX, RelW_k hk ⟨rfl, rfl⟩ trivial hW⟩
theorem st_act_52 {X : Nat × (Nat → Int32)} {d : Nat} {J M : zA} {R : zR} {b x : Int} (hr : Rel X J M R) (hb : -2147483648 ≤ b ∧ b < 2147483648) (hx : -2147483648 ≤ x ∧ x < 2147483648) (hb1 : 0 ≤ b ∧ b < J 34 1) (hk : J 35 b = 5) : zW X (d + 20) 134 0 (gEn 134 [(.ref 0), (zi b), (zi 2), (zi x)]) [] J M R (stP X (d + 20) 246 [(zi b), (zi 2), (zi x)]) := by
  have hr0 := hr
  obtain ⟨hR, hG, hY, hD, hP, hC, hAc, hS, hTp, hX, hW⟩ := hr0
  have hRr : zRoR R := zRoR_of hR
  have hA0 := hAc
  obtain ⟨a1, a2, a3, a4, a5, a6⟩ := hA0
  show zW _ _ _ _ [some (.ref 0), some (zi b), some (zi 2), some (zi x)] _ _ _ _ _
  refine z_aload0 gi_134_0 ?_
  refine z_getR (r := 34) gi_134_1 gk_0 (hR _ rm_0_10) ?_
  refine z_iload1 gi_134_4 ?_
  refine z_iload2 gi_134_5 ?_
  refine z_iload3 gi_134_6 ?_
  refine z_cV3 gi_134_7 gk_34 go_7 (Nat.le_of_ble_eq_true rfl) gc_7_RIII ?_
  refine z_aload0 gi_7_0 ?_
  refine z_pushJ gp_7_1 ?_
  refine z_putI (y := 3) gi_7_2 rfl gk_34 ?_
  refine z_aload0 gi_7_5 ?_
  refine z_iload1 gi_7_6 ?_
  refine z_cV1 gi_7_7 gk_34 go_3 (Nat.le_of_ble_eq_true rfl) gc_3_RI ?_
  refine z_iload1 gi_3_0 ?_
  refine z_if_ltF gi_3_1 (by omega) (by omega) ?_
  refine z_iload1 gi_3_4 ?_
  refine z_aload0 gi_3_5 ?_
  refine z_getI (v := J 34 1) gi_3_6 gk_34 ((zU_x (by decide)).trans (rfl)) ?_
  refine z_icmp_geF gi_3_9 (by omega) (by omega) (by omega) ?_
  refine z_pushJ gp_3_12 ?_
  refine z_goto gi_3_13 ?_
  refine z_bret1 gi_3_17 gr_3 ?_
  show zW _ _ _ _ _ _ _ _ _ _
  refine z_if_eqF gi_7_10 zr_1 (by decide) ?_
  refine z_iload2 gi_7_13 ?_
  refine z_if_ltF gi_7_14 zr_2 (by decide) ?_
  refine z_iload2 gi_7_17 ?_
  refine z_pushJ gp_7_18 ?_
  refine z_icmp_ltT gi_7_19 zr_2 zr_4 (by decide) ?_
  refine z_aload0 gi_7_24 ?_
  refine z_iload1 gi_7_25 ?_
  refine z_putI (y := 4) gi_7_26 rfl gk_34 ?_
  refine z_aload0 gi_7_29 ?_
  refine z_aload0 gi_7_30 ?_
  refine z_getR (r := 35) gi_7_31 gk_34 (hR _ rm_34_0) ?_
  refine z_iload1 gi_7_34 ?_
  refine z_iald (v := 5) gi_7_35 gk_35 (by decide) (by omega) ((zU_n (by decide)).trans ((zU_n (by decide)).trans (hk))) ?_
  refine z_putI (y := 5) gi_7_36 rfl gk_34 ?_
  refine z_aload0 gi_7_39 ?_
  refine z_iload2 gi_7_40 ?_
  refine z_iload3 gi_7_41 ?_
  refine z_pushJ gp_7_42 ?_
  refine z_cV3 gi_7_43 gk_34 go_8 (Nat.le_of_ble_eq_true rfl) gc_8_RIII ?_
  refine z_aload0 gi_8_0 ?_
  refine z_aload0 gi_8_1 ?_
  refine z_getI (v := 5) gi_8_2 gk_34 (zU_e) ?_
  refine z_iload1 gi_8_5 ?_
  refine z_iload2 gi_8_6 ?_
  refine z_iload3 gi_8_7 ?_
  refine z_callVi (As := [_, _, _, _]) (le := [some _, some _, some _, some _, some _, none, none]) gi_8_8 rfl gk_34 (Nat.le_of_ble_eq_true rfl) (Nat.le_of_ble_eq_true rfl) rfl ?_
  refine ah_5_2 (by decide) ?_
  refine z_aload0 gi_9_77 ?_
  refine z_iload6 gi_9_78 ?_
  refine z_callVx (As := [_]) gi_9_80 rfl rfl (Nat.le_of_ble_eq_true rfl) (Nat.le_of_ble_eq_true rfl) (bg_k (n := 0) (m := 1) hR ((zU_x (by decide)).trans ((zU_x (by decide)).trans (zU_e))) (by decide) (by decide)) ?_
  show zW _ _ _ _ _ _ _ _ _ _
  refine z_iload5 gi_9_83 ?_
  refine z_if_neT gi_9_85 zr_5 (by decide) ?_
  refine z_aload0 gi_9_100 ?_
  refine z_iload6 gi_9_101 ?_
  refine z_getS gi_9_103 ?_
  refine z_iload5 gi_9_106 ?_
  refine z_sald (j := 4) (n := 8) (v := 3) gi_9_108 (by decide) rfl (by decide) (by decide) rfl ?_
  refine z_iload3 gi_9_109 ?_
  refine z_iload4 gi_9_110 ?_
  refine z_pushJ gp_9_112 ?_
  refine z_iadd (e := 1) gi_9_113 rfl ?_
  refine z_callVi (As := [_, _, _, _]) (le := [some _, some _, some _, some _, some _, none, none]) gi_9_114 rfl gk_34 (Nat.le_of_ble_eq_true rfl) (Nat.le_of_ble_eq_true rfl) rfl ?_
  refine z_iload1 gi_12_0 ?_
  refine z_swI (tg := 151) gi_12_1 (by decide) (T := [((20 : Int), 92), ((30 : Int), 104), ((40 : Int), 115), ((41 : Int), 127), ((50 : Int), 139), ((60 : Int), 151), ((61 : Int), 174), ((70 : Int), 186), ((80 : Int), 198), ((81 : Int), 221)]) rfl (by decide) ?_
  refine z_aload0 gi_12_151 ?_
  refine z_iload2 gi_12_152 ?_
  refine z_pushJ gp_12_153 ?_
  refine z_iload3 gi_12_154 ?_
  refine z_iload4 gi_12_155 ?_
  refine z_callVi (As := [_, _, _, _]) (le := [some _, some _, some _, some _, some _, none, none]) gi_12_157 rfl gk_34 (Nat.le_of_ble_eq_true rfl) (Nat.le_of_ble_eq_true rfl) rfl ?_
  refine ah_3_2 (by decide) ?_
  refine z_aload0 gi_9_77 ?_
  refine z_iload6 gi_9_78 ?_
  refine z_callVx (As := [_]) gi_9_80 rfl rfl (Nat.le_of_ble_eq_true rfl) (Nat.le_of_ble_eq_true rfl) (bg_k (n := 1) (m := 2) hR (zU_e) (by decide) (by decide)) ?_
  show zW _ _ _ _ _ _ _ _ _ _
  refine z_iload5 gi_9_83 ?_
  refine z_if_neT gi_9_85 zr_3 (by decide) ?_
  refine z_aload0 gi_9_100 ?_
  refine z_iload6 gi_9_101 ?_
  refine z_getS gi_9_103 ?_
  refine z_iload5 gi_9_106 ?_
  refine z_sald (j := 4) (n := 8) (v := 2) gi_9_108 (by decide) rfl (by decide) (by decide) rfl ?_
  refine z_iload3 gi_9_109 ?_
  refine z_iload4 gi_9_110 ?_
  refine z_pushJ gp_9_112 ?_
  refine z_iadd (e := 2) gi_9_113 rfl ?_
  refine z_callVi (As := [_, _, _, _]) (le := [some _, some _, some _, some _, some _, none, none]) gi_9_114 rfl gk_34 (Nat.le_of_ble_eq_true rfl) (Nat.le_of_ble_eq_true rfl) rfl ?_
  refine z_iload1 gi_12_0 ?_
  refine z_swI (tg := 115) gi_12_1 (by decide) (T := [((20 : Int), 92), ((30 : Int), 104), ((40 : Int), 115), ((41 : Int), 127), ((50 : Int), 139), ((60 : Int), 151), ((61 : Int), 174), ((70 : Int), 186), ((80 : Int), 198), ((81 : Int), 221)]) rfl (by decide) ?_
  refine z_aload0 gi_12_115 ?_
  refine z_iload2 gi_12_116 ?_
  refine z_pushJ gp_12_117 ?_
  refine z_iload3 gi_12_118 ?_
  refine z_iload4 gi_12_119 ?_
  refine z_callVi (As := [_, _, _, _]) (le := [some _, some _, some _, some _, some _, none, none]) gi_12_121 rfl gk_34 (Nat.le_of_ble_eq_true rfl) (Nat.le_of_ble_eq_true rfl) rfl ?_
  refine ah_2_2 (by decide) ?_
  refine z_aload0 gi_9_77 ?_
  refine z_iload6 gi_9_78 ?_
  refine z_callVx (As := [_]) gi_9_80 rfl rfl (Nat.le_of_ble_eq_true rfl) (Nat.le_of_ble_eq_true rfl) (bg_k (n := 2) (m := 3) hR (zU_e) (by decide) (by decide)) ?_
  show zW _ _ _ _ _ _ _ _ _ _
  refine z_iload5 gi_9_83 ?_
  refine z_if_neF gi_9_85 zr_0 (by decide) ?_
  refine z_aload0 gi_9_88 ?_
  refine z_iload6 gi_9_89 ?_
  refine z_iload3 gi_9_91 ?_
  refine z_iload4 gi_9_92 ?_
  refine z_pushJ gp_9_94 ?_
  refine z_iadd (e := 3) gi_9_95 rfl ?_
  refine z_callVi (As := [_, _, _]) (le := [some _, some _, some _, some _, none]) gi_9_96 rfl gk_34 (Nat.le_of_ble_eq_true rfl) (Nat.le_of_ble_eq_true rfl) rfl ?_
  refine z_iload1 gi_11_0 ?_
  refine z_swI (tg := 81) gi_11_1 (by decide) (T := [((1 : Int), 44), ((2 : Int), 51), ((10 : Int), 71), ((11 : Int), 81)]) rfl (by decide) ?_
  refine z_iload2 gi_11_81 ?_
  refine z_aload0 gi_11_82 ?_
  refine z_getI (v := b) gi_11_83 gk_34 ((zU_x (by decide)).trans ((zU_n (by decide)).trans ((zU_x (by decide)).trans ((zU_n (by decide)).trans ((zU_x (by decide)).trans ((zU_n (by decide)).trans ((zU_x (by decide)).trans (zU_e)))))))) ?_
  refine z_ixor (e := zxor x b) gi_11_86 rfl ?_
  refine z_iret gi_11_87 gr_11 ?_
  show zW _ _ _ _ _ _ _ _ _ _
  refine z_iret gi_9_99 gr_9 ?_
  show zW _ _ _ _ _ _ _ _ _ _
  refine z_pushJ gp_12_124 ?_
  refine z_imul (e := (zxor x b) * 3) gi_12_125 rfl ?_
  refine z_iret gi_12_126 gr_12 ?_
  show zW _ _ _ _ _ _ _ _ _ _
  refine z_iret gi_9_117 gr_9 ?_
  show zW _ _ _ _ _ _ _ _ _ _
  refine z_istore (ls1 := [some (.ref 34), some (zi 60), some (zi 3), some (zi x), some (zi 1), some (zi ((zxor x b) * 3)), none]) gi_12_160 rfl ?_
  refine z_iload5 gi_12_162 ?_
  refine z_aload0 gi_12_164 ?_
  refine z_pushJ gp_12_165 ?_
  refine z_pushJ gp_12_166 ?_
  refine z_iload4 gi_12_167 ?_
  refine z_cV3 gi_12_169 gk_34 go_8 (Nat.le_of_ble_eq_true rfl) gc_8_RIII ?_
  refine z_aload0 gi_8_0 ?_
  refine z_aload0 gi_8_1 ?_
  refine z_getI (v := 5) gi_8_2 gk_34 ((zU_x (by decide)).trans ((zU_n (by decide)).trans ((zU_x (by decide)).trans ((zU_n (by decide)).trans ((zU_x (by decide)).trans ((zU_n (by decide)).trans (zU_e))))))) ?_
  refine z_iload1 gi_8_5 ?_
  refine z_iload2 gi_8_6 ?_
  refine z_iload3 gi_8_7 ?_
  refine z_callVi (As := [_, _, _, _]) (le := [some _, some _, some _, some _, some _, none, none]) gi_8_8 rfl gk_34 (Nat.le_of_ble_eq_true rfl) (Nat.le_of_ble_eq_true rfl) rfl ?_
  refine ah_5_0 (by decide) ?_
  refine z_aload0 gi_9_77 ?_
  refine z_iload6 gi_9_78 ?_
  refine z_callVx (As := [_]) gi_9_80 rfl rfl (Nat.le_of_ble_eq_true rfl) (Nat.le_of_ble_eq_true rfl) (bg_k (n := 3) (m := 4) hR (zU_e) (by decide) (by decide)) ?_
  show zW _ _ _ _ _ _ _ _ _ _
  refine z_iload5 gi_9_83 ?_
  refine z_if_neF gi_9_85 zr_0 (by decide) ?_
  refine z_aload0 gi_9_88 ?_
  refine z_iload6 gi_9_89 ?_
  refine z_iload3 gi_9_91 ?_
  refine z_iload4 gi_9_92 ?_
  refine z_pushJ gp_9_94 ?_
  refine z_iadd (e := 2) gi_9_95 rfl ?_
  refine z_callVi (As := [_, _, _]) (le := [some _, some _, some _, some _, none]) gi_9_96 rfl gk_34 (Nat.le_of_ble_eq_true rfl) (Nat.le_of_ble_eq_true rfl) rfl ?_
  refine z_iload1 gi_11_0 ?_
  refine z_swI (tg := 44) gi_11_1 (by decide) (T := [((1 : Int), 44), ((2 : Int), 51), ((10 : Int), 71), ((11 : Int), 81)]) rfl (by decide) ?_
  refine z_iload2 gi_11_44 ?_
  refine z_aload0 gi_11_45 ?_
  refine z_getI (v := b) gi_11_46 gk_34 ((zU_x (by decide)).trans ((zU_n (by decide)).trans ((zU_x (by decide)).trans ((zU_n (by decide)).trans ((zU_x (by decide)).trans ((zU_n (by decide)).trans ((zU_x (by decide)).trans ((zU_n (by decide)).trans ((zU_x (by decide)).trans (zU_e)))))))))) ?_
  refine z_iadd (e := 2 + b) gi_11_49 rfl ?_
  refine z_iret gi_11_50 gr_11 ?_
  show zW _ _ _ _ _ _ _ _ _ _
  refine z_iret gi_9_99 gr_9 ?_
  show zW _ _ _ _ _ _ _ _ _ _
  refine z_iret gi_8_11 gr_8 ?_
  show zW _ _ _ _ _ _ _ _ _ _
  refine z_isub (e := (zxor x b) * 3 - (2 + b)) gi_12_172 rfl ?_
  refine z_iret gi_12_173 gr_12 ?_
  show zW _ _ _ _ _ _ _ _ _ _
  refine z_iret gi_9_117 gr_9 ?_
  show zW _ _ _ _ _ _ _ _ _ _
  refine z_iret gi_8_11 gr_8 ?_
  show zW _ _ _ _ _ _ _ _ _ _
  refine z_iret gi_7_46 gr_7 ?_
  show zW _ _ _ _ _ _ _ _ _ _
  refine z_iret gi_134_10 gr_134 ?_
  refine ⟨_, rfl, ?_⟩
  show zW _ _ _ _ [some (.ref 50), some (zi b), some (zi 2), some (zi x)] _ _ _ _ _
  refine z_aload0 gi_246_0 ?_
  refine z_pushJ gp_246_1 ?_
  refine z_putI (y := 56) gi_246_2 rfl gk_50 ?_
  refine z_aload0 gi_246_5 ?_
  refine z_iload1 gi_246_6 ?_
  refine z_cV1 gi_246_7 gk_50 go_230 (Nat.le_of_ble_eq_true rfl) gc_230_RI ?_
  refine z_iload1 gi_230_0 ?_
  refine z_pushJ gp_230_1 ?_
  refine z_aload0 gi_230_2 ?_
  refine z_getI (v := J 34 1) gi_230_3 gk_50 ((zU_x (by decide)).trans ((zU_n (by decide)).trans ((zU_n (by decide)).trans ((zU_n (by decide)).trans ((zU_n (by decide)).trans ((zU_n (by decide)).trans ((zU_n (by decide)).trans ((zU_n (by decide)).trans ((zU_n (by decide)).trans ((zU_n (by decide)).trans ((zU_n (by decide)).trans ((zU_n (by decide)).trans (a1.symm))))))))))))) ?_
  refine z_pushJ gp_230_6 ?_
  refine z_isub (e := (J 34 1) - 1) gi_230_7 rfl ?_
  refine z_cS3 gi_230_8 (Nat.le_of_ble_eq_true rfl) gc_148_III ?_
  refine z_iload0 gi_148_0 ?_
  refine z_iload1 gi_148_1 ?_
  refine z_icmp_ltF gi_148_2 (by omega) zr_0 (by omega) ?_
  refine z_iload0 gi_148_5 ?_
  refine z_iload2 gi_148_6 ?_
  refine z_icmp_gtF gi_148_7 (by omega) (by omega) (by omega) ?_
  refine z_pushJ gp_148_10 ?_
  refine z_goto gi_148_11 ?_
  refine z_bret1 gi_148_15 gr_148 ?_
  show zW _ _ _ _ _ _ _ _ _ _
  refine z_bret1 gi_230_11 gr_230 ?_
  show zW _ _ _ _ _ _ _ _ _ _
  refine z_if_eqF gi_246_10 zr_1 (by decide) ?_
  refine z_iload2 gi_246_13 ?_
  refine z_pushJ gp_246_14 ?_
  refine z_pushJ gp_246_15 ?_
  refine z_cS3 gi_246_16 (Nat.le_of_ble_eq_true rfl) gc_148_III ?_
  refine z_iload0 gi_148_0 ?_
  refine z_iload1 gi_148_1 ?_
  refine z_icmp_ltF gi_148_2 zr_2 zr_0 (by decide) ?_
  refine z_iload0 gi_148_5 ?_
  refine z_iload2 gi_148_6 ?_
  refine z_icmp_gtF gi_148_7 zr_2 zr_3 (by decide) ?_
  refine z_pushJ gp_148_10 ?_
  refine z_goto gi_148_11 ?_
  refine z_bret1 gi_148_15 gr_148 ?_
  show zW _ _ _ _ _ _ _ _ _ _
  refine z_if_neT gi_246_19 zr_1 (by decide) ?_
  refine z_iload2 gi_246_24 ?_
  refine z_if_neT gi_246_25 zr_2 (by decide) ?_
  refine z_iload2 gi_246_37 ?_
  refine z_pushJ gp_246_38 ?_
  refine z_icmp_neT gi_246_39 zr_2 zr_1 (by decide) ?_
  refine z_iload2 gi_246_51 ?_
  refine z_pushJ gp_246_52 ?_
  refine z_icmp_neF gi_246_53 zr_2 zr_2 (by decide) ?_
  refine z_aload0 gi_246_56 ?_
  refine z_iload1 gi_246_57 ?_
  refine z_iload3 gi_246_58 ?_
  refine z_callVi (As := [_, _]) (le := [some _, some _, some _, none]) gi_246_59 rfl gk_50 (Nat.le_of_ble_eq_true rfl) (Nat.le_of_ble_eq_true rfl) rfl ?_
  refine z_aload0 gi_243_0 ?_
  refine z_getR (r := 81) gi_243_1 gk_50 (hRr _ rm_50_55 (by decide)) ?_
  refine z_iload1 gi_243_4 ?_
  refine z_iald (v := 5) gi_243_5 gk_81 (by decide) (by omega) ((zU_n (by decide)).trans ((zU_n (by decide)).trans ((zU_n (by decide)).trans ((zU_n (by decide)).trans ((zU_n (by decide)).trans ((zU_n (by decide)).trans ((zU_n (by decide)).trans ((zU_n (by decide)).trans ((zU_n (by decide)).trans ((zU_n (by decide)).trans ((zU_n (by decide)).trans ((zU_n (by decide)).trans ((a5 _ hb1.1 hb1.2).1.symm.trans hk))))))))))))) ?_
  refine z_pushJ gp_243_6 ?_
  refine z_icmp_neF gi_243_7 zr_5 zr_5 (by decide) ?_
  refine z_aload0 gi_243_10 ?_
  refine z_pushJ gp_243_11 ?_
  refine z_callVx (As := [_]) gi_243_13 rfl rfl (Nat.le_of_ble_eq_true rfl) (Nat.le_of_ble_eq_true rfl) (rn_k (n := 0) (m := 1) hRr (zU_e) (by decide) (by decide)) ?_
  show zW _ _ _ _ _ _ _ _ _ _
  refine z_aload0 gi_243_16 ?_
  refine z_iload1 gi_243_17 ?_
  refine z_iload2 gi_243_18 ?_
  refine z_cV2 gi_243_19 gk_50 go_242 (Nat.le_of_ble_eq_true rfl) gc_242_RII ?_
  refine z_aload0 gi_242_0 ?_
  refine z_pushJ gp_242_1 ?_
  refine z_callVx (As := [_]) gi_242_3 rfl rfl (Nat.le_of_ble_eq_true rfl) (Nat.le_of_ble_eq_true rfl) (rn_k (n := 1) (m := 2) hRr (zU_e) (by decide) (by decide)) ?_
  show zW _ _ _ _ _ _ _ _ _ _
  refine z_aload0 gi_242_6 ?_
  refine z_iload1 gi_242_7 ?_
  refine z_iload2 gi_242_8 ?_
  refine z_cV2 gi_242_9 gk_50 go_241 (Nat.le_of_ble_eq_true rfl) gc_241_RII ?_
  refine z_aload0 gi_241_0 ?_
  refine z_pushJ gp_241_1 ?_
  refine z_callVx (As := [_]) gi_241_3 rfl rfl (Nat.le_of_ble_eq_true rfl) (Nat.le_of_ble_eq_true rfl) (rn_k (n := 2) (m := 3) hRr (zU_e) (by decide) (by decide)) ?_
  show zW _ _ _ _ _ _ _ _ _ _
  refine z_iload2 gi_241_6 ?_
  refine z_iload1 gi_241_7 ?_
  refine z_ixor (e := zxor x b) gi_241_8 rfl ?_
  refine z_iret gi_241_9 gr_241 ?_
  show zW _ _ _ _ _ _ _ _ _ _
  refine z_pushJ gp_242_12 ?_
  refine z_imul (e := (zxor x b) * 3) gi_242_13 rfl ?_
  refine z_iret gi_242_14 gr_242 ?_
  show zW _ _ _ _ _ _ _ _ _ _
  refine z_istore (ls1 := [some (.ref 50), some (zi b), some (zi x), some (zi ((zxor x b) * 3))]) gi_243_22 rfl ?_
  refine z_iload3 gi_243_23 ?_
  refine z_aload0 gi_243_24 ?_
  refine z_iload1 gi_243_25 ?_
  refine z_pushJ gp_243_26 ?_
  refine z_cV2 gi_243_27 gk_50 go_237 (Nat.le_of_ble_eq_true rfl) gc_237_RII ?_
  refine z_aload0 gi_237_0 ?_
  refine z_getR (r := 81) gi_237_1 gk_50 (hRr _ rm_50_55 (by decide)) ?_
  refine z_iload1 gi_237_4 ?_
  refine z_iald (v := 5) gi_237_5 gk_81 (by decide) (by omega) ((zU_n (by decide)).trans ((zU_n (by decide)).trans ((zU_n (by decide)).trans ((zU_n (by decide)).trans ((zU_n (by decide)).trans ((zU_n (by decide)).trans ((zU_n (by decide)).trans ((zU_n (by decide)).trans ((zU_n (by decide)).trans ((zU_n (by decide)).trans ((zU_n (by decide)).trans ((zU_n (by decide)).trans ((zU_n (by decide)).trans ((zU_n (by decide)).trans ((zU_n (by decide)).trans ((zU_n (by decide)).trans ((zU_n (by decide)).trans ((zU_n (by decide)).trans ((a5 _ hb1.1 hb1.2).1.symm.trans hk))))))))))))))))))) ?_
  refine z_pushJ gp_237_6 ?_
  refine z_callSP (As := [_, _]) (v := 0) gi_237_7 rfl (Nat.le_of_ble_eq_true rfl) (Nat.le_of_ble_eq_true rfl) iu_5_1 ?_
  refine z_if_eqT gi_237_10 zr_0 (by decide) ?_
  refine z_aload0 gi_237_28 ?_
  refine z_getR (r := 81) gi_237_29 gk_50 (hRr _ rm_50_55 (by decide)) ?_
  refine z_iload1 gi_237_32 ?_
  refine z_iald (v := 5) gi_237_33 gk_81 (by decide) (by omega) ((zU_n (by decide)).trans ((zU_n (by decide)).trans ((zU_n (by decide)).trans ((zU_n (by decide)).trans ((zU_n (by decide)).trans ((zU_n (by decide)).trans ((zU_n (by decide)).trans ((zU_n (by decide)).trans ((zU_n (by decide)).trans ((zU_n (by decide)).trans ((zU_n (by decide)).trans ((zU_n (by decide)).trans ((zU_n (by decide)).trans ((zU_n (by decide)).trans ((zU_n (by decide)).trans ((zU_n (by decide)).trans ((zU_n (by decide)).trans ((zU_n (by decide)).trans ((a5 _ hb1.1 hb1.2).1.symm.trans hk))))))))))))))))))) ?_
  refine z_pushJ gp_237_34 ?_
  refine z_icmp_neT gi_237_36 zr_5 zr_7 (by decide) ?_
  refine z_aload0 gi_237_54 ?_
  refine z_getR (r := 81) gi_237_55 gk_50 (hRr _ rm_50_55 (by decide)) ?_
  refine z_iload1 gi_237_58 ?_
  refine z_iald (v := 5) gi_237_59 gk_81 (by decide) (by omega) ((zU_n (by decide)).trans ((zU_n (by decide)).trans ((zU_n (by decide)).trans ((zU_n (by decide)).trans ((zU_n (by decide)).trans ((zU_n (by decide)).trans ((zU_n (by decide)).trans ((zU_n (by decide)).trans ((zU_n (by decide)).trans ((zU_n (by decide)).trans ((zU_n (by decide)).trans ((zU_n (by decide)).trans ((zU_n (by decide)).trans ((zU_n (by decide)).trans ((zU_n (by decide)).trans ((zU_n (by decide)).trans ((zU_n (by decide)).trans ((zU_n (by decide)).trans ((a5 _ hb1.1 hb1.2).1.symm.trans hk))))))))))))))))))) ?_
  refine z_pushJ gp_237_60 ?_
  refine z_icmp_neT gi_237_62 zr_5 zr_6 (by decide) ?_
  refine z_aload0 gi_237_74 ?_
  refine z_iload1 gi_237_75 ?_
  refine z_iload2 gi_237_76 ?_
  refine z_cV2 gi_237_77 gk_50 go_235 (Nat.le_of_ble_eq_true rfl) gc_235_RII ?_
  refine z_aload0 gi_235_0 ?_
  refine z_pushJ gp_235_1 ?_
  refine z_callVx (As := [_]) gi_235_2 rfl rfl (Nat.le_of_ble_eq_true rfl) (Nat.le_of_ble_eq_true rfl) (rn_k (n := 3) (m := 4) hRr (zU_e) (by decide) (by decide)) ?_
  show zW _ _ _ _ _ _ _ _ _ _
  refine z_iload2 gi_235_5 ?_
  refine z_iload1 gi_235_6 ?_
  refine z_iadd (e := 2 + b) gi_235_7 rfl ?_
  refine z_iret gi_235_8 gr_235 ?_
  show zW _ _ _ _ _ _ _ _ _ _
  refine z_iret gi_237_80 gr_237 ?_
  show zW _ _ _ _ _ _ _ _ _ _
  refine z_isub (e := (zxor x b) * 3 - (2 + b)) gi_243_30 rfl ?_
  refine z_iret gi_243_31 gr_243 ?_
  show zW _ _ _ _ _ _ _ _ _ _
  refine z_goto gi_246_62 ?_
  refine z_iret gi_246_71 gr_246 ?_
  refine ⟨?_, ?_⟩
  · rfl
  · have hk := (zK_x (a := 50) (x := 56) (v := 4) (zK_x (a := 82) (x := 3) (v := 1) (zK_x (a := 50) (x := 56) (v := 3) (zK_x (a := 82) (x := 2) (v := 11) (zK_x (a := 50) (x := 56) (v := 2) (zK_x (a := 82) (x := 1) (v := 40) (zK_x (a := 50) (x := 56) (v := 1) (zK_x (a := 82) (x := 0) (v := 60) (zK_x (a := 50) (x := 56) (v := 0) (zK_x (a := 34) (x := 3) (v := 4) (zK_x (a := 36) (x := 3) (v := 1) (zK_x (a := 34) (x := 3) (v := 3) (zK_x (a := 36) (x := 2) (v := 11) (zK_x (a := 34) (x := 3) (v := 2) (zK_x (a := 36) (x := 1) (v := 40) (zK_x (a := 34) (x := 3) (v := 1) (zK_x (a := 36) (x := 0) (v := 60) (zK_x (a := 34) (x := 5) (v := 5) (zK_x (a := 34) (x := 4) (v := b) (zK_x (a := 34) (x := 3) (v := 0) (zK_r (k := (kL [] [(34, 3), (34, 4), (34, 5), (36, 0), (36, 1), (36, 2), (36, 3), (50, 56), (82, 0), (82, 1), (82, 2), (82, 3)])) (A := J)) rfl) rfl) rfl) rfl) rfl) rfl) rfl) rfl) rfl) rfl) rfl) rfl) rfl) rfl) rfl) rfl) rfl) rfl) rfl) rfl)
    exact ⟨hR, hG, RelY_k hk (by repeat' constructor) (fun p => by repeat' constructor) hY, RelD_k hk (by repeat' constructor) (fun p => by repeat' constructor) hD, RelP_k hk (by repeat' constructor) (fun p => by repeat' constructor) hP, RelC_k hk (by repeat' constructor) (fun p => by repeat' constructor) hC, ⟨(show J 34 1 = J 50 54 from a1), (show 0 ≤ J 34 1 ∧ J 34 1 ≤ 50 from a2), rfl, (show (0 : Int) ≤ 4 ∧ (4 : Int) ≤ 1000 from by decide), (fun i i1 i2 => a5 i i1 i2), (fun i i1 i2 _ => by have i3 : i < 4 := i2; have q : i = 0 ∨ i = 1 ∨ i = 2 ∨ i = 3 := (by omega); rcases q with rfl | rfl | rfl | rfl <;> rfl)⟩, RelS_k hk (zK_r (k := kM)) (fun x j a b => ⟨kL_38 (by decide) (by decide) x j a b, kM_38 x j a b⟩) (fun p => ⟨rfl, rfl, rfl⟩) rfl hS, RelT_k hk (by repeat' constructor) (fun p => by repeat' constructor) hTp, RelX_k hk (by repeat' constructor) (fun p => by repeat' constructor) hX, RelW_k hk ⟨rfl, rfl⟩ trivial hW⟩
theorem st_act_53 {X : Nat × (Nat → Int32)} {d : Nat} {J M : zA} {R : zR} {b x : Int} (hr : Rel X J M R) (hb : -2147483648 ≤ b ∧ b < 2147483648) (hx : -2147483648 ≤ x ∧ x < 2147483648) (hb1 : 0 ≤ b ∧ b < J 34 1) (hk : J 35 b = 5) : zW X (d + 20) 134 0 (gEn 134 [(.ref 0), (zi b), (zi 3), (zi x)]) [] J M R (stP X (d + 20) 246 [(zi b), (zi 3), (zi x)]) := by
  have hr0 := hr
  obtain ⟨hR, hG, hY, hD, hP, hC, hAc, hS, hTp, hX, hW⟩ := hr0
  have hRr : zRoR R := zRoR_of hR
  have hA0 := hAc
  obtain ⟨a1, a2, a3, a4, a5, a6⟩ := hA0
  show zW _ _ _ _ [some (.ref 0), some (zi b), some (zi 3), some (zi x)] _ _ _ _ _
  refine z_aload0 gi_134_0 ?_
  refine z_getR (r := 34) gi_134_1 gk_0 (hR _ rm_0_10) ?_
  refine z_iload1 gi_134_4 ?_
  refine z_iload2 gi_134_5 ?_
  refine z_iload3 gi_134_6 ?_
  refine z_cV3 gi_134_7 gk_34 go_7 (Nat.le_of_ble_eq_true rfl) gc_7_RIII ?_
  refine z_aload0 gi_7_0 ?_
  refine z_pushJ gp_7_1 ?_
  refine z_putI (y := 3) gi_7_2 rfl gk_34 ?_
  refine z_aload0 gi_7_5 ?_
  refine z_iload1 gi_7_6 ?_
  refine z_cV1 gi_7_7 gk_34 go_3 (Nat.le_of_ble_eq_true rfl) gc_3_RI ?_
  refine z_iload1 gi_3_0 ?_
  refine z_if_ltF gi_3_1 (by omega) (by omega) ?_
  refine z_iload1 gi_3_4 ?_
  refine z_aload0 gi_3_5 ?_
  refine z_getI (v := J 34 1) gi_3_6 gk_34 ((zU_x (by decide)).trans (rfl)) ?_
  refine z_icmp_geF gi_3_9 (by omega) (by omega) (by omega) ?_
  refine z_pushJ gp_3_12 ?_
  refine z_goto gi_3_13 ?_
  refine z_bret1 gi_3_17 gr_3 ?_
  show zW _ _ _ _ _ _ _ _ _ _
  refine z_if_eqF gi_7_10 zr_1 (by decide) ?_
  refine z_iload2 gi_7_13 ?_
  refine z_if_ltF gi_7_14 zr_3 (by decide) ?_
  refine z_iload2 gi_7_17 ?_
  refine z_pushJ gp_7_18 ?_
  refine z_icmp_ltT gi_7_19 zr_3 zr_4 (by decide) ?_
  refine z_aload0 gi_7_24 ?_
  refine z_iload1 gi_7_25 ?_
  refine z_putI (y := 4) gi_7_26 rfl gk_34 ?_
  refine z_aload0 gi_7_29 ?_
  refine z_aload0 gi_7_30 ?_
  refine z_getR (r := 35) gi_7_31 gk_34 (hR _ rm_34_0) ?_
  refine z_iload1 gi_7_34 ?_
  refine z_iald (v := 5) gi_7_35 gk_35 (by decide) (by omega) ((zU_n (by decide)).trans ((zU_n (by decide)).trans (hk))) ?_
  refine z_putI (y := 5) gi_7_36 rfl gk_34 ?_
  refine z_aload0 gi_7_39 ?_
  refine z_iload2 gi_7_40 ?_
  refine z_iload3 gi_7_41 ?_
  refine z_pushJ gp_7_42 ?_
  refine z_cV3 gi_7_43 gk_34 go_8 (Nat.le_of_ble_eq_true rfl) gc_8_RIII ?_
  refine z_aload0 gi_8_0 ?_
  refine z_aload0 gi_8_1 ?_
  refine z_getI (v := 5) gi_8_2 gk_34 (zU_e) ?_
  refine z_iload1 gi_8_5 ?_
  refine z_iload2 gi_8_6 ?_
  refine z_iload3 gi_8_7 ?_
  refine z_callVi (As := [_, _, _, _]) (le := [some _, some _, some _, some _, some _, none, none]) gi_8_8 rfl gk_34 (Nat.le_of_ble_eq_true rfl) (Nat.le_of_ble_eq_true rfl) rfl ?_
  refine ah_5_3 (by decide) ?_
  refine z_aload0 gi_9_77 ?_
  refine z_iload6 gi_9_78 ?_
  refine z_callVx (As := [_]) gi_9_80 rfl rfl (Nat.le_of_ble_eq_true rfl) (Nat.le_of_ble_eq_true rfl) (bg_k (n := 0) (m := 1) hR ((zU_x (by decide)).trans ((zU_x (by decide)).trans (zU_e))) (by decide) (by decide)) ?_
  show zW _ _ _ _ _ _ _ _ _ _
  refine z_iload5 gi_9_83 ?_
  refine z_if_neT gi_9_85 zr_5 (by decide) ?_
  refine z_aload0 gi_9_100 ?_
  refine z_iload6 gi_9_101 ?_
  refine z_getS gi_9_103 ?_
  refine z_iload5 gi_9_106 ?_
  refine z_sald (j := 4) (n := 8) (v := 3) gi_9_108 (by decide) rfl (by decide) (by decide) rfl ?_
  refine z_iload3 gi_9_109 ?_
  refine z_iload4 gi_9_110 ?_
  refine z_pushJ gp_9_112 ?_
  refine z_iadd (e := 1) gi_9_113 rfl ?_
  refine z_callVi (As := [_, _, _, _]) (le := [some _, some _, some _, some _, some _, none, none]) gi_9_114 rfl gk_34 (Nat.le_of_ble_eq_true rfl) (Nat.le_of_ble_eq_true rfl) rfl ?_
  refine z_iload1 gi_12_0 ?_
  refine z_swI (tg := 174) gi_12_1 (by decide) (T := [((20 : Int), 92), ((30 : Int), 104), ((40 : Int), 115), ((41 : Int), 127), ((50 : Int), 139), ((60 : Int), 151), ((61 : Int), 174), ((70 : Int), 186), ((80 : Int), 198), ((81 : Int), 221)]) rfl (by decide) ?_
  refine z_aload0 rfl ?_
  refine z_iload2 rfl ?_
  refine z_pushJ gp_12_176 ?_
  refine z_iload3 rfl ?_
  refine z_iload4 rfl ?_
  refine z_callVi (As := [_, _, _, _]) (le := [some _, some _, some _, some _, some _, none, none]) rfl rfl gk_34 (Nat.le_of_ble_eq_true rfl) (Nat.le_of_ble_eq_true rfl) rfl ?_
  refine ah_3_3 (by decide) ?_
  refine z_aload0 gi_9_77 ?_
  refine z_iload6 gi_9_78 ?_
  refine z_callVx (As := [_]) gi_9_80 rfl rfl (Nat.le_of_ble_eq_true rfl) (Nat.le_of_ble_eq_true rfl) (bg_k (n := 1) (m := 2) hR (zU_e) (by decide) (by decide)) ?_
  show zW _ _ _ _ _ _ _ _ _ _
  refine z_iload5 gi_9_83 ?_
  refine z_if_neF gi_9_85 zr_0 (by decide) ?_
  refine z_aload0 gi_9_88 ?_
  refine z_iload6 gi_9_89 ?_
  refine z_iload3 gi_9_91 ?_
  refine z_iload4 gi_9_92 ?_
  refine z_pushJ gp_9_94 ?_
  refine z_iadd (e := 2) gi_9_95 rfl ?_
  refine z_callVi (As := [_, _, _]) (le := [some _, some _, some _, some _, none]) gi_9_96 rfl gk_34 (Nat.le_of_ble_eq_true rfl) (Nat.le_of_ble_eq_true rfl) rfl ?_
  refine z_iload1 gi_11_0 ?_
  refine z_swI (tg := 51) gi_11_1 (by decide) (T := [((1 : Int), 44), ((2 : Int), 51), ((10 : Int), 71), ((11 : Int), 81)]) rfl (by decide) ?_
  refine z_aload0 gi_11_51 ?_
  refine z_pushJ gp_11_52 ?_
  refine z_iload2 gi_11_53 ?_
  refine z_iload3 gi_11_54 ?_
  refine z_cV3 gi_11_55 gk_34 go_8 (Nat.le_of_ble_eq_true rfl) gc_8_RIII ?_
  refine z_aload0 gi_8_0 ?_
  refine z_aload0 gi_8_1 ?_
  refine z_getI (v := 5) gi_8_2 gk_34 ((zU_x (by decide)).trans ((zU_n (by decide)).trans ((zU_x (by decide)).trans ((zU_n (by decide)).trans (zU_e))))) ?_
  refine z_iload1 gi_8_5 ?_
  refine z_iload2 gi_8_6 ?_
  refine z_iload3 gi_8_7 ?_
  refine z_callVi (As := [_, _, _, _]) (le := [some _, some _, some _, some _, some _, none, none]) gi_8_8 rfl gk_34 (Nat.le_of_ble_eq_true rfl) (Nat.le_of_ble_eq_true rfl) rfl ?_
  refine ah_5_1 (by decide) ?_
  refine z_aload0 gi_9_77 ?_
  refine z_iload6 gi_9_78 ?_
  refine z_callVx (As := [_]) gi_9_80 rfl rfl (Nat.le_of_ble_eq_true rfl) (Nat.le_of_ble_eq_true rfl) (bg_k (n := 2) (m := 3) hR (zU_e) (by decide) (by decide)) ?_
  show zW _ _ _ _ _ _ _ _ _ _
  refine z_iload5 gi_9_83 ?_
  refine z_if_neT gi_9_85 zr_3 (by decide) ?_
  refine z_aload0 gi_9_100 ?_
  refine z_iload6 gi_9_101 ?_
  refine z_getS gi_9_103 ?_
  refine z_iload5 gi_9_106 ?_
  refine z_sald (j := 4) (n := 8) (v := 2) gi_9_108 (by decide) rfl (by decide) (by decide) rfl ?_
  refine z_iload3 gi_9_109 ?_
  refine z_iload4 gi_9_110 ?_
  refine z_pushJ gp_9_112 ?_
  refine z_iadd (e := 3) gi_9_113 rfl ?_
  refine z_callVi (As := [_, _, _, _]) (le := [some _, some _, some _, some _, some _, none, none]) gi_9_114 rfl gk_34 (Nat.le_of_ble_eq_true rfl) (Nat.le_of_ble_eq_true rfl) rfl ?_
  refine z_iload1 gi_12_0 ?_
  refine z_swI (tg := 127) gi_12_1 (by decide) (T := [((20 : Int), 92), ((30 : Int), 104), ((40 : Int), 115), ((41 : Int), 127), ((50 : Int), 139), ((60 : Int), 151), ((61 : Int), 174), ((70 : Int), 186), ((80 : Int), 198), ((81 : Int), 221)]) rfl (by decide) ?_
  refine z_aload0 gi_12_127 ?_
  refine z_iload2 gi_12_128 ?_
  refine z_pushJ gp_12_129 ?_
  refine z_iload3 gi_12_130 ?_
  refine z_pushJ gp_12_131 ?_
  refine z_iadd (e := x + 1) gi_12_132 rfl ?_
  refine z_iload4 gi_12_133 ?_
  refine z_callVi (As := [_, _, _, _]) (le := [some _, some _, some _, some _, some _, none, none]) gi_12_135 rfl gk_34 (Nat.le_of_ble_eq_true rfl) (Nat.le_of_ble_eq_true rfl) rfl ?_
  refine ah_2_1 (by decide) ?_
  refine z_aload0 gi_9_77 ?_
  refine z_iload6 gi_9_78 ?_
  refine z_callVx (As := [_]) gi_9_80 rfl rfl (Nat.le_of_ble_eq_true rfl) (Nat.le_of_ble_eq_true rfl) (bg_k (n := 3) (m := 4) hR (zU_e) (by decide) (by decide)) ?_
  show zW _ _ _ _ _ _ _ _ _ _
  refine z_iload5 gi_9_83 ?_
  refine z_if_neT gi_9_85 zr_2 (by decide) ?_
  refine z_aload0 gi_9_100 ?_
  refine z_iload6 gi_9_101 ?_
  refine z_getS gi_9_103 ?_
  refine z_iload5 gi_9_106 ?_
  refine z_sald (j := 4) (n := 8) (v := 0) gi_9_108 (by decide) rfl (by decide) (by decide) rfl ?_
  refine z_iload3 gi_9_109 ?_
  refine z_iload4 gi_9_110 ?_
  refine z_pushJ gp_9_112 ?_
  refine z_iadd (e := 4) gi_9_113 rfl ?_
  refine z_callVi (As := [_, _, _, _]) (le := [some _, some _, some _, some _, some _, none, none]) gi_9_114 rfl gk_34 (Nat.le_of_ble_eq_true rfl) (Nat.le_of_ble_eq_true rfl) rfl ?_
  refine z_iload1 gi_12_0 ?_
  refine z_swI (tg := 104) gi_12_1 (by decide) (T := [((20 : Int), 92), ((30 : Int), 104), ((40 : Int), 115), ((41 : Int), 127), ((50 : Int), 139), ((60 : Int), 151), ((61 : Int), 174), ((70 : Int), 186), ((80 : Int), 198), ((81 : Int), 221)]) rfl (by decide) ?_
  refine z_aload0 gi_12_104 ?_
  refine z_iload2 gi_12_105 ?_
  refine z_pushJ gp_12_106 ?_
  refine z_iload3 gi_12_107 ?_
  refine z_iload4 gi_12_108 ?_
  refine z_callVi (As := [_, _, _, _]) (le := [some _, some _, some _, some _, some _, none, none]) gi_12_110 rfl gk_34 (Nat.le_of_ble_eq_true rfl) (Nat.le_of_ble_eq_true rfl) rfl ?_
  refine ah_0_1 (by decide) ?_
  refine z_aload0 gi_9_77 ?_
  refine z_iload6 gi_9_78 ?_
  refine z_callVx (As := [_]) gi_9_80 rfl rfl (Nat.le_of_ble_eq_true rfl) (Nat.le_of_ble_eq_true rfl) (bg_k (n := 4) (m := 5) hR (zU_e) (by decide) (by decide)) ?_
  show zW _ _ _ _ _ _ _ _ _ _
  refine z_iload5 gi_9_83 ?_
  refine z_if_neF gi_9_85 zr_0 (by decide) ?_
  refine z_aload0 gi_9_88 ?_
  refine z_iload6 gi_9_89 ?_
  refine z_iload3 gi_9_91 ?_
  refine z_iload4 gi_9_92 ?_
  refine z_pushJ gp_9_94 ?_
  refine z_iadd (e := 5) gi_9_95 rfl ?_
  refine z_callVi (As := [_, _, _]) (le := [some _, some _, some _, some _, none]) gi_9_96 rfl gk_34 (Nat.le_of_ble_eq_true rfl) (Nat.le_of_ble_eq_true rfl) rfl ?_
  refine z_iload1 gi_11_0 ?_
  refine z_swI (tg := 71) gi_11_1 (by decide) (T := [((1 : Int), 44), ((2 : Int), 51), ((10 : Int), 71), ((11 : Int), 81)]) rfl (by decide) ?_
  refine z_aload0 gi_11_71 ?_
  refine z_pushJ gp_11_72 ?_
  refine z_iload2 gi_11_73 ?_
  refine z_iload3 gi_11_74 ?_
  refine z_cV3 gi_11_75 gk_34 go_8 (Nat.le_of_ble_eq_true rfl) gc_8_RIII ?_
  refine z_aload0 gi_8_0 ?_
  refine z_aload0 gi_8_1 ?_
  refine z_getI (v := 5) gi_8_2 gk_34 ((zU_x (by decide)).trans ((zU_n (by decide)).trans ((zU_x (by decide)).trans ((zU_n (by decide)).trans ((zU_x (by decide)).trans ((zU_n (by decide)).trans ((zU_x (by decide)).trans ((zU_n (by decide)).trans ((zU_x (by decide)).trans ((zU_n (by decide)).trans (zU_e))))))))))) ?_
  refine z_iload1 gi_8_5 ?_
  refine z_iload2 gi_8_6 ?_
  refine z_iload3 gi_8_7 ?_
  refine z_callVi (As := [_, _, _, _]) (le := [some _, some _, some _, some _, some _, none, none]) gi_8_8 rfl gk_34 (Nat.le_of_ble_eq_true rfl) (Nat.le_of_ble_eq_true rfl) rfl ?_
  refine ah_5_0 (by decide) ?_
  refine z_aload0 gi_9_77 ?_
  refine z_iload6 gi_9_78 ?_
  refine z_callVx (As := [_]) gi_9_80 rfl rfl (Nat.le_of_ble_eq_true rfl) (Nat.le_of_ble_eq_true rfl) (bg_k (n := 5) (m := 6) hR (zU_e) (by decide) (by decide)) ?_
  show zW _ _ _ _ _ _ _ _ _ _
  refine z_iload5 gi_9_83 ?_
  refine z_if_neF gi_9_85 zr_0 (by decide) ?_
  refine z_aload0 gi_9_88 ?_
  refine z_iload6 gi_9_89 ?_
  refine z_iload3 gi_9_91 ?_
  refine z_iload4 gi_9_92 ?_
  refine z_pushJ gp_9_94 ?_
  refine z_iadd (e := 6) gi_9_95 rfl ?_
  refine z_callVi (As := [_, _, _]) (le := [some _, some _, some _, some _, none]) gi_9_96 rfl gk_34 (Nat.le_of_ble_eq_true rfl) (Nat.le_of_ble_eq_true rfl) rfl ?_
  refine z_iload1 gi_11_0 ?_
  refine z_swI (tg := 44) gi_11_1 (by decide) (T := [((1 : Int), 44), ((2 : Int), 51), ((10 : Int), 71), ((11 : Int), 81)]) rfl (by decide) ?_
  refine z_iload2 gi_11_44 ?_
  refine z_aload0 gi_11_45 ?_
  refine z_getI (v := b) gi_11_46 gk_34 ((zU_x (by decide)).trans ((zU_n (by decide)).trans ((zU_x (by decide)).trans ((zU_n (by decide)).trans ((zU_x (by decide)).trans ((zU_n (by decide)).trans ((zU_x (by decide)).trans ((zU_n (by decide)).trans ((zU_x (by decide)).trans ((zU_n (by decide)).trans ((zU_x (by decide)).trans ((zU_n (by decide)).trans ((zU_x (by decide)).trans (zU_e)))))))))))))) ?_
  refine z_iadd (e := x + 1 + b) gi_11_49 rfl ?_
  refine z_iret gi_11_50 gr_11 ?_
  show zW _ _ _ _ _ _ _ _ _ _
  refine z_iret gi_9_99 gr_9 ?_
  show zW _ _ _ _ _ _ _ _ _ _
  refine z_iret gi_8_11 gr_8 ?_
  show zW _ _ _ _ _ _ _ _ _ _
  refine z_pushJ gp_11_78 ?_
  refine z_imul (e := (x + 1 + b) * 2) gi_11_79 rfl ?_
  refine z_iret gi_11_80 gr_11 ?_
  show zW _ _ _ _ _ _ _ _ _ _
  refine z_iret gi_9_99 gr_9 ?_
  show zW _ _ _ _ _ _ _ _ _ _
  refine z_ineg (e := -((x + 1 + b) * 2)) gi_12_113 rfl ?_
  refine z_iret gi_12_114 gr_12 ?_
  show zW _ _ _ _ _ _ _ _ _ _
  refine z_iret gi_9_117 gr_9 ?_
  show zW _ _ _ _ _ _ _ _ _ _
  refine z_iret gi_12_138 gr_12 ?_
  show zW _ _ _ _ _ _ _ _ _ _
  refine z_iret gi_9_117 gr_9 ?_
  show zW _ _ _ _ _ _ _ _ _ _
  refine z_iret gi_8_11 gr_8 ?_
  show zW _ _ _ _ _ _ _ _ _ _
  refine z_istore (ls1 := [some (.ref 34), some (zi 2), some (zi x), some (zi 2), some (zi (-((x + 1 + b) * 2)))]) gi_11_58 rfl ?_
  refine z_iload4 gi_11_60 ?_
  refine z_aload0 gi_11_62 ?_
  refine z_pushJ gp_11_63 ?_
  refine z_pushJ gp_11_64 ?_
  refine z_iload3 gi_11_65 ?_
  refine z_cV3 gi_11_66 gk_34 go_8 (Nat.le_of_ble_eq_true rfl) gc_8_RIII ?_
  refine z_aload0 gi_8_0 ?_
  refine z_aload0 gi_8_1 ?_
  refine z_getI (v := 5) gi_8_2 gk_34 ((zU_x (by decide)).trans ((zU_n (by decide)).trans ((zU_x (by decide)).trans ((zU_n (by decide)).trans ((zU_x (by decide)).trans ((zU_n (by decide)).trans ((zU_x (by decide)).trans ((zU_n (by decide)).trans ((zU_x (by decide)).trans ((zU_n (by decide)).trans ((zU_x (by decide)).trans ((zU_n (by decide)).trans (zU_e))))))))))))) ?_
  refine z_iload1 gi_8_5 ?_
  refine z_iload2 gi_8_6 ?_
  refine z_iload3 gi_8_7 ?_
  refine z_callVi (As := [_, _, _, _]) (le := [some _, some _, some _, some _, some _, none, none]) gi_8_8 rfl gk_34 (Nat.le_of_ble_eq_true rfl) (Nat.le_of_ble_eq_true rfl) rfl ?_
  refine ah_5_2 (by decide) ?_
  refine z_aload0 gi_9_77 ?_
  refine z_iload6 gi_9_78 ?_
  refine z_callVx (As := [_]) gi_9_80 rfl rfl (Nat.le_of_ble_eq_true rfl) (Nat.le_of_ble_eq_true rfl) (bg_k (n := 6) (m := 7) hR (zU_e) (by decide) (by decide)) ?_
  show zW _ _ _ _ _ _ _ _ _ _
  refine z_iload5 gi_9_83 ?_
  refine z_if_neT gi_9_85 zr_5 (by decide) ?_
  refine z_aload0 gi_9_100 ?_
  refine z_iload6 gi_9_101 ?_
  refine z_getS gi_9_103 ?_
  refine z_iload5 gi_9_106 ?_
  refine z_sald (j := 4) (n := 8) (v := 3) gi_9_108 (by decide) rfl (by decide) (by decide) rfl ?_
  refine z_iload3 gi_9_109 ?_
  refine z_iload4 gi_9_110 ?_
  refine z_pushJ gp_9_112 ?_
  refine z_iadd (e := 3) gi_9_113 rfl ?_
  refine z_callVi (As := [_, _, _, _]) (le := [some _, some _, some _, some _, some _, none, none]) gi_9_114 rfl gk_34 (Nat.le_of_ble_eq_true rfl) (Nat.le_of_ble_eq_true rfl) rfl ?_
  refine z_iload1 gi_12_0 ?_
  refine z_swI (tg := 151) gi_12_1 (by decide) (T := [((20 : Int), 92), ((30 : Int), 104), ((40 : Int), 115), ((41 : Int), 127), ((50 : Int), 139), ((60 : Int), 151), ((61 : Int), 174), ((70 : Int), 186), ((80 : Int), 198), ((81 : Int), 221)]) rfl (by decide) ?_
  refine z_aload0 gi_12_151 ?_
  refine z_iload2 gi_12_152 ?_
  refine z_pushJ gp_12_153 ?_
  refine z_iload3 gi_12_154 ?_
  refine z_iload4 gi_12_155 ?_
  refine z_callVi (As := [_, _, _, _]) (le := [some _, some _, some _, some _, some _, none, none]) gi_12_157 rfl gk_34 (Nat.le_of_ble_eq_true rfl) (Nat.le_of_ble_eq_true rfl) rfl ?_
  refine ah_3_2 (by decide) ?_
  refine z_aload0 gi_9_77 ?_
  refine z_iload6 gi_9_78 ?_
  refine z_callVx (As := [_]) gi_9_80 rfl rfl (Nat.le_of_ble_eq_true rfl) (Nat.le_of_ble_eq_true rfl) (bg_k (n := 7) (m := 8) hR (zU_e) (by decide) (by decide)) ?_
  show zW _ _ _ _ _ _ _ _ _ _
  refine z_iload5 gi_9_83 ?_
  refine z_if_neT gi_9_85 zr_3 (by decide) ?_
  refine z_aload0 gi_9_100 ?_
  refine z_iload6 gi_9_101 ?_
  refine z_getS gi_9_103 ?_
  refine z_iload5 gi_9_106 ?_
  refine z_sald (j := 4) (n := 8) (v := 2) gi_9_108 (by decide) rfl (by decide) (by decide) rfl ?_
  refine z_iload3 gi_9_109 ?_
  refine z_iload4 gi_9_110 ?_
  refine z_pushJ gp_9_112 ?_
  refine z_iadd (e := 4) gi_9_113 rfl ?_
  refine z_callVi (As := [_, _, _, _]) (le := [some _, some _, some _, some _, some _, none, none]) gi_9_114 rfl gk_34 (Nat.le_of_ble_eq_true rfl) (Nat.le_of_ble_eq_true rfl) rfl ?_
  refine z_iload1 gi_12_0 ?_
  refine z_swI (tg := 115) gi_12_1 (by decide) (T := [((20 : Int), 92), ((30 : Int), 104), ((40 : Int), 115), ((41 : Int), 127), ((50 : Int), 139), ((60 : Int), 151), ((61 : Int), 174), ((70 : Int), 186), ((80 : Int), 198), ((81 : Int), 221)]) rfl (by decide) ?_
  refine z_aload0 gi_12_115 ?_
  refine z_iload2 gi_12_116 ?_
  refine z_pushJ gp_12_117 ?_
  refine z_iload3 gi_12_118 ?_
  refine z_iload4 gi_12_119 ?_
  refine z_callVi (As := [_, _, _, _]) (le := [some _, some _, some _, some _, some _, none, none]) gi_12_121 rfl gk_34 (Nat.le_of_ble_eq_true rfl) (Nat.le_of_ble_eq_true rfl) rfl ?_
  refine ah_2_2 (by decide) ?_
  refine z_aload0 gi_9_77 ?_
  refine z_iload6 gi_9_78 ?_
  refine z_callVx (As := [_]) gi_9_80 rfl rfl (Nat.le_of_ble_eq_true rfl) (Nat.le_of_ble_eq_true rfl) (bg_k (n := 8) (m := 9) hR (zU_e) (by decide) (by decide)) ?_
  show zW _ _ _ _ _ _ _ _ _ _
  refine z_iload5 gi_9_83 ?_
  refine z_if_neF gi_9_85 zr_0 (by decide) ?_
  refine z_aload0 gi_9_88 ?_
  refine z_iload6 gi_9_89 ?_
  refine z_iload3 gi_9_91 ?_
  refine z_iload4 gi_9_92 ?_
  refine z_pushJ gp_9_94 ?_
  refine z_iadd (e := 5) gi_9_95 rfl ?_
  refine z_callVi (As := [_, _, _]) (le := [some _, some _, some _, some _, none]) gi_9_96 rfl gk_34 (Nat.le_of_ble_eq_true rfl) (Nat.le_of_ble_eq_true rfl) rfl ?_
  refine z_iload1 gi_11_0 ?_
  refine z_swI (tg := 81) gi_11_1 (by decide) (T := [((1 : Int), 44), ((2 : Int), 51), ((10 : Int), 71), ((11 : Int), 81)]) rfl (by decide) ?_
  refine z_iload2 gi_11_81 ?_
  refine z_aload0 gi_11_82 ?_
  refine z_getI (v := b) gi_11_83 gk_34 ((zU_x (by decide)).trans ((zU_n (by decide)).trans ((zU_x (by decide)).trans ((zU_n (by decide)).trans ((zU_x (by decide)).trans ((zU_n (by decide)).trans ((zU_x (by decide)).trans ((zU_n (by decide)).trans ((zU_x (by decide)).trans ((zU_n (by decide)).trans ((zU_x (by decide)).trans ((zU_n (by decide)).trans ((zU_x (by decide)).trans ((zU_n (by decide)).trans ((zU_x (by decide)).trans ((zU_n (by decide)).trans ((zU_x (by decide)).trans ((zU_n (by decide)).trans ((zU_x (by decide)).trans (zU_e)))))))))))))))))))) ?_
  refine z_ixor (e := zxor 1 b) gi_11_86 rfl ?_
  refine z_iret gi_11_87 gr_11 ?_
  show zW _ _ _ _ _ _ _ _ _ _
  refine z_iret gi_9_99 gr_9 ?_
  show zW _ _ _ _ _ _ _ _ _ _
  refine z_pushJ gp_12_124 ?_
  refine z_imul (e := (zxor 1 b) * 3) gi_12_125 rfl ?_
  refine z_iret gi_12_126 gr_12 ?_
  show zW _ _ _ _ _ _ _ _ _ _
  refine z_iret gi_9_117 gr_9 ?_
  show zW _ _ _ _ _ _ _ _ _ _
  refine z_istore (ls1 := [some (.ref 34), some (zi 60), some (zi 3), some (zi 1), some (zi 3), some (zi ((zxor 1 b) * 3)), none]) gi_12_160 rfl ?_
  refine z_iload5 gi_12_162 ?_
  refine z_aload0 gi_12_164 ?_
  refine z_pushJ gp_12_165 ?_
  refine z_pushJ gp_12_166 ?_
  refine z_iload4 gi_12_167 ?_
  refine z_cV3 gi_12_169 gk_34 go_8 (Nat.le_of_ble_eq_true rfl) gc_8_RIII ?_
  refine z_aload0 gi_8_0 ?_
  refine z_aload0 gi_8_1 ?_
  refine z_getI (v := 5) gi_8_2 gk_34 ((zU_x (by decide)).trans ((zU_n (by decide)).trans ((zU_x (by decide)).trans ((zU_n (by decide)).trans ((zU_x (by decide)).trans ((zU_n (by decide)).trans ((zU_x (by decide)).trans ((zU_n (by decide)).trans ((zU_x (by decide)).trans ((zU_n (by decide)).trans ((zU_x (by decide)).trans ((zU_n (by decide)).trans ((zU_x (by decide)).trans ((zU_n (by decide)).trans ((zU_x (by decide)).trans ((zU_n (by decide)).trans ((zU_x (by decide)).trans ((zU_n (by decide)).trans (zU_e))))))))))))))))))) ?_
  refine z_iload1 gi_8_5 ?_
  refine z_iload2 gi_8_6 ?_
  refine z_iload3 gi_8_7 ?_
  refine z_callVi (As := [_, _, _, _]) (le := [some _, some _, some _, some _, some _, none, none]) gi_8_8 rfl gk_34 (Nat.le_of_ble_eq_true rfl) (Nat.le_of_ble_eq_true rfl) rfl ?_
  refine ah_5_0 (by decide) ?_
  refine z_aload0 gi_9_77 ?_
  refine z_iload6 gi_9_78 ?_
  refine z_callVx (As := [_]) gi_9_80 rfl rfl (Nat.le_of_ble_eq_true rfl) (Nat.le_of_ble_eq_true rfl) (bg_k (n := 9) (m := 10) hR (zU_e) (by decide) (by decide)) ?_
  show zW _ _ _ _ _ _ _ _ _ _
  refine z_iload5 gi_9_83 ?_
  refine z_if_neF gi_9_85 zr_0 (by decide) ?_
  refine z_aload0 gi_9_88 ?_
  refine z_iload6 gi_9_89 ?_
  refine z_iload3 gi_9_91 ?_
  refine z_iload4 gi_9_92 ?_
  refine z_pushJ gp_9_94 ?_
  refine z_iadd (e := 4) gi_9_95 rfl ?_
  refine z_callVi (As := [_, _, _]) (le := [some _, some _, some _, some _, none]) gi_9_96 rfl gk_34 (Nat.le_of_ble_eq_true rfl) (Nat.le_of_ble_eq_true rfl) rfl ?_
  refine z_iload1 gi_11_0 ?_
  refine z_swI (tg := 44) gi_11_1 (by decide) (T := [((1 : Int), 44), ((2 : Int), 51), ((10 : Int), 71), ((11 : Int), 81)]) rfl (by decide) ?_
  refine z_iload2 gi_11_44 ?_
  refine z_aload0 gi_11_45 ?_
  refine z_getI (v := b) gi_11_46 gk_34 ((zU_x (by decide)).trans ((zU_n (by decide)).trans ((zU_x (by decide)).trans ((zU_n (by decide)).trans ((zU_x (by decide)).trans ((zU_n (by decide)).trans ((zU_x (by decide)).trans ((zU_n (by decide)).trans ((zU_x (by decide)).trans ((zU_n (by decide)).trans ((zU_x (by decide)).trans ((zU_n (by decide)).trans ((zU_x (by decide)).trans ((zU_n (by decide)).trans ((zU_x (by decide)).trans ((zU_n (by decide)).trans ((zU_x (by decide)).trans ((zU_n (by decide)).trans ((zU_x (by decide)).trans ((zU_n (by decide)).trans ((zU_x (by decide)).trans (zU_e)))))))))))))))))))))) ?_
  refine z_iadd (e := 2 + b) gi_11_49 rfl ?_
  refine z_iret gi_11_50 gr_11 ?_
  show zW _ _ _ _ _ _ _ _ _ _
  refine z_iret gi_9_99 gr_9 ?_
  show zW _ _ _ _ _ _ _ _ _ _
  refine z_iret gi_8_11 gr_8 ?_
  show zW _ _ _ _ _ _ _ _ _ _
  refine z_isub (e := (zxor 1 b) * 3 - (2 + b)) gi_12_172 rfl ?_
  refine z_iret gi_12_173 gr_12 ?_
  show zW _ _ _ _ _ _ _ _ _ _
  refine z_iret gi_9_117 gr_9 ?_
  show zW _ _ _ _ _ _ _ _ _ _
  refine z_iret gi_8_11 gr_8 ?_
  show zW _ _ _ _ _ _ _ _ _ _
  refine z_isub (e := (-((x + 1 + b) * 2)) - ((zxor 1 b) * 3 - (2 + b))) gi_11_69 rfl ?_
  refine z_iret gi_11_70 gr_11 ?_
  show zW _ _ _ _ _ _ _ _ _ _
  refine z_iret gi_9_99 gr_9 ?_
  show zW _ _ _ _ _ _ _ _ _ _
  refine z_pushJ gp_12_183 ?_
  refine z_iadd (e := (-((x + 1 + b) * 2)) - ((zxor 1 b) * 3 - (2 + b)) + 1) rfl rfl ?_
  refine z_iret rfl gr_12 ?_
  show zW _ _ _ _ _ _ _ _ _ _
  refine z_iret gi_9_117 gr_9 ?_
  show zW _ _ _ _ _ _ _ _ _ _
  refine z_iret gi_8_11 gr_8 ?_
  show zW _ _ _ _ _ _ _ _ _ _
  refine z_iret gi_7_46 gr_7 ?_
  show zW _ _ _ _ _ _ _ _ _ _
  refine z_iret gi_134_10 gr_134 ?_
  refine ⟨_, rfl, ?_⟩
  show zW _ _ _ _ [some (.ref 50), some (zi b), some (zi 3), some (zi x)] _ _ _ _ _
  refine z_aload0 gi_246_0 ?_
  refine z_pushJ gp_246_1 ?_
  refine z_putI (y := 56) gi_246_2 rfl gk_50 ?_
  refine z_aload0 gi_246_5 ?_
  refine z_iload1 gi_246_6 ?_
  refine z_cV1 gi_246_7 gk_50 go_230 (Nat.le_of_ble_eq_true rfl) gc_230_RI ?_
  refine z_iload1 gi_230_0 ?_
  refine z_pushJ gp_230_1 ?_
  refine z_aload0 gi_230_2 ?_
  refine z_getI (v := J 34 1) gi_230_3 gk_50 ((zU_x (by decide)).trans ((zU_n (by decide)).trans ((zU_n (by decide)).trans ((zU_n (by decide)).trans ((zU_n (by decide)).trans ((zU_n (by decide)).trans ((zU_n (by decide)).trans ((zU_n (by decide)).trans ((zU_n (by decide)).trans ((zU_n (by decide)).trans ((zU_n (by decide)).trans ((zU_n (by decide)).trans ((zU_n (by decide)).trans ((zU_n (by decide)).trans ((zU_n (by decide)).trans ((zU_n (by decide)).trans ((zU_n (by decide)).trans ((zU_n (by decide)).trans ((zU_n (by decide)).trans ((zU_n (by decide)).trans ((zU_n (by decide)).trans ((zU_n (by decide)).trans ((zU_n (by decide)).trans ((zU_n (by decide)).trans (a1.symm))))))))))))))))))))))))) ?_
  refine z_pushJ gp_230_6 ?_
  refine z_isub (e := (J 34 1) - 1) gi_230_7 rfl ?_
  refine z_cS3 gi_230_8 (Nat.le_of_ble_eq_true rfl) gc_148_III ?_
  refine z_iload0 gi_148_0 ?_
  refine z_iload1 gi_148_1 ?_
  refine z_icmp_ltF gi_148_2 (by omega) zr_0 (by omega) ?_
  refine z_iload0 gi_148_5 ?_
  refine z_iload2 gi_148_6 ?_
  refine z_icmp_gtF gi_148_7 (by omega) (by omega) (by omega) ?_
  refine z_pushJ gp_148_10 ?_
  refine z_goto gi_148_11 ?_
  refine z_bret1 gi_148_15 gr_148 ?_
  show zW _ _ _ _ _ _ _ _ _ _
  refine z_bret1 gi_230_11 gr_230 ?_
  show zW _ _ _ _ _ _ _ _ _ _
  refine z_if_eqF gi_246_10 zr_1 (by decide) ?_
  refine z_iload2 gi_246_13 ?_
  refine z_pushJ gp_246_14 ?_
  refine z_pushJ gp_246_15 ?_
  refine z_cS3 gi_246_16 (Nat.le_of_ble_eq_true rfl) gc_148_III ?_
  refine z_iload0 gi_148_0 ?_
  refine z_iload1 gi_148_1 ?_
  refine z_icmp_ltF gi_148_2 zr_3 zr_0 (by decide) ?_
  refine z_iload0 gi_148_5 ?_
  refine z_iload2 gi_148_6 ?_
  refine z_icmp_gtF gi_148_7 zr_3 zr_3 (by decide) ?_
  refine z_pushJ gp_148_10 ?_
  refine z_goto gi_148_11 ?_
  refine z_bret1 gi_148_15 gr_148 ?_
  show zW _ _ _ _ _ _ _ _ _ _
  refine z_if_neT gi_246_19 zr_1 (by decide) ?_
  refine z_iload2 gi_246_24 ?_
  refine z_if_neT gi_246_25 zr_3 (by decide) ?_
  refine z_iload2 gi_246_37 ?_
  refine z_pushJ gp_246_38 ?_
  refine z_icmp_neT gi_246_39 zr_3 zr_1 (by decide) ?_
  refine z_iload2 gi_246_51 ?_
  refine z_pushJ gp_246_52 ?_
  refine z_icmp_neT gi_246_53 zr_3 zr_2 (by decide) ?_
  refine z_aload0 gi_246_65 ?_
  refine z_iload1 gi_246_66 ?_
  refine z_iload3 gi_246_67 ?_
  refine z_cV2 gi_246_68 gk_50 go_245 (Nat.le_of_ble_eq_true rfl) gc_245_RII ?_
  refine z_aload0 gi_245_0 ?_
  refine z_getR (r := 81) gi_245_1 gk_50 (hRr _ rm_50_55 (by decide)) ?_
  refine z_iload1 gi_245_4 ?_
  refine z_iald (v := 5) gi_245_5 gk_81 (by decide) (by omega) ((zU_n (by decide)).trans ((zU_n (by decide)).trans ((zU_n (by decide)).trans ((zU_n (by decide)).trans ((zU_n (by decide)).trans ((zU_n (by decide)).trans ((zU_n (by decide)).trans ((zU_n (by decide)).trans ((zU_n (by decide)).trans ((zU_n (by decide)).trans ((zU_n (by decide)).trans ((zU_n (by decide)).trans ((zU_n (by decide)).trans ((zU_n (by decide)).trans ((zU_n (by decide)).trans ((zU_n (by decide)).trans ((zU_n (by decide)).trans ((zU_n (by decide)).trans ((zU_n (by decide)).trans ((zU_n (by decide)).trans ((zU_n (by decide)).trans ((zU_n (by decide)).trans ((zU_n (by decide)).trans ((zU_n (by decide)).trans ((a5 _ hb1.1 hb1.2).1.symm.trans hk))))))))))))))))))))))))) ?_
  refine z_pushJ gp_245_6 ?_
  refine z_icmp_neT gi_245_7 zr_5 zr_4 (by decide) ?_
  refine z_aload0 gi_245_25 ?_
  refine z_getR (r := 81) gi_245_26 gk_50 (hRr _ rm_50_55 (by decide)) ?_
  refine z_iload1 gi_245_29 ?_
  refine z_iald (v := 5) gi_245_30 gk_81 (by decide) (by omega) ((zU_n (by decide)).trans ((zU_n (by decide)).trans ((zU_n (by decide)).trans ((zU_n (by decide)).trans ((zU_n (by decide)).trans ((zU_n (by decide)).trans ((zU_n (by decide)).trans ((zU_n (by decide)).trans ((zU_n (by decide)).trans ((zU_n (by decide)).trans ((zU_n (by decide)).trans ((zU_n (by decide)).trans ((zU_n (by decide)).trans ((zU_n (by decide)).trans ((zU_n (by decide)).trans ((zU_n (by decide)).trans ((zU_n (by decide)).trans ((zU_n (by decide)).trans ((zU_n (by decide)).trans ((zU_n (by decide)).trans ((zU_n (by decide)).trans ((zU_n (by decide)).trans ((zU_n (by decide)).trans ((zU_n (by decide)).trans ((a5 _ hb1.1 hb1.2).1.symm.trans hk))))))))))))))))))))))))) ?_
  refine z_pushJ gp_245_31 ?_
  refine z_icmp_neF gi_245_32 zr_5 zr_5 (by decide) ?_
  refine z_aload0 rfl ?_
  refine z_pushJ gp_245_36 ?_
  refine z_callVx (As := [_]) rfl rfl rfl (Nat.le_of_ble_eq_true rfl) (Nat.le_of_ble_eq_true rfl) (rn_k (n := 0) (m := 1) hRr (zU_e) (by decide) (by decide)) ?_
  show zW _ _ _ _ _ _ _ _ _ _
  refine z_aload0 rfl ?_
  refine z_iload1 rfl ?_
  refine z_iload2 rfl ?_
  refine z_callVi (As := [_, _]) (le := [some _, some _, some _, none]) rfl rfl gk_50 (Nat.le_of_ble_eq_true rfl) (Nat.le_of_ble_eq_true rfl) rfl ?_
  refine z_aload0 gi_244_0 ?_
  refine z_pushJ gp_244_1 ?_
  refine z_callVx (As := [_]) gi_244_2 rfl rfl (Nat.le_of_ble_eq_true rfl) (Nat.le_of_ble_eq_true rfl) (rn_k (n := 1) (m := 2) hRr (zU_e) (by decide) (by decide)) ?_
  show zW _ _ _ _ _ _ _ _ _ _
  refine z_aload0 gi_244_5 ?_
  refine z_iload1 gi_244_6 ?_
  refine z_iload2 gi_244_7 ?_
  refine z_callVi (As := [_, _]) (le := [some _, some _, some _, none]) gi_244_8 rfl gk_50 (Nat.le_of_ble_eq_true rfl) (Nat.le_of_ble_eq_true rfl) rfl ?_
  refine z_aload0 gi_240_0 ?_
  refine z_getR (r := 81) gi_240_1 gk_50 (hRr _ rm_50_55 (by decide)) ?_
  refine z_iload1 gi_240_4 ?_
  refine z_iald (v := 5) gi_240_5 gk_81 (by decide) (by omega) ((zU_n (by decide)).trans ((zU_n (by decide)).trans ((zU_n (by decide)).trans ((zU_n (by decide)).trans ((zU_n (by decide)).trans ((zU_n (by decide)).trans ((zU_n (by decide)).trans ((zU_n (by decide)).trans ((zU_n (by decide)).trans ((zU_n (by decide)).trans ((zU_n (by decide)).trans ((zU_n (by decide)).trans ((zU_n (by decide)).trans ((zU_n (by decide)).trans ((zU_n (by decide)).trans ((zU_n (by decide)).trans ((zU_n (by decide)).trans ((zU_n (by decide)).trans ((zU_n (by decide)).trans ((zU_n (by decide)).trans ((zU_n (by decide)).trans ((zU_n (by decide)).trans ((zU_n (by decide)).trans ((zU_n (by decide)).trans ((zU_n (by decide)).trans ((zU_n (by decide)).trans ((zU_n (by decide)).trans ((zU_n (by decide)).trans ((a5 _ hb1.1 hb1.2).1.symm.trans hk))))))))))))))))))))))))))))) ?_
  refine z_pushJ gp_240_6 ?_
  refine z_callSP (As := [_, _]) (v := 1) gi_240_7 rfl (Nat.le_of_ble_eq_true rfl) (Nat.le_of_ble_eq_true rfl) iu_5_3 ?_
  refine z_if_eqF gi_240_10 zr_1 (by decide) ?_
  refine z_aload0 gi_240_13 ?_
  refine z_pushJ gp_240_14 ?_
  refine z_callVx (As := [_]) gi_240_16 rfl rfl (Nat.le_of_ble_eq_true rfl) (Nat.le_of_ble_eq_true rfl) (rn_k (n := 2) (m := 3) hRr (zU_e) (by decide) (by decide)) ?_
  show zW _ _ _ _ _ _ _ _ _ _
  refine z_aload0 gi_240_19 ?_
  refine z_iload1 gi_240_20 ?_
  refine z_iload2 gi_240_21 ?_
  refine z_pushJ gp_240_22 ?_
  refine z_iadd (e := x + 1) gi_240_23 rfl ?_
  refine z_cV2 gi_240_24 gk_50 go_239 (Nat.le_of_ble_eq_true rfl) gc_239_RII ?_
  refine z_aload0 gi_239_0 ?_
  refine z_pushJ gp_239_1 ?_
  refine z_callVx (As := [_]) gi_239_3 rfl rfl (Nat.le_of_ble_eq_true rfl) (Nat.le_of_ble_eq_true rfl) (rn_k (n := 3) (m := 4) hRr (zU_e) (by decide) (by decide)) ?_
  show zW _ _ _ _ _ _ _ _ _ _
  refine z_aload0 gi_239_6 ?_
  refine z_iload1 gi_239_7 ?_
  refine z_iload2 gi_239_8 ?_
  refine z_cV2 gi_239_9 gk_50 go_238 (Nat.le_of_ble_eq_true rfl) gc_238_RII ?_
  refine z_aload0 gi_238_0 ?_
  refine z_pushJ gp_238_1 ?_
  refine z_callVx (As := [_]) gi_238_3 rfl rfl (Nat.le_of_ble_eq_true rfl) (Nat.le_of_ble_eq_true rfl) (rn_k (n := 4) (m := 5) hRr (zU_e) (by decide) (by decide)) ?_
  show zW _ _ _ _ _ _ _ _ _ _
  refine z_aload0 gi_238_6 ?_
  refine z_iload1 gi_238_7 ?_
  refine z_iload2 gi_238_8 ?_
  refine z_cV2 gi_238_9 gk_50 go_237 (Nat.le_of_ble_eq_true rfl) gc_237_RII ?_
  refine z_aload0 gi_237_0 ?_
  refine z_getR (r := 81) gi_237_1 gk_50 (hRr _ rm_50_55 (by decide)) ?_
  refine z_iload1 gi_237_4 ?_
  refine z_iald (v := 5) gi_237_5 gk_81 (by decide) (by omega) ((zU_n (by decide)).trans ((zU_n (by decide)).trans ((zU_n (by decide)).trans ((zU_n (by decide)).trans ((zU_n (by decide)).trans ((zU_n (by decide)).trans ((zU_n (by decide)).trans ((zU_n (by decide)).trans ((zU_n (by decide)).trans ((zU_n (by decide)).trans ((zU_n (by decide)).trans ((zU_n (by decide)).trans ((zU_n (by decide)).trans ((zU_n (by decide)).trans ((zU_n (by decide)).trans ((zU_n (by decide)).trans ((zU_n (by decide)).trans ((zU_n (by decide)).trans ((zU_n (by decide)).trans ((zU_n (by decide)).trans ((zU_n (by decide)).trans ((zU_n (by decide)).trans ((zU_n (by decide)).trans ((zU_n (by decide)).trans ((zU_n (by decide)).trans ((zU_n (by decide)).trans ((zU_n (by decide)).trans ((zU_n (by decide)).trans ((zU_n (by decide)).trans ((zU_n (by decide)).trans ((zU_n (by decide)).trans ((zU_n (by decide)).trans ((zU_n (by decide)).trans ((zU_n (by decide)).trans ((a5 _ hb1.1 hb1.2).1.symm.trans hk))))))))))))))))))))))))))))))))))) ?_
  refine z_pushJ gp_237_6 ?_
  refine z_callSP (As := [_, _]) (v := 0) gi_237_7 rfl (Nat.le_of_ble_eq_true rfl) (Nat.le_of_ble_eq_true rfl) iu_5_1 ?_
  refine z_if_eqT gi_237_10 zr_0 (by decide) ?_
  refine z_aload0 gi_237_28 ?_
  refine z_getR (r := 81) gi_237_29 gk_50 (hRr _ rm_50_55 (by decide)) ?_
  refine z_iload1 gi_237_32 ?_
  refine z_iald (v := 5) gi_237_33 gk_81 (by decide) (by omega) ((zU_n (by decide)).trans ((zU_n (by decide)).trans ((zU_n (by decide)).trans ((zU_n (by decide)).trans ((zU_n (by decide)).trans ((zU_n (by decide)).trans ((zU_n (by decide)).trans ((zU_n (by decide)).trans ((zU_n (by decide)).trans ((zU_n (by decide)).trans ((zU_n (by decide)).trans ((zU_n (by decide)).trans ((zU_n (by decide)).trans ((zU_n (by decide)).trans ((zU_n (by decide)).trans ((zU_n (by decide)).trans ((zU_n (by decide)).trans ((zU_n (by decide)).trans ((zU_n (by decide)).trans ((zU_n (by decide)).trans ((zU_n (by decide)).trans ((zU_n (by decide)).trans ((zU_n (by decide)).trans ((zU_n (by decide)).trans ((zU_n (by decide)).trans ((zU_n (by decide)).trans ((zU_n (by decide)).trans ((zU_n (by decide)).trans ((zU_n (by decide)).trans ((zU_n (by decide)).trans ((zU_n (by decide)).trans ((zU_n (by decide)).trans ((zU_n (by decide)).trans ((zU_n (by decide)).trans ((a5 _ hb1.1 hb1.2).1.symm.trans hk))))))))))))))))))))))))))))))))))) ?_
  refine z_pushJ gp_237_34 ?_
  refine z_icmp_neT gi_237_36 zr_5 zr_7 (by decide) ?_
  refine z_aload0 gi_237_54 ?_
  refine z_getR (r := 81) gi_237_55 gk_50 (hRr _ rm_50_55 (by decide)) ?_
  refine z_iload1 gi_237_58 ?_
  refine z_iald (v := 5) gi_237_59 gk_81 (by decide) (by omega) ((zU_n (by decide)).trans ((zU_n (by decide)).trans ((zU_n (by decide)).trans ((zU_n (by decide)).trans ((zU_n (by decide)).trans ((zU_n (by decide)).trans ((zU_n (by decide)).trans ((zU_n (by decide)).trans ((zU_n (by decide)).trans ((zU_n (by decide)).trans ((zU_n (by decide)).trans ((zU_n (by decide)).trans ((zU_n (by decide)).trans ((zU_n (by decide)).trans ((zU_n (by decide)).trans ((zU_n (by decide)).trans ((zU_n (by decide)).trans ((zU_n (by decide)).trans ((zU_n (by decide)).trans ((zU_n (by decide)).trans ((zU_n (by decide)).trans ((zU_n (by decide)).trans ((zU_n (by decide)).trans ((zU_n (by decide)).trans ((zU_n (by decide)).trans ((zU_n (by decide)).trans ((zU_n (by decide)).trans ((zU_n (by decide)).trans ((zU_n (by decide)).trans ((zU_n (by decide)).trans ((zU_n (by decide)).trans ((zU_n (by decide)).trans ((zU_n (by decide)).trans ((zU_n (by decide)).trans ((a5 _ hb1.1 hb1.2).1.symm.trans hk))))))))))))))))))))))))))))))))))) ?_
  refine z_pushJ gp_237_60 ?_
  refine z_icmp_neT gi_237_62 zr_5 zr_6 (by decide) ?_
  refine z_aload0 gi_237_74 ?_
  refine z_iload1 gi_237_75 ?_
  refine z_iload2 gi_237_76 ?_
  refine z_cV2 gi_237_77 gk_50 go_235 (Nat.le_of_ble_eq_true rfl) gc_235_RII ?_
  refine z_aload0 gi_235_0 ?_
  refine z_pushJ gp_235_1 ?_
  refine z_callVx (As := [_]) gi_235_2 rfl rfl (Nat.le_of_ble_eq_true rfl) (Nat.le_of_ble_eq_true rfl) (rn_k (n := 5) (m := 6) hRr (zU_e) (by decide) (by decide)) ?_
  show zW _ _ _ _ _ _ _ _ _ _
  refine z_iload2 gi_235_5 ?_
  refine z_iload1 gi_235_6 ?_
  refine z_iadd (e := x + 1 + b) gi_235_7 rfl ?_
  refine z_iret gi_235_8 gr_235 ?_
  show zW _ _ _ _ _ _ _ _ _ _
  refine z_iret gi_237_80 gr_237 ?_
  show zW _ _ _ _ _ _ _ _ _ _
  refine z_pushJ gp_238_12 ?_
  refine z_imul (e := (x + 1 + b) * 2) gi_238_13 rfl ?_
  refine z_iret gi_238_14 gr_238 ?_
  show zW _ _ _ _ _ _ _ _ _ _
  refine z_ineg (e := -((x + 1 + b) * 2)) gi_239_12 rfl ?_
  refine z_iret gi_239_13 gr_239 ?_
  show zW _ _ _ _ _ _ _ _ _ _
  refine z_iret gi_240_27 gr_240 ?_
  show zW _ _ _ _ _ _ _ _ _ _
  refine z_istore (ls1 := [some (.ref 50), some (zi b), some (zi x), some (zi (-((x + 1 + b) * 2)))]) gi_244_11 rfl ?_
  refine z_iload3 gi_244_12 ?_
  refine z_aload0 gi_244_13 ?_
  refine z_iload1 gi_244_14 ?_
  refine z_pushJ gp_244_15 ?_
  refine z_callVi (As := [_, _]) (le := [some _, some _, some _, none]) gi_244_16 rfl gk_50 (Nat.le_of_ble_eq_true rfl) (Nat.le_of_ble_eq_true rfl) rfl ?_
  refine z_aload0 gi_243_0 ?_
  refine z_getR (r := 81) gi_243_1 gk_50 (hRr _ rm_50_55 (by decide)) ?_
  refine z_iload1 gi_243_4 ?_
  refine z_iald (v := 5) gi_243_5 gk_81 (by decide) (by omega) ((zU_n (by decide)).trans ((zU_n (by decide)).trans ((zU_n (by decide)).trans ((zU_n (by decide)).trans ((zU_n (by decide)).trans ((zU_n (by decide)).trans ((zU_n (by decide)).trans ((zU_n (by decide)).trans ((zU_n (by decide)).trans ((zU_n (by decide)).trans ((zU_n (by decide)).trans ((zU_n (by decide)).trans ((zU_n (by decide)).trans ((zU_n (by decide)).trans ((zU_n (by decide)).trans ((zU_n (by decide)).trans ((zU_n (by decide)).trans ((zU_n (by decide)).trans ((zU_n (by decide)).trans ((zU_n (by decide)).trans ((zU_n (by decide)).trans ((zU_n (by decide)).trans ((zU_n (by decide)).trans ((zU_n (by decide)).trans ((zU_n (by decide)).trans ((zU_n (by decide)).trans ((zU_n (by decide)).trans ((zU_n (by decide)).trans ((zU_n (by decide)).trans ((zU_n (by decide)).trans ((zU_n (by decide)).trans ((zU_n (by decide)).trans ((zU_n (by decide)).trans ((zU_n (by decide)).trans ((zU_n (by decide)).trans ((zU_n (by decide)).trans ((a5 _ hb1.1 hb1.2).1.symm.trans hk))))))))))))))))))))))))))))))))))))) ?_
  refine z_pushJ gp_243_6 ?_
  refine z_icmp_neF gi_243_7 zr_5 zr_5 (by decide) ?_
  refine z_aload0 gi_243_10 ?_
  refine z_pushJ gp_243_11 ?_
  refine z_callVx (As := [_]) gi_243_13 rfl rfl (Nat.le_of_ble_eq_true rfl) (Nat.le_of_ble_eq_true rfl) (rn_k (n := 6) (m := 7) hRr (zU_e) (by decide) (by decide)) ?_
  show zW _ _ _ _ _ _ _ _ _ _
  refine z_aload0 gi_243_16 ?_
  refine z_iload1 gi_243_17 ?_
  refine z_iload2 gi_243_18 ?_
  refine z_cV2 gi_243_19 gk_50 go_242 (Nat.le_of_ble_eq_true rfl) gc_242_RII ?_
  refine z_aload0 gi_242_0 ?_
  refine z_pushJ gp_242_1 ?_
  refine z_callVx (As := [_]) gi_242_3 rfl rfl (Nat.le_of_ble_eq_true rfl) (Nat.le_of_ble_eq_true rfl) (rn_k (n := 7) (m := 8) hRr (zU_e) (by decide) (by decide)) ?_
  show zW _ _ _ _ _ _ _ _ _ _
  refine z_aload0 gi_242_6 ?_
  refine z_iload1 gi_242_7 ?_
  refine z_iload2 gi_242_8 ?_
  refine z_cV2 gi_242_9 gk_50 go_241 (Nat.le_of_ble_eq_true rfl) gc_241_RII ?_
  refine z_aload0 gi_241_0 ?_
  refine z_pushJ gp_241_1 ?_
  refine z_callVx (As := [_]) gi_241_3 rfl rfl (Nat.le_of_ble_eq_true rfl) (Nat.le_of_ble_eq_true rfl) (rn_k (n := 8) (m := 9) hRr (zU_e) (by decide) (by decide)) ?_
  show zW _ _ _ _ _ _ _ _ _ _
  refine z_iload2 gi_241_6 ?_
  refine z_iload1 gi_241_7 ?_
  refine z_ixor (e := zxor 1 b) gi_241_8 rfl ?_
  refine z_iret gi_241_9 gr_241 ?_
  show zW _ _ _ _ _ _ _ _ _ _
  refine z_pushJ gp_242_12 ?_
  refine z_imul (e := (zxor 1 b) * 3) gi_242_13 rfl ?_
  refine z_iret gi_242_14 gr_242 ?_
  show zW _ _ _ _ _ _ _ _ _ _
  refine z_istore (ls1 := [some (.ref 50), some (zi b), some (zi 1), some (zi ((zxor 1 b) * 3))]) gi_243_22 rfl ?_
  refine z_iload3 gi_243_23 ?_
  refine z_aload0 gi_243_24 ?_
  refine z_iload1 gi_243_25 ?_
  refine z_pushJ gp_243_26 ?_
  refine z_cV2 gi_243_27 gk_50 go_237 (Nat.le_of_ble_eq_true rfl) gc_237_RII ?_
  refine z_aload0 gi_237_0 ?_
  refine z_getR (r := 81) gi_237_1 gk_50 (hRr _ rm_50_55 (by decide)) ?_
  refine z_iload1 gi_237_4 ?_
  refine z_iald (v := 5) gi_237_5 gk_81 (by decide) (by omega) ((zU_n (by decide)).trans ((zU_n (by decide)).trans ((zU_n (by decide)).trans ((zU_n (by decide)).trans ((zU_n (by decide)).trans ((zU_n (by decide)).trans ((zU_n (by decide)).trans ((zU_n (by decide)).trans ((zU_n (by decide)).trans ((zU_n (by decide)).trans ((zU_n (by decide)).trans ((zU_n (by decide)).trans ((zU_n (by decide)).trans ((zU_n (by decide)).trans ((zU_n (by decide)).trans ((zU_n (by decide)).trans ((zU_n (by decide)).trans ((zU_n (by decide)).trans ((zU_n (by decide)).trans ((zU_n (by decide)).trans ((zU_n (by decide)).trans ((zU_n (by decide)).trans ((zU_n (by decide)).trans ((zU_n (by decide)).trans ((zU_n (by decide)).trans ((zU_n (by decide)).trans ((zU_n (by decide)).trans ((zU_n (by decide)).trans ((zU_n (by decide)).trans ((zU_n (by decide)).trans ((zU_n (by decide)).trans ((zU_n (by decide)).trans ((zU_n (by decide)).trans ((zU_n (by decide)).trans ((zU_n (by decide)).trans ((zU_n (by decide)).trans ((zU_n (by decide)).trans ((zU_n (by decide)).trans ((zU_n (by decide)).trans ((zU_n (by decide)).trans ((zU_n (by decide)).trans ((zU_n (by decide)).trans ((a5 _ hb1.1 hb1.2).1.symm.trans hk))))))))))))))))))))))))))))))))))))))))))) ?_
  refine z_pushJ gp_237_6 ?_
  refine z_callSP (As := [_, _]) (v := 0) gi_237_7 rfl (Nat.le_of_ble_eq_true rfl) (Nat.le_of_ble_eq_true rfl) iu_5_1 ?_
  refine z_if_eqT gi_237_10 zr_0 (by decide) ?_
  refine z_aload0 gi_237_28 ?_
  refine z_getR (r := 81) gi_237_29 gk_50 (hRr _ rm_50_55 (by decide)) ?_
  refine z_iload1 gi_237_32 ?_
  refine z_iald (v := 5) gi_237_33 gk_81 (by decide) (by omega) ((zU_n (by decide)).trans ((zU_n (by decide)).trans ((zU_n (by decide)).trans ((zU_n (by decide)).trans ((zU_n (by decide)).trans ((zU_n (by decide)).trans ((zU_n (by decide)).trans ((zU_n (by decide)).trans ((zU_n (by decide)).trans ((zU_n (by decide)).trans ((zU_n (by decide)).trans ((zU_n (by decide)).trans ((zU_n (by decide)).trans ((zU_n (by decide)).trans ((zU_n (by decide)).trans ((zU_n (by decide)).trans ((zU_n (by decide)).trans ((zU_n (by decide)).trans ((zU_n (by decide)).trans ((zU_n (by decide)).trans ((zU_n (by decide)).trans ((zU_n (by decide)).trans ((zU_n (by decide)).trans ((zU_n (by decide)).trans ((zU_n (by decide)).trans ((zU_n (by decide)).trans ((zU_n (by decide)).trans ((zU_n (by decide)).trans ((zU_n (by decide)).trans ((zU_n (by decide)).trans ((zU_n (by decide)).trans ((zU_n (by decide)).trans ((zU_n (by decide)).trans ((zU_n (by decide)).trans ((zU_n (by decide)).trans ((zU_n (by decide)).trans ((zU_n (by decide)).trans ((zU_n (by decide)).trans ((zU_n (by decide)).trans ((zU_n (by decide)).trans ((zU_n (by decide)).trans ((zU_n (by decide)).trans ((a5 _ hb1.1 hb1.2).1.symm.trans hk))))))))))))))))))))))))))))))))))))))))))) ?_
  refine z_pushJ gp_237_34 ?_
  refine z_icmp_neT gi_237_36 zr_5 zr_7 (by decide) ?_
  refine z_aload0 gi_237_54 ?_
  refine z_getR (r := 81) gi_237_55 gk_50 (hRr _ rm_50_55 (by decide)) ?_
  refine z_iload1 gi_237_58 ?_
  refine z_iald (v := 5) gi_237_59 gk_81 (by decide) (by omega) ((zU_n (by decide)).trans ((zU_n (by decide)).trans ((zU_n (by decide)).trans ((zU_n (by decide)).trans ((zU_n (by decide)).trans ((zU_n (by decide)).trans ((zU_n (by decide)).trans ((zU_n (by decide)).trans ((zU_n (by decide)).trans ((zU_n (by decide)).trans ((zU_n (by decide)).trans ((zU_n (by decide)).trans ((zU_n (by decide)).trans ((zU_n (by decide)).trans ((zU_n (by decide)).trans ((zU_n (by decide)).trans ((zU_n (by decide)).trans ((zU_n (by decide)).trans ((zU_n (by decide)).trans ((zU_n (by decide)).trans ((zU_n (by decide)).trans ((zU_n (by decide)).trans ((zU_n (by decide)).trans ((zU_n (by decide)).trans ((zU_n (by decide)).trans ((zU_n (by decide)).trans ((zU_n (by decide)).trans ((zU_n (by decide)).trans ((zU_n (by decide)).trans ((zU_n (by decide)).trans ((zU_n (by decide)).trans ((zU_n (by decide)).trans ((zU_n (by decide)).trans ((zU_n (by decide)).trans ((zU_n (by decide)).trans ((zU_n (by decide)).trans ((zU_n (by decide)).trans ((zU_n (by decide)).trans ((zU_n (by decide)).trans ((zU_n (by decide)).trans ((zU_n (by decide)).trans ((zU_n (by decide)).trans ((a5 _ hb1.1 hb1.2).1.symm.trans hk))))))))))))))))))))))))))))))))))))))))))) ?_
  refine z_pushJ gp_237_60 ?_
  refine z_icmp_neT gi_237_62 zr_5 zr_6 (by decide) ?_
  refine z_aload0 gi_237_74 ?_
  refine z_iload1 gi_237_75 ?_
  refine z_iload2 gi_237_76 ?_
  refine z_cV2 gi_237_77 gk_50 go_235 (Nat.le_of_ble_eq_true rfl) gc_235_RII ?_
  refine z_aload0 gi_235_0 ?_
  refine z_pushJ gp_235_1 ?_
  refine z_callVx (As := [_]) gi_235_2 rfl rfl (Nat.le_of_ble_eq_true rfl) (Nat.le_of_ble_eq_true rfl) (rn_k (n := 9) (m := 10) hRr (zU_e) (by decide) (by decide)) ?_
  show zW _ _ _ _ _ _ _ _ _ _
  refine z_iload2 gi_235_5 ?_
  refine z_iload1 gi_235_6 ?_
  refine z_iadd (e := 2 + b) gi_235_7 rfl ?_
  refine z_iret gi_235_8 gr_235 ?_
  show zW _ _ _ _ _ _ _ _ _ _
  refine z_iret gi_237_80 gr_237 ?_
  show zW _ _ _ _ _ _ _ _ _ _
  refine z_isub (e := (zxor 1 b) * 3 - (2 + b)) gi_243_30 rfl ?_
  refine z_iret gi_243_31 gr_243 ?_
  show zW _ _ _ _ _ _ _ _ _ _
  refine z_isub (e := (-((x + 1 + b) * 2)) - ((zxor 1 b) * 3 - (2 + b))) gi_244_19 rfl ?_
  refine z_iret gi_244_20 gr_244 ?_
  show zW _ _ _ _ _ _ _ _ _ _
  refine z_pushJ gp_245_47 ?_
  refine z_iadd (e := (-((x + 1 + b) * 2)) - ((zxor 1 b) * 3 - (2 + b)) + 1) rfl rfl ?_
  refine z_iret rfl gr_245 ?_
  show zW _ _ _ _ _ _ _ _ _ _
  refine z_iret gi_246_71 gr_246 ?_
  refine ⟨?_, ?_⟩
  · rfl
  · have hk := (zK_x (a := 50) (x := 56) (v := 10) (zK_x (a := 82) (x := 9) (v := 1) (zK_x (a := 50) (x := 56) (v := 9) (zK_x (a := 82) (x := 8) (v := 11) (zK_x (a := 50) (x := 56) (v := 8) (zK_x (a := 82) (x := 7) (v := 40) (zK_x (a := 50) (x := 56) (v := 7) (zK_x (a := 82) (x := 6) (v := 60) (zK_x (a := 50) (x := 56) (v := 6) (zK_x (a := 82) (x := 5) (v := 1) (zK_x (a := 50) (x := 56) (v := 5) (zK_x (a := 82) (x := 4) (v := 10) (zK_x (a := 50) (x := 56) (v := 4) (zK_x (a := 82) (x := 3) (v := 30) (zK_x (a := 50) (x := 56) (v := 3) (zK_x (a := 82) (x := 2) (v := 41) (zK_x (a := 50) (x := 56) (v := 2) (zK_x (a := 82) (x := 1) (v := 2) (zK_x (a := 50) (x := 56) (v := 1) (zK_x (a := 82) (x := 0) (v := 61) (zK_x (a := 50) (x := 56) (v := 0) (zK_x (a := 34) (x := 3) (v := 10) (zK_x (a := 36) (x := 9) (v := 1) (zK_x (a := 34) (x := 3) (v := 9) (zK_x (a := 36) (x := 8) (v := 11) (zK_x (a := 34) (x := 3) (v := 8) (zK_x (a := 36) (x := 7) (v := 40) (zK_x (a := 34) (x := 3) (v := 7) (zK_x (a := 36) (x := 6) (v := 60) (zK_x (a := 34) (x := 3) (v := 6) (zK_x (a := 36) (x := 5) (v := 1) (zK_x (a := 34) (x := 3) (v := 5) (zK_x (a := 36) (x := 4) (v := 10) (zK_x (a := 34) (x := 3) (v := 4) (zK_x (a := 36) (x := 3) (v := 30) (zK_x (a := 34) (x := 3) (v := 3) (zK_x (a := 36) (x := 2) (v := 41) (zK_x (a := 34) (x := 3) (v := 2) (zK_x (a := 36) (x := 1) (v := 2) (zK_x (a := 34) (x := 3) (v := 1) (zK_x (a := 36) (x := 0) (v := 61) (zK_x (a := 34) (x := 5) (v := 5) (zK_x (a := 34) (x := 4) (v := b) (zK_x (a := 34) (x := 3) (v := 0) (zK_r (k := (kL [] [(34, 3), (34, 4), (34, 5), (36, 0), (36, 1), (36, 2), (36, 3), (36, 4), (36, 5), (36, 6), (36, 7), (36, 8), (36, 9), (50, 56), (82, 0), (82, 1), (82, 2), (82, 3), (82, 4), (82, 5), (82, 6), (82, 7), (82, 8), (82, 9)])) (A := J)) rfl) rfl) rfl) rfl) rfl) rfl) rfl) rfl) rfl) rfl) rfl) rfl) rfl) rfl) rfl) rfl) rfl) rfl) rfl) rfl) rfl) rfl) rfl) rfl) rfl) rfl) rfl) rfl) rfl) rfl) rfl) rfl) rfl) rfl) rfl) rfl) rfl) rfl) rfl) rfl) rfl) rfl) rfl) rfl)
    exact ⟨hR, hG, RelY_k hk (by repeat' constructor) (fun p => by repeat' constructor) hY, RelD_k hk (by repeat' constructor) (fun p => by repeat' constructor) hD, RelP_k hk (by repeat' constructor) (fun p => by repeat' constructor) hP, RelC_k hk (by repeat' constructor) (fun p => by repeat' constructor) hC, ⟨(show J 34 1 = J 50 54 from a1), (show 0 ≤ J 34 1 ∧ J 34 1 ≤ 50 from a2), rfl, (show (0 : Int) ≤ 10 ∧ (10 : Int) ≤ 1000 from by decide), (fun i i1 i2 => a5 i i1 i2), (fun i i1 i2 _ => by have i3 : i < 10 := i2; have q : i = 0 ∨ i = 1 ∨ i = 2 ∨ i = 3 ∨ i = 4 ∨ i = 5 ∨ i = 6 ∨ i = 7 ∨ i = 8 ∨ i = 9 := (by omega); rcases q with rfl | rfl | rfl | rfl | rfl | rfl | rfl | rfl | rfl | rfl <;> rfl)⟩, RelS_k hk (zK_r (k := kM)) (fun x j a b => ⟨kL_38 (by decide) (by decide) x j a b, kM_38 x j a b⟩) (fun p => ⟨rfl, rfl, rfl⟩) rfl hS, RelT_k hk (by repeat' constructor) (fun p => by repeat' constructor) hTp, RelX_k hk (by repeat' constructor) (fun p => by repeat' constructor) hX, RelW_k hk ⟨rfl, rfl⟩ trivial hW⟩
theorem iu_6_1 {X : Nat × (Nat → Int32)} {d : Nat} {J M : zA} {R : zR} : zW X d 234 0 (gEn 234 [(zi 6), (zi 1)]) [] J M R (zPu 0 J M R) := by
  show zW _ _ _ _ [some (zi 6), some (zi 1)] _ _ _ _ _
  refine z_iload1 gi_234_0 ?_
  refine z_if_eqF gi_234_1 zr_1 (by decide) ?_
  refine z_iload0 gi_234_4 ?_
  refine z_iload1 gi_234_5 ?_
  refine z_icmp_eqF gi_234_6 zr_6 zr_1 (by decide) ?_
  refine z_iload1 gi_234_9 ?_
  refine z_pushJ gp_234_10 ?_
  refine z_icmp_neF gi_234_11 zr_1 zr_1 (by decide) ?_
  refine z_iload0 gi_234_14 ?_
  refine z_pushJ gp_234_15 ?_
  refine z_icmp_eqF gi_234_16 zr_6 zr_4 (by decide) ?_
  refine z_iload1 gi_234_19 ?_
  refine z_pushJ gp_234_20 ?_
  refine z_icmp_neT gi_234_21 zr_1 zr_2 (by decide) ?_
  refine z_iload1 gi_234_34 ?_
  refine z_pushJ gp_234_35 ?_
  refine z_icmp_neT gi_234_36 zr_1 zr_3 (by decide) ?_
  refine z_iload1 gi_234_44 ?_
  refine z_pushJ gp_234_45 ?_
  refine z_icmp_neT gi_234_47 zr_1 zr_6 (by decide) ?_
  refine z_pushJ gp_234_60 ?_
  refine z_bret0 gi_234_61 gr_234 ?_
  exact ⟨rfl, rfl, rfl, rfl⟩
theorem st_act_60 {X : Nat × (Nat → Int32)} {d : Nat} {J M : zA} {R : zR} {b x : Int} (hr : Rel X J M R) (hb : -2147483648 ≤ b ∧ b < 2147483648) (hx : -2147483648 ≤ x ∧ x < 2147483648) (hb1 : 0 ≤ b ∧ b < J 34 1) (hk : J 35 b = 6) : zW X (d + 20) 134 0 (gEn 134 [(.ref 0), (zi b), (zi 0), (zi x)]) [] J M R (stP X (d + 20) 246 [(zi b), (zi 0), (zi x)]) := by
  have hr0 := hr
  obtain ⟨hR, hG, hY, hD, hP, hC, hAc, hS, hTp, hX, hW⟩ := hr0
  have hRr : zRoR R := zRoR_of hR
  have hA0 := hAc
  obtain ⟨a1, a2, a3, a4, a5, a6⟩ := hA0
  show zW _ _ _ _ [some (.ref 0), some (zi b), some (zi 0), some (zi x)] _ _ _ _ _
  refine z_aload0 gi_134_0 ?_
  refine z_getR (r := 34) gi_134_1 gk_0 (hR _ rm_0_10) ?_
  refine z_iload1 gi_134_4 ?_
  refine z_iload2 gi_134_5 ?_
  refine z_iload3 gi_134_6 ?_
  refine z_cV3 gi_134_7 gk_34 go_7 (Nat.le_of_ble_eq_true rfl) gc_7_RIII ?_
  refine z_aload0 gi_7_0 ?_
  refine z_pushJ gp_7_1 ?_
  refine z_putI (y := 3) gi_7_2 rfl gk_34 ?_
  refine z_aload0 gi_7_5 ?_
  refine z_iload1 gi_7_6 ?_
  refine z_cV1 gi_7_7 gk_34 go_3 (Nat.le_of_ble_eq_true rfl) gc_3_RI ?_
  refine z_iload1 gi_3_0 ?_
  refine z_if_ltF gi_3_1 (by omega) (by omega) ?_
  refine z_iload1 gi_3_4 ?_
  refine z_aload0 gi_3_5 ?_
  refine z_getI (v := J 34 1) gi_3_6 gk_34 ((zU_x (by decide)).trans (rfl)) ?_
  refine z_icmp_geF gi_3_9 (by omega) (by omega) (by omega) ?_
  refine z_pushJ gp_3_12 ?_
  refine z_goto gi_3_13 ?_
  refine z_bret1 gi_3_17 gr_3 ?_
  show zW _ _ _ _ _ _ _ _ _ _
  refine z_if_eqF gi_7_10 zr_1 (by decide) ?_
  refine z_iload2 gi_7_13 ?_
  refine z_if_ltF gi_7_14 zr_0 (by decide) ?_
  refine z_iload2 gi_7_17 ?_
  refine z_pushJ gp_7_18 ?_
  refine z_icmp_ltT gi_7_19 zr_0 zr_4 (by decide) ?_
  refine z_aload0 gi_7_24 ?_
  refine z_iload1 gi_7_25 ?_
  refine z_putI (y := 4) gi_7_26 rfl gk_34 ?_
  refine z_aload0 gi_7_29 ?_
  refine z_aload0 gi_7_30 ?_
  refine z_getR (r := 35) gi_7_31 gk_34 (hR _ rm_34_0) ?_
  refine z_iload1 gi_7_34 ?_
  refine z_iald (v := 6) gi_7_35 gk_35 (by decide) (by omega) ((zU_n (by decide)).trans ((zU_n (by decide)).trans (hk))) ?_
  refine z_putI (y := 5) gi_7_36 rfl gk_34 ?_
  refine z_aload0 gi_7_39 ?_
  refine z_iload2 gi_7_40 ?_
  refine z_iload3 gi_7_41 ?_
  refine z_pushJ gp_7_42 ?_
  refine z_cV3 gi_7_43 gk_34 go_8 (Nat.le_of_ble_eq_true rfl) gc_8_RIII ?_
  refine z_aload0 gi_8_0 ?_
  refine z_aload0 gi_8_1 ?_
  refine z_getI (v := 6) gi_8_2 gk_34 (zU_e) ?_
  refine z_iload1 gi_8_5 ?_
  refine z_iload2 gi_8_6 ?_
  refine z_iload3 gi_8_7 ?_
  refine z_callVi (As := [_, _, _, _]) (le := [some _, some _, some _, some _, some _, none, none]) gi_8_8 rfl gk_34 (Nat.le_of_ble_eq_true rfl) (Nat.le_of_ble_eq_true rfl) rfl ?_
  refine ah_6_0 (by decide) ?_
  refine z_aload0 gi_9_77 ?_
  refine z_iload6 gi_9_78 ?_
  refine z_callVx (As := [_]) gi_9_80 rfl rfl (Nat.le_of_ble_eq_true rfl) (Nat.le_of_ble_eq_true rfl) (bg_k (n := 0) (m := 1) hR ((zU_x (by decide)).trans ((zU_x (by decide)).trans (zU_e))) (by decide) (by decide)) ?_
  show zW _ _ _ _ _ _ _ _ _ _
  refine z_iload5 gi_9_83 ?_
  refine z_if_neT gi_9_85 zr_6 (by decide) ?_
  refine z_aload0 gi_9_100 ?_
  refine z_iload6 gi_9_101 ?_
  refine z_getS gi_9_103 ?_
  refine z_iload5 gi_9_106 ?_
  refine z_sald (j := 4) (n := 8) (v := 0) gi_9_108 (by decide) rfl (by decide) (by decide) rfl ?_
  refine z_iload3 gi_9_109 ?_
  refine z_iload4 gi_9_110 ?_
  refine z_pushJ gp_9_112 ?_
  refine z_iadd (e := 1) gi_9_113 rfl ?_
  refine z_callVi (As := [_, _, _, _]) (le := [some _, some _, some _, some _, some _, none, none]) gi_9_114 rfl gk_34 (Nat.le_of_ble_eq_true rfl) (Nat.le_of_ble_eq_true rfl) rfl ?_
  refine z_iload1 gi_12_0 ?_
  refine z_swI (tg := 186) gi_12_1 (by decide) (T := [((20 : Int), 92), ((30 : Int), 104), ((40 : Int), 115), ((41 : Int), 127), ((50 : Int), 139), ((60 : Int), 151), ((61 : Int), 174), ((70 : Int), 186), ((80 : Int), 198), ((81 : Int), 221)]) rfl (by decide) ?_
  refine z_aload0 gi_12_186 ?_
  refine z_iload2 gi_12_187 ?_
  refine z_pushJ gp_12_188 ?_
  refine z_iload3 gi_12_189 ?_
  refine z_iload4 gi_12_190 ?_
  refine z_callVi (As := [_, _, _, _]) (le := [some _, some _, some _, some _, some _, none, none]) gi_12_192 rfl gk_34 (Nat.le_of_ble_eq_true rfl) (Nat.le_of_ble_eq_true rfl) rfl ?_
  refine ah_0_0 (by decide) ?_
  refine z_aload0 gi_9_77 ?_
  refine z_iload6 gi_9_78 ?_
  refine z_callVx (As := [_]) gi_9_80 rfl rfl (Nat.le_of_ble_eq_true rfl) (Nat.le_of_ble_eq_true rfl) (bg_k (n := 1) (m := 2) hR (zU_e) (by decide) (by decide)) ?_
  show zW _ _ _ _ _ _ _ _ _ _
  refine z_iload5 gi_9_83 ?_
  refine z_if_neF gi_9_85 zr_0 (by decide) ?_
  refine z_aload0 gi_9_88 ?_
  refine z_iload6 gi_9_89 ?_
  refine z_iload3 gi_9_91 ?_
  refine z_iload4 gi_9_92 ?_
  refine z_pushJ gp_9_94 ?_
  refine z_iadd (e := 2) gi_9_95 rfl ?_
  refine z_callVi (As := [_, _, _]) (le := [some _, some _, some _, some _, none]) gi_9_96 rfl gk_34 (Nat.le_of_ble_eq_true rfl) (Nat.le_of_ble_eq_true rfl) rfl ?_
  refine z_iload1 gi_11_0 ?_
  refine z_swI (tg := 44) gi_11_1 (by decide) (T := [((1 : Int), 44), ((2 : Int), 51), ((10 : Int), 71), ((11 : Int), 81)]) rfl (by decide) ?_
  refine z_iload2 gi_11_44 ?_
  refine z_aload0 gi_11_45 ?_
  refine z_getI (v := b) gi_11_46 gk_34 ((zU_x (by decide)).trans ((zU_n (by decide)).trans ((zU_x (by decide)).trans ((zU_n (by decide)).trans ((zU_x (by decide)).trans (zU_e)))))) ?_
  refine z_iadd (e := x + b) gi_11_49 rfl ?_
  refine z_iret gi_11_50 gr_11 ?_
  show zW _ _ _ _ _ _ _ _ _ _
  refine z_iret gi_9_99 gr_9 ?_
  show zW _ _ _ _ _ _ _ _ _ _
  refine z_pushJ gp_12_195 ?_
  refine z_imul (e := (x + b) * 2) gi_12_196 rfl ?_
  refine z_iret gi_12_197 gr_12 ?_
  show zW _ _ _ _ _ _ _ _ _ _
  refine z_iret gi_9_117 gr_9 ?_
  show zW _ _ _ _ _ _ _ _ _ _
  refine z_iret gi_8_11 gr_8 ?_
  show zW _ _ _ _ _ _ _ _ _ _
  refine z_iret gi_7_46 gr_7 ?_
  show zW _ _ _ _ _ _ _ _ _ _
  refine z_iret gi_134_10 gr_134 ?_
  refine ⟨_, rfl, ?_⟩
  show zW _ _ _ _ [some (.ref 50), some (zi b), some (zi 0), some (zi x)] _ _ _ _ _
  refine z_aload0 gi_246_0 ?_
  refine z_pushJ gp_246_1 ?_
  refine z_putI (y := 56) gi_246_2 rfl gk_50 ?_
  refine z_aload0 gi_246_5 ?_
  refine z_iload1 gi_246_6 ?_
  refine z_cV1 gi_246_7 gk_50 go_230 (Nat.le_of_ble_eq_true rfl) gc_230_RI ?_
  refine z_iload1 gi_230_0 ?_
  refine z_pushJ gp_230_1 ?_
  refine z_aload0 gi_230_2 ?_
  refine z_getI (v := J 34 1) gi_230_3 gk_50 ((zU_x (by decide)).trans ((zU_n (by decide)).trans ((zU_n (by decide)).trans ((zU_n (by decide)).trans ((zU_n (by decide)).trans ((zU_n (by decide)).trans ((zU_n (by decide)).trans ((zU_n (by decide)).trans (a1.symm))))))))) ?_
  refine z_pushJ gp_230_6 ?_
  refine z_isub (e := (J 34 1) - 1) gi_230_7 rfl ?_
  refine z_cS3 gi_230_8 (Nat.le_of_ble_eq_true rfl) gc_148_III ?_
  refine z_iload0 gi_148_0 ?_
  refine z_iload1 gi_148_1 ?_
  refine z_icmp_ltF gi_148_2 (by omega) zr_0 (by omega) ?_
  refine z_iload0 gi_148_5 ?_
  refine z_iload2 gi_148_6 ?_
  refine z_icmp_gtF gi_148_7 (by omega) (by omega) (by omega) ?_
  refine z_pushJ gp_148_10 ?_
  refine z_goto gi_148_11 ?_
  refine z_bret1 gi_148_15 gr_148 ?_
  show zW _ _ _ _ _ _ _ _ _ _
  refine z_bret1 gi_230_11 gr_230 ?_
  show zW _ _ _ _ _ _ _ _ _ _
  refine z_if_eqF gi_246_10 zr_1 (by decide) ?_
  refine z_iload2 gi_246_13 ?_
  refine z_pushJ gp_246_14 ?_
  refine z_pushJ gp_246_15 ?_
  refine z_cS3 gi_246_16 (Nat.le_of_ble_eq_true rfl) gc_148_III ?_
  refine z_iload0 gi_148_0 ?_
  refine z_iload1 gi_148_1 ?_
  refine z_icmp_ltF gi_148_2 zr_0 zr_0 (by decide) ?_
  refine z_iload0 gi_148_5 ?_
  refine z_iload2 gi_148_6 ?_
  refine z_icmp_gtF gi_148_7 zr_0 zr_3 (by decide) ?_
  refine z_pushJ gp_148_10 ?_
  refine z_goto gi_148_11 ?_
  refine z_bret1 gi_148_15 gr_148 ?_
  show zW _ _ _ _ _ _ _ _ _ _
  refine z_if_neT gi_246_19 zr_1 (by decide) ?_
  refine z_iload2 gi_246_24 ?_
  refine z_if_neF gi_246_25 zr_0 (by decide) ?_
  refine z_aload0 gi_246_28 ?_
  refine z_iload1 gi_246_29 ?_
  refine z_iload3 gi_246_30 ?_
  refine z_cV2 gi_246_31 gk_50 go_237 (Nat.le_of_ble_eq_true rfl) gc_237_RII ?_
  refine z_aload0 gi_237_0 ?_
  refine z_getR (r := 81) gi_237_1 gk_50 (hRr _ rm_50_55 (by decide)) ?_
  refine z_iload1 gi_237_4 ?_
  refine z_iald (v := 6) gi_237_5 gk_81 (by decide) (by omega) ((zU_n (by decide)).trans ((zU_n (by decide)).trans ((zU_n (by decide)).trans ((zU_n (by decide)).trans ((zU_n (by decide)).trans ((zU_n (by decide)).trans ((zU_n (by decide)).trans ((zU_n (by decide)).trans ((a5 _ hb1.1 hb1.2).1.symm.trans hk))))))))) ?_
  refine z_pushJ gp_237_6 ?_
  refine z_callSP (As := [_, _]) (v := 0) gi_237_7 rfl (Nat.le_of_ble_eq_true rfl) (Nat.le_of_ble_eq_true rfl) iu_6_1 ?_
  refine z_if_eqT gi_237_10 zr_0 (by decide) ?_
  refine z_aload0 gi_237_28 ?_
  refine z_getR (r := 81) gi_237_29 gk_50 (hRr _ rm_50_55 (by decide)) ?_
  refine z_iload1 gi_237_32 ?_
  refine z_iald (v := 6) gi_237_33 gk_81 (by decide) (by omega) ((zU_n (by decide)).trans ((zU_n (by decide)).trans ((zU_n (by decide)).trans ((zU_n (by decide)).trans ((zU_n (by decide)).trans ((zU_n (by decide)).trans ((zU_n (by decide)).trans ((zU_n (by decide)).trans ((a5 _ hb1.1 hb1.2).1.symm.trans hk))))))))) ?_
  refine z_pushJ gp_237_34 ?_
  refine z_icmp_neT gi_237_36 zr_6 zr_7 (by decide) ?_
  refine z_aload0 gi_237_54 ?_
  refine z_getR (r := 81) gi_237_55 gk_50 (hRr _ rm_50_55 (by decide)) ?_
  refine z_iload1 gi_237_58 ?_
  refine z_iald (v := 6) gi_237_59 gk_81 (by decide) (by omega) ((zU_n (by decide)).trans ((zU_n (by decide)).trans ((zU_n (by decide)).trans ((zU_n (by decide)).trans ((zU_n (by decide)).trans ((zU_n (by decide)).trans ((zU_n (by decide)).trans ((zU_n (by decide)).trans ((a5 _ hb1.1 hb1.2).1.symm.trans hk))))))))) ?_
  refine z_pushJ gp_237_60 ?_
  refine z_icmp_neF gi_237_62 zr_6 zr_6 (by decide) ?_
  refine z_aload0 gi_237_65 ?_
  refine z_iload1 gi_237_66 ?_
  refine z_iload2 gi_237_67 ?_
  refine z_cV2 gi_237_68 gk_50 go_236 (Nat.le_of_ble_eq_true rfl) gc_236_RII ?_
  refine z_aload0 gi_236_0 ?_
  refine z_pushJ gp_236_1 ?_
  refine z_callVx (As := [_]) gi_236_3 rfl rfl (Nat.le_of_ble_eq_true rfl) (Nat.le_of_ble_eq_true rfl) (rn_k (n := 0) (m := 1) hRr (zU_e) (by decide) (by decide)) ?_
  show zW _ _ _ _ _ _ _ _ _ _
  refine z_aload0 gi_236_6 ?_
  refine z_iload1 gi_236_7 ?_
  refine z_iload2 gi_236_8 ?_
  refine z_cV2 gi_236_9 gk_50 go_235 (Nat.le_of_ble_eq_true rfl) gc_235_RII ?_
  refine z_aload0 gi_235_0 ?_
  refine z_pushJ gp_235_1 ?_
  refine z_callVx (As := [_]) gi_235_2 rfl rfl (Nat.le_of_ble_eq_true rfl) (Nat.le_of_ble_eq_true rfl) (rn_k (n := 1) (m := 2) hRr (zU_e) (by decide) (by decide)) ?_
  show zW _ _ _ _ _ _ _ _ _ _
  refine z_iload2 gi_235_5 ?_
  refine z_iload1 gi_235_6 ?_
  refine z_iadd (e := x + b) gi_235_7 rfl ?_
  refine z_iret gi_235_8 gr_235 ?_
  show zW _ _ _ _ _ _ _ _ _ _
  refine z_pushJ gp_236_12 ?_
  refine z_imul (e := (x + b) * 2) gi_236_13 rfl ?_
  refine z_iret gi_236_14 gr_236 ?_
  show zW _ _ _ _ _ _ _ _ _ _
  refine z_goto gi_237_71 ?_
  refine z_iret gi_237_80 gr_237 ?_
  show zW _ _ _ _ _ _ _ _ _ _
  refine z_goto gi_246_34 ?_
  refine z_iret gi_246_71 gr_246 ?_
  refine ⟨?_, ?_⟩
  · rfl
  · have hk := (zK_x (a := 50) (x := 56) (v := 2) (zK_x (a := 82) (x := 1) (v := 1) (zK_x (a := 50) (x := 56) (v := 1) (zK_x (a := 82) (x := 0) (v := 70) (zK_x (a := 50) (x := 56) (v := 0) (zK_x (a := 34) (x := 3) (v := 2) (zK_x (a := 36) (x := 1) (v := 1) (zK_x (a := 34) (x := 3) (v := 1) (zK_x (a := 36) (x := 0) (v := 70) (zK_x (a := 34) (x := 5) (v := 6) (zK_x (a := 34) (x := 4) (v := b) (zK_x (a := 34) (x := 3) (v := 0) (zK_r (k := (kL [] [(34, 3), (34, 4), (34, 5), (36, 0), (36, 1), (50, 56), (82, 0), (82, 1)])) (A := J)) rfl) rfl) rfl) rfl) rfl) rfl) rfl) rfl) rfl) rfl) rfl) rfl)
    exact ⟨hR, hG, RelY_k hk (by repeat' constructor) (fun p => by repeat' constructor) hY, RelD_k hk (by repeat' constructor) (fun p => by repeat' constructor) hD, RelP_k hk (by repeat' constructor) (fun p => by repeat' constructor) hP, RelC_k hk (by repeat' constructor) (fun p => by repeat' constructor) hC, ⟨(show J 34 1 = J 50 54 from a1), (show 0 ≤ J 34 1 ∧ J 34 1 ≤ 50 from a2), rfl, (show (0 : Int) ≤ 2 ∧ (2 : Int) ≤ 1000 from by decide), (fun i i1 i2 => a5 i i1 i2), (fun i i1 i2 _ => by have i3 : i < 2 := i2; have q : i = 0 ∨ i = 1 := (by omega); rcases q with rfl | rfl <;> rfl)⟩, RelS_k hk (zK_r (k := kM)) (fun x j a b => ⟨kL_38 (by decide) (by decide) x j a b, kM_38 x j a b⟩) (fun p => ⟨rfl, rfl, rfl⟩) rfl hS, RelT_k hk (by repeat' constructor) (fun p => by repeat' constructor) hTp, RelX_k hk (by repeat' constructor) (fun p => by repeat' constructor) hX, RelW_k hk ⟨rfl, rfl⟩ trivial hW⟩
theorem iu_6_3 {X : Nat × (Nat → Int32)} {d : Nat} {J M : zA} {R : zR} : zW X d 234 0 (gEn 234 [(zi 6), (zi 3)]) [] J M R (zPu 0 J M R) := by
  show zW _ _ _ _ [some (zi 6), some (zi 3)] _ _ _ _ _
  refine z_iload1 gi_234_0 ?_
  refine z_if_eqF gi_234_1 zr_3 (by decide) ?_
  refine z_iload0 gi_234_4 ?_
  refine z_iload1 gi_234_5 ?_
  refine z_icmp_eqF gi_234_6 zr_6 zr_3 (by decide) ?_
  refine z_iload1 gi_234_9 ?_
  refine z_pushJ gp_234_10 ?_
  refine z_icmp_neT gi_234_11 zr_3 zr_1 (by decide) ?_
  refine z_iload1 gi_234_19 ?_
  refine z_pushJ gp_234_20 ?_
  refine z_icmp_neT gi_234_21 zr_3 zr_2 (by decide) ?_
  refine z_iload1 gi_234_34 ?_
  refine z_pushJ gp_234_35 ?_
  refine z_icmp_neF gi_234_36 zr_3 zr_3 (by decide) ?_
  refine z_iload0 gi_234_39 ?_
  refine z_pushJ gp_234_40 ?_
  refine z_icmp_eqF gi_234_41 zr_6 zr_5 (by decide) ?_
  refine z_iload1 gi_234_44 ?_
  refine z_pushJ gp_234_45 ?_
  refine z_icmp_neT gi_234_47 zr_3 zr_6 (by decide) ?_
  refine z_pushJ gp_234_60 ?_
  refine z_bret0 gi_234_61 gr_234 ?_
  exact ⟨rfl, rfl, rfl, rfl⟩
theorem st_act_61 {X : Nat × (Nat → Int32)} {d : Nat} {J M : zA} {R : zR} {b x : Int} (hr : Rel X J M R) (hb : -2147483648 ≤ b ∧ b < 2147483648) (hx : -2147483648 ≤ x ∧ x < 2147483648) (hb1 : 0 ≤ b ∧ b < J 34 1) (hk : J 35 b = 6) : zW X (d + 20) 134 0 (gEn 134 [(.ref 0), (zi b), (zi 1), (zi x)]) [] J M R (stP X (d + 20) 246 [(zi b), (zi 1), (zi x)]) := by
  have hr0 := hr
  obtain ⟨hR, hG, hY, hD, hP, hC, hAc, hS, hTp, hX, hW⟩ := hr0
  have hRr : zRoR R := zRoR_of hR
  have hA0 := hAc
  obtain ⟨a1, a2, a3, a4, a5, a6⟩ := hA0
  show zW _ _ _ _ [some (.ref 0), some (zi b), some (zi 1), some (zi x)] _ _ _ _ _
  refine z_aload0 gi_134_0 ?_
  refine z_getR (r := 34) gi_134_1 gk_0 (hR _ rm_0_10) ?_
  refine z_iload1 gi_134_4 ?_
  refine z_iload2 gi_134_5 ?_
  refine z_iload3 gi_134_6 ?_
  refine z_cV3 gi_134_7 gk_34 go_7 (Nat.le_of_ble_eq_true rfl) gc_7_RIII ?_
  refine z_aload0 gi_7_0 ?_
  refine z_pushJ gp_7_1 ?_
  refine z_putI (y := 3) gi_7_2 rfl gk_34 ?_
  refine z_aload0 gi_7_5 ?_
  refine z_iload1 gi_7_6 ?_
  refine z_cV1 gi_7_7 gk_34 go_3 (Nat.le_of_ble_eq_true rfl) gc_3_RI ?_
  refine z_iload1 gi_3_0 ?_
  refine z_if_ltF gi_3_1 (by omega) (by omega) ?_
  refine z_iload1 gi_3_4 ?_
  refine z_aload0 gi_3_5 ?_
  refine z_getI (v := J 34 1) gi_3_6 gk_34 ((zU_x (by decide)).trans (rfl)) ?_
  refine z_icmp_geF gi_3_9 (by omega) (by omega) (by omega) ?_
  refine z_pushJ gp_3_12 ?_
  refine z_goto gi_3_13 ?_
  refine z_bret1 gi_3_17 gr_3 ?_
  show zW _ _ _ _ _ _ _ _ _ _
  refine z_if_eqF gi_7_10 zr_1 (by decide) ?_
  refine z_iload2 gi_7_13 ?_
  refine z_if_ltF gi_7_14 zr_1 (by decide) ?_
  refine z_iload2 gi_7_17 ?_
  refine z_pushJ gp_7_18 ?_
  refine z_icmp_ltT gi_7_19 zr_1 zr_4 (by decide) ?_
  refine z_aload0 gi_7_24 ?_
  refine z_iload1 gi_7_25 ?_
  refine z_putI (y := 4) gi_7_26 rfl gk_34 ?_
  refine z_aload0 gi_7_29 ?_
  refine z_aload0 gi_7_30 ?_
  refine z_getR (r := 35) gi_7_31 gk_34 (hR _ rm_34_0) ?_
  refine z_iload1 gi_7_34 ?_
  refine z_iald (v := 6) gi_7_35 gk_35 (by decide) (by omega) ((zU_n (by decide)).trans ((zU_n (by decide)).trans (hk))) ?_
  refine z_putI (y := 5) gi_7_36 rfl gk_34 ?_
  refine z_aload0 gi_7_39 ?_
  refine z_iload2 gi_7_40 ?_
  refine z_iload3 gi_7_41 ?_
  refine z_pushJ gp_7_42 ?_
  refine z_cV3 gi_7_43 gk_34 go_8 (Nat.le_of_ble_eq_true rfl) gc_8_RIII ?_
  refine z_aload0 gi_8_0 ?_
  refine z_aload0 gi_8_1 ?_
  refine z_getI (v := 6) gi_8_2 gk_34 (zU_e) ?_
  refine z_iload1 gi_8_5 ?_
  refine z_iload2 gi_8_6 ?_
  refine z_iload3 gi_8_7 ?_
  refine z_callVi (As := [_, _, _, _]) (le := [some _, some _, some _, some _, some _, none, none]) gi_8_8 rfl gk_34 (Nat.le_of_ble_eq_true rfl) (Nat.le_of_ble_eq_true rfl) rfl ?_
  refine ah_6_1 (by decide) ?_
  refine z_aload0 gi_9_77 ?_
  refine z_iload6 gi_9_78 ?_
  refine z_callVx (As := [_]) gi_9_80 rfl rfl (Nat.le_of_ble_eq_true rfl) (Nat.le_of_ble_eq_true rfl) (bg_k (n := 0) (m := 1) hR ((zU_x (by decide)).trans ((zU_x (by decide)).trans (zU_e))) (by decide) (by decide)) ?_
  show zW _ _ _ _ _ _ _ _ _ _
  refine z_iload5 gi_9_83 ?_
  refine z_if_neF gi_9_85 zr_0 (by decide) ?_
  refine z_aload0 gi_9_88 ?_
  refine z_iload6 gi_9_89 ?_
  refine z_iload3 gi_9_91 ?_
  refine z_iload4 gi_9_92 ?_
  refine z_pushJ gp_9_94 ?_
  refine z_iadd (e := 1) gi_9_95 rfl ?_
  refine z_callVi (As := [_, _, _]) (le := [some _, some _, some _, some _, none]) gi_9_96 rfl gk_34 (Nat.le_of_ble_eq_true rfl) (Nat.le_of_ble_eq_true rfl) rfl ?_
  refine z_iload1 gi_11_0 ?_
  refine z_swI (tg := 71) gi_11_1 (by decide) (T := [((1 : Int), 44), ((2 : Int), 51), ((10 : Int), 71), ((11 : Int), 81)]) rfl (by decide) ?_
  refine z_aload0 gi_11_71 ?_
  refine z_pushJ gp_11_72 ?_
  refine z_iload2 gi_11_73 ?_
  refine z_iload3 gi_11_74 ?_
  refine z_cV3 gi_11_75 gk_34 go_8 (Nat.le_of_ble_eq_true rfl) gc_8_RIII ?_
  refine z_aload0 gi_8_0 ?_
  refine z_aload0 gi_8_1 ?_
  refine z_getI (v := 6) gi_8_2 gk_34 ((zU_x (by decide)).trans ((zU_n (by decide)).trans (zU_e))) ?_
  refine z_iload1 gi_8_5 ?_
  refine z_iload2 gi_8_6 ?_
  refine z_iload3 gi_8_7 ?_
  refine z_callVi (As := [_, _, _, _]) (le := [some _, some _, some _, some _, some _, none, none]) gi_8_8 rfl gk_34 (Nat.le_of_ble_eq_true rfl) (Nat.le_of_ble_eq_true rfl) rfl ?_
  refine ah_6_0 (by decide) ?_
  refine z_aload0 gi_9_77 ?_
  refine z_iload6 gi_9_78 ?_
  refine z_callVx (As := [_]) gi_9_80 rfl rfl (Nat.le_of_ble_eq_true rfl) (Nat.le_of_ble_eq_true rfl) (bg_k (n := 1) (m := 2) hR (zU_e) (by decide) (by decide)) ?_
  show zW _ _ _ _ _ _ _ _ _ _
  refine z_iload5 gi_9_83 ?_
  refine z_if_neT gi_9_85 zr_6 (by decide) ?_
  refine z_aload0 gi_9_100 ?_
  refine z_iload6 gi_9_101 ?_
  refine z_getS gi_9_103 ?_
  refine z_iload5 gi_9_106 ?_
  refine z_sald (j := 4) (n := 8) (v := 0) gi_9_108 (by decide) rfl (by decide) (by decide) rfl ?_
  refine z_iload3 gi_9_109 ?_
  refine z_iload4 gi_9_110 ?_
  refine z_pushJ gp_9_112 ?_
  refine z_iadd (e := 2) gi_9_113 rfl ?_
  refine z_callVi (As := [_, _, _, _]) (le := [some _, some _, some _, some _, some _, none, none]) gi_9_114 rfl gk_34 (Nat.le_of_ble_eq_true rfl) (Nat.le_of_ble_eq_true rfl) rfl ?_
  refine z_iload1 gi_12_0 ?_
  refine z_swI (tg := 186) gi_12_1 (by decide) (T := [((20 : Int), 92), ((30 : Int), 104), ((40 : Int), 115), ((41 : Int), 127), ((50 : Int), 139), ((60 : Int), 151), ((61 : Int), 174), ((70 : Int), 186), ((80 : Int), 198), ((81 : Int), 221)]) rfl (by decide) ?_
  refine z_aload0 gi_12_186 ?_
  refine z_iload2 gi_12_187 ?_
  refine z_pushJ gp_12_188 ?_
  refine z_iload3 gi_12_189 ?_
  refine z_iload4 gi_12_190 ?_
  refine z_callVi (As := [_, _, _, _]) (le := [some _, some _, some _, some _, some _, none, none]) gi_12_192 rfl gk_34 (Nat.le_of_ble_eq_true rfl) (Nat.le_of_ble_eq_true rfl) rfl ?_
  refine ah_0_0 (by decide) ?_
  refine z_aload0 gi_9_77 ?_
  refine z_iload6 gi_9_78 ?_
  refine z_callVx (As := [_]) gi_9_80 rfl rfl (Nat.le_of_ble_eq_true rfl) (Nat.le_of_ble_eq_true rfl) (bg_k (n := 2) (m := 3) hR (zU_e) (by decide) (by decide)) ?_
  show zW _ _ _ _ _ _ _ _ _ _
  refine z_iload5 gi_9_83 ?_
  refine z_if_neF gi_9_85 zr_0 (by decide) ?_
  refine z_aload0 gi_9_88 ?_
  refine z_iload6 gi_9_89 ?_
  refine z_iload3 gi_9_91 ?_
  refine z_iload4 gi_9_92 ?_
  refine z_pushJ gp_9_94 ?_
  refine z_iadd (e := 3) gi_9_95 rfl ?_
  refine z_callVi (As := [_, _, _]) (le := [some _, some _, some _, some _, none]) gi_9_96 rfl gk_34 (Nat.le_of_ble_eq_true rfl) (Nat.le_of_ble_eq_true rfl) rfl ?_
  refine z_iload1 gi_11_0 ?_
  refine z_swI (tg := 44) gi_11_1 (by decide) (T := [((1 : Int), 44), ((2 : Int), 51), ((10 : Int), 71), ((11 : Int), 81)]) rfl (by decide) ?_
  refine z_iload2 gi_11_44 ?_
  refine z_aload0 gi_11_45 ?_
  refine z_getI (v := b) gi_11_46 gk_34 ((zU_x (by decide)).trans ((zU_n (by decide)).trans ((zU_x (by decide)).trans ((zU_n (by decide)).trans ((zU_x (by decide)).trans ((zU_n (by decide)).trans ((zU_x (by decide)).trans (zU_e)))))))) ?_
  refine z_iadd (e := x + b) gi_11_49 rfl ?_
  refine z_iret gi_11_50 gr_11 ?_
  show zW _ _ _ _ _ _ _ _ _ _
  refine z_iret gi_9_99 gr_9 ?_
  show zW _ _ _ _ _ _ _ _ _ _
  refine z_pushJ gp_12_195 ?_
  refine z_imul (e := (x + b) * 2) gi_12_196 rfl ?_
  refine z_iret gi_12_197 gr_12 ?_
  show zW _ _ _ _ _ _ _ _ _ _
  refine z_iret gi_9_117 gr_9 ?_
  show zW _ _ _ _ _ _ _ _ _ _
  refine z_iret gi_8_11 gr_8 ?_
  show zW _ _ _ _ _ _ _ _ _ _
  refine z_pushJ gp_11_78 ?_
  refine z_imul (e := (x + b) * 2 * 2) gi_11_79 rfl ?_
  refine z_iret gi_11_80 gr_11 ?_
  show zW _ _ _ _ _ _ _ _ _ _
  refine z_iret gi_9_99 gr_9 ?_
  show zW _ _ _ _ _ _ _ _ _ _
  refine z_iret gi_8_11 gr_8 ?_
  show zW _ _ _ _ _ _ _ _ _ _
  refine z_iret gi_7_46 gr_7 ?_
  show zW _ _ _ _ _ _ _ _ _ _
  refine z_iret gi_134_10 gr_134 ?_
  refine ⟨_, rfl, ?_⟩
  show zW _ _ _ _ [some (.ref 50), some (zi b), some (zi 1), some (zi x)] _ _ _ _ _
  refine z_aload0 gi_246_0 ?_
  refine z_pushJ gp_246_1 ?_
  refine z_putI (y := 56) gi_246_2 rfl gk_50 ?_
  refine z_aload0 gi_246_5 ?_
  refine z_iload1 gi_246_6 ?_
  refine z_cV1 gi_246_7 gk_50 go_230 (Nat.le_of_ble_eq_true rfl) gc_230_RI ?_
  refine z_iload1 gi_230_0 ?_
  refine z_pushJ gp_230_1 ?_
  refine z_aload0 gi_230_2 ?_
  refine z_getI (v := J 34 1) gi_230_3 gk_50 ((zU_x (by decide)).trans ((zU_n (by decide)).trans ((zU_n (by decide)).trans ((zU_n (by decide)).trans ((zU_n (by decide)).trans ((zU_n (by decide)).trans ((zU_n (by decide)).trans ((zU_n (by decide)).trans ((zU_n (by decide)).trans ((zU_n (by decide)).trans (a1.symm))))))))))) ?_
  refine z_pushJ gp_230_6 ?_
  refine z_isub (e := (J 34 1) - 1) gi_230_7 rfl ?_
  refine z_cS3 gi_230_8 (Nat.le_of_ble_eq_true rfl) gc_148_III ?_
  refine z_iload0 gi_148_0 ?_
  refine z_iload1 gi_148_1 ?_
  refine z_icmp_ltF gi_148_2 (by omega) zr_0 (by omega) ?_
  refine z_iload0 gi_148_5 ?_
  refine z_iload2 gi_148_6 ?_
  refine z_icmp_gtF gi_148_7 (by omega) (by omega) (by omega) ?_
  refine z_pushJ gp_148_10 ?_
  refine z_goto gi_148_11 ?_
  refine z_bret1 gi_148_15 gr_148 ?_
  show zW _ _ _ _ _ _ _ _ _ _
  refine z_bret1 gi_230_11 gr_230 ?_
  show zW _ _ _ _ _ _ _ _ _ _
  refine z_if_eqF gi_246_10 zr_1 (by decide) ?_
  refine z_iload2 gi_246_13 ?_
  refine z_pushJ gp_246_14 ?_
  refine z_pushJ gp_246_15 ?_
  refine z_cS3 gi_246_16 (Nat.le_of_ble_eq_true rfl) gc_148_III ?_
  refine z_iload0 gi_148_0 ?_
  refine z_iload1 gi_148_1 ?_
  refine z_icmp_ltF gi_148_2 zr_1 zr_0 (by decide) ?_
  refine z_iload0 gi_148_5 ?_
  refine z_iload2 gi_148_6 ?_
  refine z_icmp_gtF gi_148_7 zr_1 zr_3 (by decide) ?_
  refine z_pushJ gp_148_10 ?_
  refine z_goto gi_148_11 ?_
  refine z_bret1 gi_148_15 gr_148 ?_
  show zW _ _ _ _ _ _ _ _ _ _
  refine z_if_neT gi_246_19 zr_1 (by decide) ?_
  refine z_iload2 gi_246_24 ?_
  refine z_if_neT gi_246_25 zr_1 (by decide) ?_
  refine z_iload2 gi_246_37 ?_
  refine z_pushJ gp_246_38 ?_
  refine z_icmp_neF gi_246_39 zr_1 zr_1 (by decide) ?_
  refine z_aload0 gi_246_42 ?_
  refine z_iload1 gi_246_43 ?_
  refine z_iload3 gi_246_44 ?_
  refine z_callVi (As := [_, _]) (le := [some _, some _, some _, none]) gi_246_45 rfl gk_50 (Nat.le_of_ble_eq_true rfl) (Nat.le_of_ble_eq_true rfl) rfl ?_
  refine z_aload0 gi_240_0 ?_
  refine z_getR (r := 81) gi_240_1 gk_50 (hRr _ rm_50_55 (by decide)) ?_
  refine z_iload1 gi_240_4 ?_
  refine z_iald (v := 6) gi_240_5 gk_81 (by decide) (by omega) ((zU_n (by decide)).trans ((zU_n (by decide)).trans ((zU_n (by decide)).trans ((zU_n (by decide)).trans ((zU_n (by decide)).trans ((zU_n (by decide)).trans ((zU_n (by decide)).trans ((zU_n (by decide)).trans ((zU_n (by decide)).trans ((zU_n (by decide)).trans ((a5 _ hb1.1 hb1.2).1.symm.trans hk))))))))))) ?_
  refine z_pushJ gp_240_6 ?_
  refine z_callSP (As := [_, _]) (v := 0) gi_240_7 rfl (Nat.le_of_ble_eq_true rfl) (Nat.le_of_ble_eq_true rfl) iu_6_3 ?_
  refine z_if_eqT gi_240_10 zr_0 (by decide) ?_
  refine z_aload0 gi_240_28 ?_
  refine z_getR (r := 81) gi_240_29 gk_50 (hRr _ rm_50_55 (by decide)) ?_
  refine z_iload1 gi_240_32 ?_
  refine z_iald (v := 6) gi_240_33 gk_81 (by decide) (by omega) ((zU_n (by decide)).trans ((zU_n (by decide)).trans ((zU_n (by decide)).trans ((zU_n (by decide)).trans ((zU_n (by decide)).trans ((zU_n (by decide)).trans ((zU_n (by decide)).trans ((zU_n (by decide)).trans ((zU_n (by decide)).trans ((zU_n (by decide)).trans ((a5 _ hb1.1 hb1.2).1.symm.trans hk))))))))))) ?_
  refine z_pushJ gp_240_34 ?_
  refine z_icmp_neT gi_240_36 zr_6 zr_7 (by decide) ?_
  refine z_aload0 gi_240_61 ?_
  refine z_getR (r := 81) gi_240_62 gk_50 (hRr _ rm_50_55 (by decide)) ?_
  refine z_iload1 gi_240_65 ?_
  refine z_iald (v := 6) gi_240_66 gk_81 (by decide) (by omega) ((zU_n (by decide)).trans ((zU_n (by decide)).trans ((zU_n (by decide)).trans ((zU_n (by decide)).trans ((zU_n (by decide)).trans ((zU_n (by decide)).trans ((zU_n (by decide)).trans ((zU_n (by decide)).trans ((zU_n (by decide)).trans ((zU_n (by decide)).trans ((a5 _ hb1.1 hb1.2).1.symm.trans hk))))))))))) ?_
  refine z_pushJ gp_240_67 ?_
  refine z_icmp_neT gi_240_68 zr_6 zr_2 (by decide) ?_
  refine z_aload0 gi_240_80 ?_
  refine z_iload1 gi_240_81 ?_
  refine z_iload2 gi_240_82 ?_
  refine z_cV2 gi_240_83 gk_50 go_238 (Nat.le_of_ble_eq_true rfl) gc_238_RII ?_
  refine z_aload0 gi_238_0 ?_
  refine z_pushJ gp_238_1 ?_
  refine z_callVx (As := [_]) gi_238_3 rfl rfl (Nat.le_of_ble_eq_true rfl) (Nat.le_of_ble_eq_true rfl) (rn_k (n := 0) (m := 1) hRr (zU_e) (by decide) (by decide)) ?_
  show zW _ _ _ _ _ _ _ _ _ _
  refine z_aload0 gi_238_6 ?_
  refine z_iload1 gi_238_7 ?_
  refine z_iload2 gi_238_8 ?_
  refine z_cV2 gi_238_9 gk_50 go_237 (Nat.le_of_ble_eq_true rfl) gc_237_RII ?_
  refine z_aload0 gi_237_0 ?_
  refine z_getR (r := 81) gi_237_1 gk_50 (hRr _ rm_50_55 (by decide)) ?_
  refine z_iload1 gi_237_4 ?_
  refine z_iald (v := 6) gi_237_5 gk_81 (by decide) (by omega) ((zU_n (by decide)).trans ((zU_n (by decide)).trans ((zU_n (by decide)).trans ((zU_n (by decide)).trans ((zU_n (by decide)).trans ((zU_n (by decide)).trans ((zU_n (by decide)).trans ((zU_n (by decide)).trans ((zU_n (by decide)).trans ((zU_n (by decide)).trans ((zU_n (by decide)).trans ((zU_n (by decide)).trans ((a5 _ hb1.1 hb1.2).1.symm.trans hk))))))))))))) ?_
  refine z_pushJ gp_237_6 ?_
  refine z_callSP (As := [_, _]) (v := 0) gi_237_7 rfl (Nat.le_of_ble_eq_true rfl) (Nat.le_of_ble_eq_true rfl) iu_6_1 ?_
  refine z_if_eqT gi_237_10 zr_0 (by decide) ?_
  refine z_aload0 gi_237_28 ?_
  refine z_getR (r := 81) gi_237_29 gk_50 (hRr _ rm_50_55 (by decide)) ?_
  refine z_iload1 gi_237_32 ?_
  refine z_iald (v := 6) gi_237_33 gk_81 (by decide) (by omega) ((zU_n (by decide)).trans ((zU_n (by decide)).trans ((zU_n (by decide)).trans ((zU_n (by decide)).trans ((zU_n (by decide)).trans ((zU_n (by decide)).trans ((zU_n (by decide)).trans ((zU_n (by decide)).trans ((zU_n (by decide)).trans ((zU_n (by decide)).trans ((zU_n (by decide)).trans ((zU_n (by decide)).trans ((a5 _ hb1.1 hb1.2).1.symm.trans hk))))))))))))) ?_
  refine z_pushJ gp_237_34 ?_
  refine z_icmp_neT gi_237_36 zr_6 zr_7 (by decide) ?_
  refine z_aload0 gi_237_54 ?_
  refine z_getR (r := 81) gi_237_55 gk_50 (hRr _ rm_50_55 (by decide)) ?_
  refine z_iload1 gi_237_58 ?_
  refine z_iald (v := 6) gi_237_59 gk_81 (by decide) (by omega) ((zU_n (by decide)).trans ((zU_n (by decide)).trans ((zU_n (by decide)).trans ((zU_n (by decide)).trans ((zU_n (by decide)).trans ((zU_n (by decide)).trans ((zU_n (by decide)).trans ((zU_n (by decide)).trans ((zU_n (by decide)).trans ((zU_n (by decide)).trans ((zU_n (by decide)).trans ((zU_n (by decide)).trans ((a5 _ hb1.1 hb1.2).1.symm.trans hk))))))))))))) ?_
  refine z_pushJ gp_237_60 ?_
  refine z_icmp_neF gi_237_62 zr_6 zr_6 (by decide) ?_
  refine z_aload0 gi_237_65 ?_
  refine z_iload1 gi_237_66 ?_
  refine z_iload2 gi_237_67 ?_
  refine z_cV2 gi_237_68 gk_50 go_236 (Nat.le_of_ble_eq_true rfl) gc_236_RII ?_
  refine z_aload0 gi_236_0 ?_
  refine z_pushJ gp_236_1 ?_
  refine z_callVx (As := [_]) gi_236_3 rfl rfl (Nat.le_of_ble_eq_true rfl) (Nat.le_of_ble_eq_true rfl) (rn_k (n := 1) (m := 2) hRr (zU_e) (by decide) (by decide)) ?_
  show zW _ _ _ _ _ _ _ _ _ _
  refine z_aload0 gi_236_6 ?_
  refine z_iload1 gi_236_7 ?_
  refine z_iload2 gi_236_8 ?_
  refine z_cV2 gi_236_9 gk_50 go_235 (Nat.le_of_ble_eq_true rfl) gc_235_RII ?_
  refine z_aload0 gi_235_0 ?_
  refine z_pushJ gp_235_1 ?_
  refine z_callVx (As := [_]) gi_235_2 rfl rfl (Nat.le_of_ble_eq_true rfl) (Nat.le_of_ble_eq_true rfl) (rn_k (n := 2) (m := 3) hRr (zU_e) (by decide) (by decide)) ?_
  show zW _ _ _ _ _ _ _ _ _ _
  refine z_iload2 gi_235_5 ?_
  refine z_iload1 gi_235_6 ?_
  refine z_iadd (e := x + b) gi_235_7 rfl ?_
  refine z_iret gi_235_8 gr_235 ?_
  show zW _ _ _ _ _ _ _ _ _ _
  refine z_pushJ gp_236_12 ?_
  refine z_imul (e := (x + b) * 2) gi_236_13 rfl ?_
  refine z_iret gi_236_14 gr_236 ?_
  show zW _ _ _ _ _ _ _ _ _ _
  refine z_goto gi_237_71 ?_
  refine z_iret gi_237_80 gr_237 ?_
  show zW _ _ _ _ _ _ _ _ _ _
  refine z_pushJ gp_238_12 ?_
  refine z_imul (e := (x + b) * 2 * 2) gi_238_13 rfl ?_
  refine z_iret gi_238_14 gr_238 ?_
  show zW _ _ _ _ _ _ _ _ _ _
  refine z_iret gi_240_86 gr_240 ?_
  show zW _ _ _ _ _ _ _ _ _ _
  refine z_goto gi_246_48 ?_
  refine z_iret gi_246_71 gr_246 ?_
  refine ⟨?_, ?_⟩
  · rfl
  · have hk := (zK_x (a := 50) (x := 56) (v := 3) (zK_x (a := 82) (x := 2) (v := 1) (zK_x (a := 50) (x := 56) (v := 2) (zK_x (a := 82) (x := 1) (v := 70) (zK_x (a := 50) (x := 56) (v := 1) (zK_x (a := 82) (x := 0) (v := 10) (zK_x (a := 50) (x := 56) (v := 0) (zK_x (a := 34) (x := 3) (v := 3) (zK_x (a := 36) (x := 2) (v := 1) (zK_x (a := 34) (x := 3) (v := 2) (zK_x (a := 36) (x := 1) (v := 70) (zK_x (a := 34) (x := 3) (v := 1) (zK_x (a := 36) (x := 0) (v := 10) (zK_x (a := 34) (x := 5) (v := 6) (zK_x (a := 34) (x := 4) (v := b) (zK_x (a := 34) (x := 3) (v := 0) (zK_r (k := (kL [] [(34, 3), (34, 4), (34, 5), (36, 0), (36, 1), (36, 2), (50, 56), (82, 0), (82, 1), (82, 2)])) (A := J)) rfl) rfl) rfl) rfl) rfl) rfl) rfl) rfl) rfl) rfl) rfl) rfl) rfl) rfl) rfl) rfl)
    exact ⟨hR, hG, RelY_k hk (by repeat' constructor) (fun p => by repeat' constructor) hY, RelD_k hk (by repeat' constructor) (fun p => by repeat' constructor) hD, RelP_k hk (by repeat' constructor) (fun p => by repeat' constructor) hP, RelC_k hk (by repeat' constructor) (fun p => by repeat' constructor) hC, ⟨(show J 34 1 = J 50 54 from a1), (show 0 ≤ J 34 1 ∧ J 34 1 ≤ 50 from a2), rfl, (show (0 : Int) ≤ 3 ∧ (3 : Int) ≤ 1000 from by decide), (fun i i1 i2 => a5 i i1 i2), (fun i i1 i2 _ => by have i3 : i < 3 := i2; have q : i = 0 ∨ i = 1 ∨ i = 2 := (by omega); rcases q with rfl | rfl | rfl <;> rfl)⟩, RelS_k hk (zK_r (k := kM)) (fun x j a b => ⟨kL_38 (by decide) (by decide) x j a b, kM_38 x j a b⟩) (fun p => ⟨rfl, rfl, rfl⟩) rfl hS, RelT_k hk (by repeat' constructor) (fun p => by repeat' constructor) hTp, RelX_k hk (by repeat' constructor) (fun p => by repeat' constructor) hX, RelW_k hk ⟨rfl, rfl⟩ trivial hW⟩
theorem st_act_62 {X : Nat × (Nat → Int32)} {d : Nat} {J M : zA} {R : zR} {b x : Int} (hr : Rel X J M R) (hb : -2147483648 ≤ b ∧ b < 2147483648) (hx : -2147483648 ≤ x ∧ x < 2147483648) (hb1 : 0 ≤ b ∧ b < J 34 1) (hk : J 35 b = 6) : zW X (d + 20) 134 0 (gEn 134 [(.ref 0), (zi b), (zi 2), (zi x)]) [] J M R (stP X (d + 20) 246 [(zi b), (zi 2), (zi x)]) := by
  have hr0 := hr
  obtain ⟨hR, hG, hY, hD, hP, hC, hAc, hS, hTp, hX, hW⟩ := hr0
  have hRr : zRoR R := zRoR_of hR
  have hA0 := hAc
  obtain ⟨a1, a2, a3, a4, a5, a6⟩ := hA0
  show zW _ _ _ _ [some (.ref 0), some (zi b), some (zi 2), some (zi x)] _ _ _ _ _
  refine z_aload0 gi_134_0 ?_
  refine z_getR (r := 34) gi_134_1 gk_0 (hR _ rm_0_10) ?_
  refine z_iload1 gi_134_4 ?_
  refine z_iload2 gi_134_5 ?_
  refine z_iload3 gi_134_6 ?_
  refine z_cV3 gi_134_7 gk_34 go_7 (Nat.le_of_ble_eq_true rfl) gc_7_RIII ?_
  refine z_aload0 gi_7_0 ?_
  refine z_pushJ gp_7_1 ?_
  refine z_putI (y := 3) gi_7_2 rfl gk_34 ?_
  refine z_aload0 gi_7_5 ?_
  refine z_iload1 gi_7_6 ?_
  refine z_cV1 gi_7_7 gk_34 go_3 (Nat.le_of_ble_eq_true rfl) gc_3_RI ?_
  refine z_iload1 gi_3_0 ?_
  refine z_if_ltF gi_3_1 (by omega) (by omega) ?_
  refine z_iload1 gi_3_4 ?_
  refine z_aload0 gi_3_5 ?_
  refine z_getI (v := J 34 1) gi_3_6 gk_34 ((zU_x (by decide)).trans (rfl)) ?_
  refine z_icmp_geF gi_3_9 (by omega) (by omega) (by omega) ?_
  refine z_pushJ gp_3_12 ?_
  refine z_goto gi_3_13 ?_
  refine z_bret1 gi_3_17 gr_3 ?_
  show zW _ _ _ _ _ _ _ _ _ _
  refine z_if_eqF gi_7_10 zr_1 (by decide) ?_
  refine z_iload2 gi_7_13 ?_
  refine z_if_ltF gi_7_14 zr_2 (by decide) ?_
  refine z_iload2 gi_7_17 ?_
  refine z_pushJ gp_7_18 ?_
  refine z_icmp_ltT gi_7_19 zr_2 zr_4 (by decide) ?_
  refine z_aload0 gi_7_24 ?_
  refine z_iload1 gi_7_25 ?_
  refine z_putI (y := 4) gi_7_26 rfl gk_34 ?_
  refine z_aload0 gi_7_29 ?_
  refine z_aload0 gi_7_30 ?_
  refine z_getR (r := 35) gi_7_31 gk_34 (hR _ rm_34_0) ?_
  refine z_iload1 gi_7_34 ?_
  refine z_iald (v := 6) gi_7_35 gk_35 (by decide) (by omega) ((zU_n (by decide)).trans ((zU_n (by decide)).trans (hk))) ?_
  refine z_putI (y := 5) gi_7_36 rfl gk_34 ?_
  refine z_aload0 gi_7_39 ?_
  refine z_iload2 gi_7_40 ?_
  refine z_iload3 gi_7_41 ?_
  refine z_pushJ gp_7_42 ?_
  refine z_cV3 gi_7_43 gk_34 go_8 (Nat.le_of_ble_eq_true rfl) gc_8_RIII ?_
  refine z_aload0 gi_8_0 ?_
  refine z_aload0 gi_8_1 ?_
  refine z_getI (v := 6) gi_8_2 gk_34 (zU_e) ?_
  refine z_iload1 gi_8_5 ?_
  refine z_iload2 gi_8_6 ?_
  refine z_iload3 gi_8_7 ?_
  refine z_callVi (As := [_, _, _, _]) (le := [some _, some _, some _, some _, some _, none, none]) gi_8_8 rfl gk_34 (Nat.le_of_ble_eq_true rfl) (Nat.le_of_ble_eq_true rfl) rfl ?_
  refine ah_6_2 (by decide) ?_
  refine z_aload0 gi_9_77 ?_
  refine z_iload6 gi_9_78 ?_
  refine z_callVx (As := [_]) gi_9_80 rfl rfl (Nat.le_of_ble_eq_true rfl) (Nat.le_of_ble_eq_true rfl) (bg_k (n := 0) (m := 1) hR ((zU_x (by decide)).trans ((zU_x (by decide)).trans (zU_e))) (by decide) (by decide)) ?_
  show zW _ _ _ _ _ _ _ _ _ _
  refine z_iload5 gi_9_83 ?_
  refine z_if_neF gi_9_85 zr_0 (by decide) ?_
  refine z_aload0 gi_9_88 ?_
  refine z_iload6 gi_9_89 ?_
  refine z_iload3 gi_9_91 ?_
  refine z_iload4 gi_9_92 ?_
  refine z_pushJ gp_9_94 ?_
  refine z_iadd (e := 1) gi_9_95 rfl ?_
  refine z_callVi (As := [_, _, _]) (le := [some _, some _, some _, some _, none]) gi_9_96 rfl gk_34 (Nat.le_of_ble_eq_true rfl) (Nat.le_of_ble_eq_true rfl) rfl ?_
  refine z_iload1 gi_11_0 ?_
  refine z_swI (tg := 81) gi_11_1 (by decide) (T := [((1 : Int), 44), ((2 : Int), 51), ((10 : Int), 71), ((11 : Int), 81)]) rfl (by decide) ?_
  refine z_iload2 gi_11_81 ?_
  refine z_aload0 gi_11_82 ?_
  refine z_getI (v := b) gi_11_83 gk_34 ((zU_x (by decide)).trans ((zU_n (by decide)).trans ((zU_x (by decide)).trans (zU_e)))) ?_
  refine z_ixor (e := zxor x b) gi_11_86 rfl ?_
  refine z_iret gi_11_87 gr_11 ?_
  show zW _ _ _ _ _ _ _ _ _ _
  refine z_iret gi_9_99 gr_9 ?_
  show zW _ _ _ _ _ _ _ _ _ _
  refine z_iret gi_8_11 gr_8 ?_
  show zW _ _ _ _ _ _ _ _ _ _
  refine z_iret gi_7_46 gr_7 ?_
  show zW _ _ _ _ _ _ _ _ _ _
  refine z_iret gi_134_10 gr_134 ?_
  refine ⟨_, rfl, ?_⟩
  show zW _ _ _ _ [some (.ref 50), some (zi b), some (zi 2), some (zi x)] _ _ _ _ _
  refine z_aload0 gi_246_0 ?_
  refine z_pushJ gp_246_1 ?_
  refine z_putI (y := 56) gi_246_2 rfl gk_50 ?_
  refine z_aload0 gi_246_5 ?_
  refine z_iload1 gi_246_6 ?_
  refine z_cV1 gi_246_7 gk_50 go_230 (Nat.le_of_ble_eq_true rfl) gc_230_RI ?_
  refine z_iload1 gi_230_0 ?_
  refine z_pushJ gp_230_1 ?_
  refine z_aload0 gi_230_2 ?_
  refine z_getI (v := J 34 1) gi_230_3 gk_50 ((zU_x (by decide)).trans ((zU_n (by decide)).trans ((zU_n (by decide)).trans ((zU_n (by decide)).trans ((zU_n (by decide)).trans ((zU_n (by decide)).trans (a1.symm))))))) ?_
  refine z_pushJ gp_230_6 ?_
  refine z_isub (e := (J 34 1) - 1) gi_230_7 rfl ?_
  refine z_cS3 gi_230_8 (Nat.le_of_ble_eq_true rfl) gc_148_III ?_
  refine z_iload0 gi_148_0 ?_
  refine z_iload1 gi_148_1 ?_
  refine z_icmp_ltF gi_148_2 (by omega) zr_0 (by omega) ?_
  refine z_iload0 gi_148_5 ?_
  refine z_iload2 gi_148_6 ?_
  refine z_icmp_gtF gi_148_7 (by omega) (by omega) (by omega) ?_
  refine z_pushJ gp_148_10 ?_
  refine z_goto gi_148_11 ?_
  refine z_bret1 gi_148_15 gr_148 ?_
  show zW _ _ _ _ _ _ _ _ _ _
  refine z_bret1 gi_230_11 gr_230 ?_
  show zW _ _ _ _ _ _ _ _ _ _
  refine z_if_eqF gi_246_10 zr_1 (by decide) ?_
  refine z_iload2 gi_246_13 ?_
  refine z_pushJ gp_246_14 ?_
  refine z_pushJ gp_246_15 ?_
  refine z_cS3 gi_246_16 (Nat.le_of_ble_eq_true rfl) gc_148_III ?_
  refine z_iload0 gi_148_0 ?_
  refine z_iload1 gi_148_1 ?_
  refine z_icmp_ltF gi_148_2 zr_2 zr_0 (by decide) ?_
  refine z_iload0 gi_148_5 ?_
  refine z_iload2 gi_148_6 ?_
  refine z_icmp_gtF gi_148_7 zr_2 zr_3 (by decide) ?_
  refine z_pushJ gp_148_10 ?_
  refine z_goto gi_148_11 ?_
  refine z_bret1 gi_148_15 gr_148 ?_
  show zW _ _ _ _ _ _ _ _ _ _
  refine z_if_neT gi_246_19 zr_1 (by decide) ?_
  refine z_iload2 gi_246_24 ?_
  refine z_if_neT gi_246_25 zr_2 (by decide) ?_
  refine z_iload2 gi_246_37 ?_
  refine z_pushJ gp_246_38 ?_
  refine z_icmp_neT gi_246_39 zr_2 zr_1 (by decide) ?_
  refine z_iload2 gi_246_51 ?_
  refine z_pushJ gp_246_52 ?_
  refine z_icmp_neF gi_246_53 zr_2 zr_2 (by decide) ?_
  refine z_aload0 gi_246_56 ?_
  refine z_iload1 gi_246_57 ?_
  refine z_iload3 gi_246_58 ?_
  refine z_callVi (As := [_, _]) (le := [some _, some _, some _, none]) gi_246_59 rfl gk_50 (Nat.le_of_ble_eq_true rfl) (Nat.le_of_ble_eq_true rfl) rfl ?_
  refine z_aload0 gi_243_0 ?_
  refine z_getR (r := 81) gi_243_1 gk_50 (hRr _ rm_50_55 (by decide)) ?_
  refine z_iload1 gi_243_4 ?_
  refine z_iald (v := 6) gi_243_5 gk_81 (by decide) (by omega) ((zU_n (by decide)).trans ((zU_n (by decide)).trans ((zU_n (by decide)).trans ((zU_n (by decide)).trans ((zU_n (by decide)).trans ((zU_n (by decide)).trans ((a5 _ hb1.1 hb1.2).1.symm.trans hk))))))) ?_
  refine z_pushJ gp_243_6 ?_
  refine z_icmp_neT gi_243_7 zr_6 zr_5 (by decide) ?_
  refine z_aload0 gi_243_32 ?_
  refine z_getR (r := 81) gi_243_33 gk_50 (hRr _ rm_50_55 (by decide)) ?_
  refine z_iload1 gi_243_36 ?_
  refine z_iald (v := 6) gi_243_37 gk_81 (by decide) (by omega) ((zU_n (by decide)).trans ((zU_n (by decide)).trans ((zU_n (by decide)).trans ((zU_n (by decide)).trans ((zU_n (by decide)).trans ((zU_n (by decide)).trans ((a5 _ hb1.1 hb1.2).1.symm.trans hk))))))) ?_
  refine z_pushJ gp_243_38 ?_
  refine z_icmp_neT gi_243_39 zr_6 zr_3 (by decide) ?_
  refine z_aload0 gi_243_51 ?_
  refine z_iload1 gi_243_52 ?_
  refine z_iload2 gi_243_53 ?_
  refine z_cV2 gi_243_54 gk_50 go_241 (Nat.le_of_ble_eq_true rfl) gc_241_RII ?_
  refine z_aload0 gi_241_0 ?_
  refine z_pushJ gp_241_1 ?_
  refine z_callVx (As := [_]) gi_241_3 rfl rfl (Nat.le_of_ble_eq_true rfl) (Nat.le_of_ble_eq_true rfl) (rn_k (n := 0) (m := 1) hRr (zU_e) (by decide) (by decide)) ?_
  show zW _ _ _ _ _ _ _ _ _ _
  refine z_iload2 gi_241_6 ?_
  refine z_iload1 gi_241_7 ?_
  refine z_ixor (e := zxor x b) gi_241_8 rfl ?_
  refine z_iret gi_241_9 gr_241 ?_
  show zW _ _ _ _ _ _ _ _ _ _
  refine z_iret gi_243_57 gr_243 ?_
  show zW _ _ _ _ _ _ _ _ _ _
  refine z_goto gi_246_62 ?_
  refine z_iret gi_246_71 gr_246 ?_
  refine ⟨?_, ?_⟩
  · rfl
  · have hk := (zK_x (a := 50) (x := 56) (v := 1) (zK_x (a := 82) (x := 0) (v := 11) (zK_x (a := 50) (x := 56) (v := 0) (zK_x (a := 34) (x := 3) (v := 1) (zK_x (a := 36) (x := 0) (v := 11) (zK_x (a := 34) (x := 5) (v := 6) (zK_x (a := 34) (x := 4) (v := b) (zK_x (a := 34) (x := 3) (v := 0) (zK_r (k := (kL [] [(34, 3), (34, 4), (34, 5), (36, 0), (50, 56), (82, 0)])) (A := J)) rfl) rfl) rfl) rfl) rfl) rfl) rfl) rfl)
    exact ⟨hR, hG, RelY_k hk (by repeat' constructor) (fun p => by repeat' constructor) hY, RelD_k hk (by repeat' constructor) (fun p => by repeat' constructor) hD, RelP_k hk (by repeat' constructor) (fun p => by repeat' constructor) hP, RelC_k hk (by repeat' constructor) (fun p => by repeat' constructor) hC, ⟨(show J 34 1 = J 50 54 from a1), (show 0 ≤ J 34 1 ∧ J 34 1 ≤ 50 from a2), rfl, (show (0 : Int) ≤ 1 ∧ (1 : Int) ≤ 1000 from by decide), (fun i i1 i2 => a5 i i1 i2), (fun i i1 i2 _ => by have i3 : i < 1 := i2; have q : i = 0 := (by omega); subst q; rfl)⟩, RelS_k hk (zK_r (k := kM)) (fun x j a b => ⟨kL_38 (by decide) (by decide) x j a b, kM_38 x j a b⟩) (fun p => ⟨rfl, rfl, rfl⟩) rfl hS, RelT_k hk (by repeat' constructor) (fun p => by repeat' constructor) hTp, RelX_k hk (by repeat' constructor) (fun p => by repeat' constructor) hX, RelW_k hk ⟨rfl, rfl⟩ trivial hW⟩
theorem st_act_63 {X : Nat × (Nat → Int32)} {d : Nat} {J M : zA} {R : zR} {b x : Int} (hr : Rel X J M R) (hb : -2147483648 ≤ b ∧ b < 2147483648) (hx : -2147483648 ≤ x ∧ x < 2147483648) (hb1 : 0 ≤ b ∧ b < J 34 1) (hk : J 35 b = 6) : zW X (d + 20) 134 0 (gEn 134 [(.ref 0), (zi b), (zi 3), (zi x)]) [] J M R (stP X (d + 20) 246 [(zi b), (zi 3), (zi x)]) := by
  have hr0 := hr
  obtain ⟨hR, hG, hY, hD, hP, hC, hAc, hS, hTp, hX, hW⟩ := hr0
  have hRr : zRoR R := zRoR_of hR
  have hA0 := hAc
  obtain ⟨a1, a2, a3, a4, a5, a6⟩ := hA0
  show zW _ _ _ _ [some (.ref 0), some (zi b), some (zi 3), some (zi x)] _ _ _ _ _
  refine z_aload0 gi_134_0 ?_
  refine z_getR (r := 34) gi_134_1 gk_0 (hR _ rm_0_10) ?_
  refine z_iload1 gi_134_4 ?_
  refine z_iload2 gi_134_5 ?_
  refine z_iload3 gi_134_6 ?_
  refine z_cV3 gi_134_7 gk_34 go_7 (Nat.le_of_ble_eq_true rfl) gc_7_RIII ?_
  refine z_aload0 gi_7_0 ?_
  refine z_pushJ gp_7_1 ?_
  refine z_putI (y := 3) gi_7_2 rfl gk_34 ?_
  refine z_aload0 gi_7_5 ?_
  refine z_iload1 gi_7_6 ?_
  refine z_cV1 gi_7_7 gk_34 go_3 (Nat.le_of_ble_eq_true rfl) gc_3_RI ?_
  refine z_iload1 gi_3_0 ?_
  refine z_if_ltF gi_3_1 (by omega) (by omega) ?_
  refine z_iload1 gi_3_4 ?_
  refine z_aload0 gi_3_5 ?_
  refine z_getI (v := J 34 1) gi_3_6 gk_34 ((zU_x (by decide)).trans (rfl)) ?_
  refine z_icmp_geF gi_3_9 (by omega) (by omega) (by omega) ?_
  refine z_pushJ gp_3_12 ?_
  refine z_goto gi_3_13 ?_
  refine z_bret1 gi_3_17 gr_3 ?_
  show zW _ _ _ _ _ _ _ _ _ _
  refine z_if_eqF gi_7_10 zr_1 (by decide) ?_
  refine z_iload2 gi_7_13 ?_
  refine z_if_ltF gi_7_14 zr_3 (by decide) ?_
  refine z_iload2 gi_7_17 ?_
  refine z_pushJ gp_7_18 ?_
  refine z_icmp_ltT gi_7_19 zr_3 zr_4 (by decide) ?_
  refine z_aload0 gi_7_24 ?_
  refine z_iload1 gi_7_25 ?_
  refine z_putI (y := 4) gi_7_26 rfl gk_34 ?_
  refine z_aload0 gi_7_29 ?_
  refine z_aload0 gi_7_30 ?_
  refine z_getR (r := 35) gi_7_31 gk_34 (hR _ rm_34_0) ?_
  refine z_iload1 gi_7_34 ?_
  refine z_iald (v := 6) gi_7_35 gk_35 (by decide) (by omega) ((zU_n (by decide)).trans ((zU_n (by decide)).trans (hk))) ?_
  refine z_putI (y := 5) gi_7_36 rfl gk_34 ?_
  refine z_aload0 gi_7_39 ?_
  refine z_iload2 gi_7_40 ?_
  refine z_iload3 gi_7_41 ?_
  refine z_pushJ gp_7_42 ?_
  refine z_cV3 gi_7_43 gk_34 go_8 (Nat.le_of_ble_eq_true rfl) gc_8_RIII ?_
  refine z_aload0 gi_8_0 ?_
  refine z_aload0 gi_8_1 ?_
  refine z_getI (v := 6) gi_8_2 gk_34 (zU_e) ?_
  refine z_iload1 gi_8_5 ?_
  refine z_iload2 gi_8_6 ?_
  refine z_iload3 gi_8_7 ?_
  refine z_callVi (As := [_, _, _, _]) (le := [some _, some _, some _, some _, some _, none, none]) gi_8_8 rfl gk_34 (Nat.le_of_ble_eq_true rfl) (Nat.le_of_ble_eq_true rfl) rfl ?_
  refine ah_6_3 (by decide) ?_
  refine z_aload0 gi_9_77 ?_
  refine z_iload6 gi_9_78 ?_
  refine z_callVx (As := [_]) gi_9_80 rfl rfl (Nat.le_of_ble_eq_true rfl) (Nat.le_of_ble_eq_true rfl) (bg_k (n := 0) (m := 1) hR ((zU_x (by decide)).trans ((zU_x (by decide)).trans (zU_e))) (by decide) (by decide)) ?_
  show zW _ _ _ _ _ _ _ _ _ _
  refine z_iload5 gi_9_83 ?_
  refine z_if_neF gi_9_85 zr_0 (by decide) ?_
  refine z_aload0 gi_9_88 ?_
  refine z_iload6 gi_9_89 ?_
  refine z_iload3 gi_9_91 ?_
  refine z_iload4 gi_9_92 ?_
  refine z_pushJ gp_9_94 ?_
  refine z_iadd (e := 1) gi_9_95 rfl ?_
  refine z_callVi (As := [_, _, _]) (le := [some _, some _, some _, some _, none]) gi_9_96 rfl gk_34 (Nat.le_of_ble_eq_true rfl) (Nat.le_of_ble_eq_true rfl) rfl ?_
  refine z_iload1 gi_11_0 ?_
  refine z_swI (tg := 51) gi_11_1 (by decide) (T := [((1 : Int), 44), ((2 : Int), 51), ((10 : Int), 71), ((11 : Int), 81)]) rfl (by decide) ?_
  refine z_aload0 gi_11_51 ?_
  refine z_pushJ gp_11_52 ?_
  refine z_iload2 gi_11_53 ?_
  refine z_iload3 gi_11_54 ?_
  refine z_cV3 gi_11_55 gk_34 go_8 (Nat.le_of_ble_eq_true rfl) gc_8_RIII ?_
  refine z_aload0 gi_8_0 ?_
  refine z_aload0 gi_8_1 ?_
  refine z_getI (v := 6) gi_8_2 gk_34 ((zU_x (by decide)).trans ((zU_n (by decide)).trans (zU_e))) ?_
  refine z_iload1 gi_8_5 ?_
  refine z_iload2 gi_8_6 ?_
  refine z_iload3 gi_8_7 ?_
  refine z_callVi (As := [_, _, _, _]) (le := [some _, some _, some _, some _, some _, none, none]) gi_8_8 rfl gk_34 (Nat.le_of_ble_eq_true rfl) (Nat.le_of_ble_eq_true rfl) rfl ?_
  refine ah_6_1 (by decide) ?_
  refine z_aload0 gi_9_77 ?_
  refine z_iload6 gi_9_78 ?_
  refine z_callVx (As := [_]) gi_9_80 rfl rfl (Nat.le_of_ble_eq_true rfl) (Nat.le_of_ble_eq_true rfl) (bg_k (n := 1) (m := 2) hR (zU_e) (by decide) (by decide)) ?_
  show zW _ _ _ _ _ _ _ _ _ _
  refine z_iload5 gi_9_83 ?_
  refine z_if_neF gi_9_85 zr_0 (by decide) ?_
  refine z_aload0 gi_9_88 ?_
  refine z_iload6 gi_9_89 ?_
  refine z_iload3 gi_9_91 ?_
  refine z_iload4 gi_9_92 ?_
  refine z_pushJ gp_9_94 ?_
  refine z_iadd (e := 2) gi_9_95 rfl ?_
  refine z_callVi (As := [_, _, _]) (le := [some _, some _, some _, some _, none]) gi_9_96 rfl gk_34 (Nat.le_of_ble_eq_true rfl) (Nat.le_of_ble_eq_true rfl) rfl ?_
  refine z_iload1 gi_11_0 ?_
  refine z_swI (tg := 71) gi_11_1 (by decide) (T := [((1 : Int), 44), ((2 : Int), 51), ((10 : Int), 71), ((11 : Int), 81)]) rfl (by decide) ?_
  refine z_aload0 gi_11_71 ?_
  refine z_pushJ gp_11_72 ?_
  refine z_iload2 gi_11_73 ?_
  refine z_iload3 gi_11_74 ?_
  refine z_cV3 gi_11_75 gk_34 go_8 (Nat.le_of_ble_eq_true rfl) gc_8_RIII ?_
  refine z_aload0 gi_8_0 ?_
  refine z_aload0 gi_8_1 ?_
  refine z_getI (v := 6) gi_8_2 gk_34 ((zU_x (by decide)).trans ((zU_n (by decide)).trans ((zU_x (by decide)).trans ((zU_n (by decide)).trans (zU_e))))) ?_
  refine z_iload1 gi_8_5 ?_
  refine z_iload2 gi_8_6 ?_
  refine z_iload3 gi_8_7 ?_
  refine z_callVi (As := [_, _, _, _]) (le := [some _, some _, some _, some _, some _, none, none]) gi_8_8 rfl gk_34 (Nat.le_of_ble_eq_true rfl) (Nat.le_of_ble_eq_true rfl) rfl ?_
  refine ah_6_0 (by decide) ?_
  refine z_aload0 gi_9_77 ?_
  refine z_iload6 gi_9_78 ?_
  refine z_callVx (As := [_]) gi_9_80 rfl rfl (Nat.le_of_ble_eq_true rfl) (Nat.le_of_ble_eq_true rfl) (bg_k (n := 2) (m := 3) hR (zU_e) (by decide) (by decide)) ?_
  show zW _ _ _ _ _ _ _ _ _ _
  refine z_iload5 gi_9_83 ?_
  refine z_if_neT gi_9_85 zr_6 (by decide) ?_
  refine z_aload0 gi_9_100 ?_
  refine z_iload6 gi_9_101 ?_
  refine z_getS gi_9_103 ?_
  refine z_iload5 gi_9_106 ?_
  refine z_sald (j := 4) (n := 8) (v := 0) gi_9_108 (by decide) rfl (by decide) (by decide) rfl ?_
  refine z_iload3 gi_9_109 ?_
  refine z_iload4 gi_9_110 ?_
  refine z_pushJ gp_9_112 ?_
  refine z_iadd (e := 3) gi_9_113 rfl ?_
  refine z_callVi (As := [_, _, _, _]) (le := [some _, some _, some _, some _, some _, none, none]) gi_9_114 rfl gk_34 (Nat.le_of_ble_eq_true rfl) (Nat.le_of_ble_eq_true rfl) rfl ?_
  refine z_iload1 gi_12_0 ?_
  refine z_swI (tg := 186) gi_12_1 (by decide) (T := [((20 : Int), 92), ((30 : Int), 104), ((40 : Int), 115), ((41 : Int), 127), ((50 : Int), 139), ((60 : Int), 151), ((61 : Int), 174), ((70 : Int), 186), ((80 : Int), 198), ((81 : Int), 221)]) rfl (by decide) ?_
  refine z_aload0 gi_12_186 ?_
  refine z_iload2 gi_12_187 ?_
  refine z_pushJ gp_12_188 ?_
  refine z_iload3 gi_12_189 ?_
  refine z_iload4 gi_12_190 ?_
  refine z_callVi (As := [_, _, _, _]) (le := [some _, some _, some _, some _, some _, none, none]) gi_12_192 rfl gk_34 (Nat.le_of_ble_eq_true rfl) (Nat.le_of_ble_eq_true rfl) rfl ?_
  refine ah_0_0 (by decide) ?_
  refine z_aload0 gi_9_77 ?_
  refine z_iload6 gi_9_78 ?_
  refine z_callVx (As := [_]) gi_9_80 rfl rfl (Nat.le_of_ble_eq_true rfl) (Nat.le_of_ble_eq_true rfl) (bg_k (n := 3) (m := 4) hR (zU_e) (by decide) (by decide)) ?_
  show zW _ _ _ _ _ _ _ _ _ _
  refine z_iload5 gi_9_83 ?_
  refine z_if_neF gi_9_85 zr_0 (by decide) ?_
  refine z_aload0 gi_9_88 ?_
  refine z_iload6 gi_9_89 ?_
  refine z_iload3 gi_9_91 ?_
  refine z_iload4 gi_9_92 ?_
  refine z_pushJ gp_9_94 ?_
  refine z_iadd (e := 4) gi_9_95 rfl ?_
  refine z_callVi (As := [_, _, _]) (le := [some _, some _, some _, some _, none]) gi_9_96 rfl gk_34 (Nat.le_of_ble_eq_true rfl) (Nat.le_of_ble_eq_true rfl) rfl ?_
  refine z_iload1 gi_11_0 ?_
  refine z_swI (tg := 44) gi_11_1 (by decide) (T := [((1 : Int), 44), ((2 : Int), 51), ((10 : Int), 71), ((11 : Int), 81)]) rfl (by decide) ?_
  refine z_iload2 gi_11_44 ?_
  refine z_aload0 gi_11_45 ?_
  refine z_getI (v := b) gi_11_46 gk_34 ((zU_x (by decide)).trans ((zU_n (by decide)).trans ((zU_x (by decide)).trans ((zU_n (by decide)).trans ((zU_x (by decide)).trans ((zU_n (by decide)).trans ((zU_x (by decide)).trans ((zU_n (by decide)).trans ((zU_x (by decide)).trans (zU_e)))))))))) ?_
  refine z_iadd (e := x + b) gi_11_49 rfl ?_
  refine z_iret gi_11_50 gr_11 ?_
  show zW _ _ _ _ _ _ _ _ _ _
  refine z_iret gi_9_99 gr_9 ?_
  show zW _ _ _ _ _ _ _ _ _ _
  refine z_pushJ gp_12_195 ?_
  refine z_imul (e := (x + b) * 2) gi_12_196 rfl ?_
  refine z_iret gi_12_197 gr_12 ?_
  show zW _ _ _ _ _ _ _ _ _ _
  refine z_iret gi_9_117 gr_9 ?_
  show zW _ _ _ _ _ _ _ _ _ _
  refine z_iret gi_8_11 gr_8 ?_
  show zW _ _ _ _ _ _ _ _ _ _
  refine z_pushJ gp_11_78 ?_
  refine z_imul (e := (x + b) * 2 * 2) gi_11_79 rfl ?_
  refine z_iret gi_11_80 gr_11 ?_
  show zW _ _ _ _ _ _ _ _ _ _
  refine z_iret gi_9_99 gr_9 ?_
  show zW _ _ _ _ _ _ _ _ _ _
  refine z_iret gi_8_11 gr_8 ?_
  show zW _ _ _ _ _ _ _ _ _ _
  refine z_istore (ls1 := [some (.ref 34), some (zi 2), some (zi x), some (zi 1), some (zi ((x + b) * 2 * 2))]) gi_11_58 rfl ?_
  refine z_iload4 gi_11_60 ?_
  refine z_aload0 gi_11_62 ?_
  refine z_pushJ gp_11_63 ?_
  refine z_pushJ gp_11_64 ?_
  refine z_iload3 gi_11_65 ?_
  refine z_cV3 gi_11_66 gk_34 go_8 (Nat.le_of_ble_eq_true rfl) gc_8_RIII ?_
  refine z_aload0 gi_8_0 ?_
  refine z_aload0 gi_8_1 ?_
  refine z_getI (v := 6) gi_8_2 gk_34 ((zU_x (by decide)).trans ((zU_n (by decide)).trans ((zU_x (by decide)).trans ((zU_n (by decide)).trans ((zU_x (by decide)).trans ((zU_n (by decide)).trans ((zU_x (by decide)).trans ((zU_n (by decide)).trans (zU_e))))))))) ?_
  refine z_iload1 gi_8_5 ?_
  refine z_iload2 gi_8_6 ?_
  refine z_iload3 gi_8_7 ?_
  refine z_callVi (As := [_, _, _, _]) (le := [some _, some _, some _, some _, some _, none, none]) gi_8_8 rfl gk_34 (Nat.le_of_ble_eq_true rfl) (Nat.le_of_ble_eq_true rfl) rfl ?_
  refine ah_6_2 (by decide) ?_
  refine z_aload0 gi_9_77 ?_
  refine z_iload6 gi_9_78 ?_
  refine z_callVx (As := [_]) gi_9_80 rfl rfl (Nat.le_of_ble_eq_true rfl) (Nat.le_of_ble_eq_true rfl) (bg_k (n := 4) (m := 5) hR (zU_e) (by decide) (by decide)) ?_
  show zW _ _ _ _ _ _ _ _ _ _
  refine z_iload5 gi_9_83 ?_
  refine z_if_neF gi_9_85 zr_0 (by decide) ?_
  refine z_aload0 gi_9_88 ?_
  refine z_iload6 gi_9_89 ?_
  refine z_iload3 gi_9_91 ?_
  refine z_iload4 gi_9_92 ?_
  refine z_pushJ gp_9_94 ?_
  refine z_iadd (e := 2) gi_9_95 rfl ?_
  refine z_callVi (As := [_, _, _]) (le := [some _, some _, some _, some _, none]) gi_9_96 rfl gk_34 (Nat.le_of_ble_eq_true rfl) (Nat.le_of_ble_eq_true rfl) rfl ?_
  refine z_iload1 gi_11_0 ?_
  refine z_swI (tg := 81) gi_11_1 (by decide) (T := [((1 : Int), 44), ((2 : Int), 51), ((10 : Int), 71), ((11 : Int), 81)]) rfl (by decide) ?_
  refine z_iload2 gi_11_81 ?_
  refine z_aload0 gi_11_82 ?_
  refine z_getI (v := b) gi_11_83 gk_34 ((zU_x (by decide)).trans ((zU_n (by decide)).trans ((zU_x (by decide)).trans ((zU_n (by decide)).trans ((zU_x (by decide)).trans ((zU_n (by decide)).trans ((zU_x (by decide)).trans ((zU_n (by decide)).trans ((zU_x (by decide)).trans ((zU_n (by decide)).trans ((zU_x (by decide)).trans (zU_e)))))))))))) ?_
  refine z_ixor (e := zxor 1 b) gi_11_86 rfl ?_
  refine z_iret gi_11_87 gr_11 ?_
  show zW _ _ _ _ _ _ _ _ _ _
  refine z_iret gi_9_99 gr_9 ?_
  show zW _ _ _ _ _ _ _ _ _ _
  refine z_iret gi_8_11 gr_8 ?_
  show zW _ _ _ _ _ _ _ _ _ _
  refine z_isub (e := (x + b) * 2 * 2 - (zxor 1 b)) gi_11_69 rfl ?_
  refine z_iret gi_11_70 gr_11 ?_
  show zW _ _ _ _ _ _ _ _ _ _
  refine z_iret gi_9_99 gr_9 ?_
  show zW _ _ _ _ _ _ _ _ _ _
  refine z_iret gi_8_11 gr_8 ?_
  show zW _ _ _ _ _ _ _ _ _ _
  refine z_iret gi_7_46 gr_7 ?_
  show zW _ _ _ _ _ _ _ _ _ _
  refine z_iret gi_134_10 gr_134 ?_
  refine ⟨_, rfl, ?_⟩
  show zW _ _ _ _ [some (.ref 50), some (zi b), some (zi 3), some (zi x)] _ _ _ _ _
  refine z_aload0 gi_246_0 ?_
  refine z_pushJ gp_246_1 ?_
  refine z_putI (y := 56) gi_246_2 rfl gk_50 ?_
  refine z_aload0 gi_246_5 ?_
  refine z_iload1 gi_246_6 ?_
  refine z_cV1 gi_246_7 gk_50 go_230 (Nat.le_of_ble_eq_true rfl) gc_230_RI ?_
  refine z_iload1 gi_230_0 ?_
  refine z_pushJ gp_230_1 ?_
  refine z_aload0 gi_230_2 ?_
  refine z_getI (v := J 34 1) gi_230_3 gk_50 ((zU_x (by decide)).trans ((zU_n (by decide)).trans ((zU_n (by decide)).trans ((zU_n (by decide)).trans ((zU_n (by decide)).trans ((zU_n (by decide)).trans ((zU_n (by decide)).trans ((zU_n (by decide)).trans ((zU_n (by decide)).trans ((zU_n (by decide)).trans ((zU_n (by decide)).trans ((zU_n (by decide)).trans ((zU_n (by decide)).trans ((zU_n (by decide)).trans (a1.symm))))))))))))))) ?_
  refine z_pushJ gp_230_6 ?_
  refine z_isub (e := (J 34 1) - 1) gi_230_7 rfl ?_
  refine z_cS3 gi_230_8 (Nat.le_of_ble_eq_true rfl) gc_148_III ?_
  refine z_iload0 gi_148_0 ?_
  refine z_iload1 gi_148_1 ?_
  refine z_icmp_ltF gi_148_2 (by omega) zr_0 (by omega) ?_
  refine z_iload0 gi_148_5 ?_
  refine z_iload2 gi_148_6 ?_
  refine z_icmp_gtF gi_148_7 (by omega) (by omega) (by omega) ?_
  refine z_pushJ gp_148_10 ?_
  refine z_goto gi_148_11 ?_
  refine z_bret1 gi_148_15 gr_148 ?_
  show zW _ _ _ _ _ _ _ _ _ _
  refine z_bret1 gi_230_11 gr_230 ?_
  show zW _ _ _ _ _ _ _ _ _ _
  refine z_if_eqF gi_246_10 zr_1 (by decide) ?_
  refine z_iload2 gi_246_13 ?_
  refine z_pushJ gp_246_14 ?_
  refine z_pushJ gp_246_15 ?_
  refine z_cS3 gi_246_16 (Nat.le_of_ble_eq_true rfl) gc_148_III ?_
  refine z_iload0 gi_148_0 ?_
  refine z_iload1 gi_148_1 ?_
  refine z_icmp_ltF gi_148_2 zr_3 zr_0 (by decide) ?_
  refine z_iload0 gi_148_5 ?_
  refine z_iload2 gi_148_6 ?_
  refine z_icmp_gtF gi_148_7 zr_3 zr_3 (by decide) ?_
  refine z_pushJ gp_148_10 ?_
  refine z_goto gi_148_11 ?_
  refine z_bret1 gi_148_15 gr_148 ?_
  show zW _ _ _ _ _ _ _ _ _ _
  refine z_if_neT gi_246_19 zr_1 (by decide) ?_
  refine z_iload2 gi_246_24 ?_
  refine z_if_neT gi_246_25 zr_3 (by decide) ?_
  refine z_iload2 gi_246_37 ?_
  refine z_pushJ gp_246_38 ?_
  refine z_icmp_neT gi_246_39 zr_3 zr_1 (by decide) ?_
  refine z_iload2 gi_246_51 ?_
  refine z_pushJ gp_246_52 ?_
  refine z_icmp_neT gi_246_53 zr_3 zr_2 (by decide) ?_
  refine z_aload0 gi_246_65 ?_
  refine z_iload1 gi_246_66 ?_
  refine z_iload3 gi_246_67 ?_
  refine z_cV2 gi_246_68 gk_50 go_245 (Nat.le_of_ble_eq_true rfl) gc_245_RII ?_
  refine z_aload0 gi_245_0 ?_
  refine z_getR (r := 81) gi_245_1 gk_50 (hRr _ rm_50_55 (by decide)) ?_
  refine z_iload1 gi_245_4 ?_
  refine z_iald (v := 6) gi_245_5 gk_81 (by decide) (by omega) ((zU_n (by decide)).trans ((zU_n (by decide)).trans ((zU_n (by decide)).trans ((zU_n (by decide)).trans ((zU_n (by decide)).trans ((zU_n (by decide)).trans ((zU_n (by decide)).trans ((zU_n (by decide)).trans ((zU_n (by decide)).trans ((zU_n (by decide)).trans ((zU_n (by decide)).trans ((zU_n (by decide)).trans ((zU_n (by decide)).trans ((zU_n (by decide)).trans ((a5 _ hb1.1 hb1.2).1.symm.trans hk))))))))))))))) ?_
  refine z_pushJ gp_245_6 ?_
  refine z_icmp_neT gi_245_7 zr_6 zr_4 (by decide) ?_
  refine z_aload0 gi_245_25 ?_
  refine z_getR (r := 81) gi_245_26 gk_50 (hRr _ rm_50_55 (by decide)) ?_
  refine z_iload1 gi_245_29 ?_
  refine z_iald (v := 6) gi_245_30 gk_81 (by decide) (by omega) ((zU_n (by decide)).trans ((zU_n (by decide)).trans ((zU_n (by decide)).trans ((zU_n (by decide)).trans ((zU_n (by decide)).trans ((zU_n (by decide)).trans ((zU_n (by decide)).trans ((zU_n (by decide)).trans ((zU_n (by decide)).trans ((zU_n (by decide)).trans ((zU_n (by decide)).trans ((zU_n (by decide)).trans ((zU_n (by decide)).trans ((zU_n (by decide)).trans ((a5 _ hb1.1 hb1.2).1.symm.trans hk))))))))))))))) ?_
  refine z_pushJ gp_245_31 ?_
  refine z_icmp_neT gi_245_32 zr_6 zr_5 (by decide) ?_
  refine z_aload0 gi_245_50 ?_
  refine z_iload1 gi_245_51 ?_
  refine z_iload2 gi_245_52 ?_
  refine z_callVi (As := [_, _]) (le := [some _, some _, some _, none]) gi_245_53 rfl gk_50 (Nat.le_of_ble_eq_true rfl) (Nat.le_of_ble_eq_true rfl) rfl ?_
  refine z_aload0 gi_244_0 ?_
  refine z_pushJ gp_244_1 ?_
  refine z_callVx (As := [_]) gi_244_2 rfl rfl (Nat.le_of_ble_eq_true rfl) (Nat.le_of_ble_eq_true rfl) (rn_k (n := 0) (m := 1) hRr (zU_e) (by decide) (by decide)) ?_
  show zW _ _ _ _ _ _ _ _ _ _
  refine z_aload0 gi_244_5 ?_
  refine z_iload1 gi_244_6 ?_
  refine z_iload2 gi_244_7 ?_
  refine z_callVi (As := [_, _]) (le := [some _, some _, some _, none]) gi_244_8 rfl gk_50 (Nat.le_of_ble_eq_true rfl) (Nat.le_of_ble_eq_true rfl) rfl ?_
  refine z_aload0 gi_240_0 ?_
  refine z_getR (r := 81) gi_240_1 gk_50 (hRr _ rm_50_55 (by decide)) ?_
  refine z_iload1 gi_240_4 ?_
  refine z_iald (v := 6) gi_240_5 gk_81 (by decide) (by omega) ((zU_n (by decide)).trans ((zU_n (by decide)).trans ((zU_n (by decide)).trans ((zU_n (by decide)).trans ((zU_n (by decide)).trans ((zU_n (by decide)).trans ((zU_n (by decide)).trans ((zU_n (by decide)).trans ((zU_n (by decide)).trans ((zU_n (by decide)).trans ((zU_n (by decide)).trans ((zU_n (by decide)).trans ((zU_n (by decide)).trans ((zU_n (by decide)).trans ((zU_n (by decide)).trans ((zU_n (by decide)).trans ((a5 _ hb1.1 hb1.2).1.symm.trans hk))))))))))))))))) ?_
  refine z_pushJ gp_240_6 ?_
  refine z_callSP (As := [_, _]) (v := 0) gi_240_7 rfl (Nat.le_of_ble_eq_true rfl) (Nat.le_of_ble_eq_true rfl) iu_6_3 ?_
  refine z_if_eqT gi_240_10 zr_0 (by decide) ?_
  refine z_aload0 gi_240_28 ?_
  refine z_getR (r := 81) gi_240_29 gk_50 (hRr _ rm_50_55 (by decide)) ?_
  refine z_iload1 gi_240_32 ?_
  refine z_iald (v := 6) gi_240_33 gk_81 (by decide) (by omega) ((zU_n (by decide)).trans ((zU_n (by decide)).trans ((zU_n (by decide)).trans ((zU_n (by decide)).trans ((zU_n (by decide)).trans ((zU_n (by decide)).trans ((zU_n (by decide)).trans ((zU_n (by decide)).trans ((zU_n (by decide)).trans ((zU_n (by decide)).trans ((zU_n (by decide)).trans ((zU_n (by decide)).trans ((zU_n (by decide)).trans ((zU_n (by decide)).trans ((zU_n (by decide)).trans ((zU_n (by decide)).trans ((a5 _ hb1.1 hb1.2).1.symm.trans hk))))))))))))))))) ?_
  refine z_pushJ gp_240_34 ?_
  refine z_icmp_neT gi_240_36 zr_6 zr_7 (by decide) ?_
  refine z_aload0 gi_240_61 ?_
  refine z_getR (r := 81) gi_240_62 gk_50 (hRr _ rm_50_55 (by decide)) ?_
  refine z_iload1 gi_240_65 ?_
  refine z_iald (v := 6) gi_240_66 gk_81 (by decide) (by omega) ((zU_n (by decide)).trans ((zU_n (by decide)).trans ((zU_n (by decide)).trans ((zU_n (by decide)).trans ((zU_n (by decide)).trans ((zU_n (by decide)).trans ((zU_n (by decide)).trans ((zU_n (by decide)).trans ((zU_n (by decide)).trans ((zU_n (by decide)).trans ((zU_n (by decide)).trans ((zU_n (by decide)).trans ((zU_n (by decide)).trans ((zU_n (by decide)).trans ((zU_n (by decide)).trans ((zU_n (by decide)).trans ((a5 _ hb1.1 hb1.2).1.symm.trans hk))))))))))))))))) ?_
  refine z_pushJ gp_240_67 ?_
  refine z_icmp_neT gi_240_68 zr_6 zr_2 (by decide) ?_
  refine z_aload0 gi_240_80 ?_
  refine z_iload1 gi_240_81 ?_
  refine z_iload2 gi_240_82 ?_
  refine z_cV2 gi_240_83 gk_50 go_238 (Nat.le_of_ble_eq_true rfl) gc_238_RII ?_
  refine z_aload0 gi_238_0 ?_
  refine z_pushJ gp_238_1 ?_
  refine z_callVx (As := [_]) gi_238_3 rfl rfl (Nat.le_of_ble_eq_true rfl) (Nat.le_of_ble_eq_true rfl) (rn_k (n := 1) (m := 2) hRr (zU_e) (by decide) (by decide)) ?_
  show zW _ _ _ _ _ _ _ _ _ _
  refine z_aload0 gi_238_6 ?_
  refine z_iload1 gi_238_7 ?_
  refine z_iload2 gi_238_8 ?_
  refine z_cV2 gi_238_9 gk_50 go_237 (Nat.le_of_ble_eq_true rfl) gc_237_RII ?_
  refine z_aload0 gi_237_0 ?_
  refine z_getR (r := 81) gi_237_1 gk_50 (hRr _ rm_50_55 (by decide)) ?_
  refine z_iload1 gi_237_4 ?_
  refine z_iald (v := 6) gi_237_5 gk_81 (by decide) (by omega) ((zU_n (by decide)).trans ((zU_n (by decide)).trans ((zU_n (by decide)).trans ((zU_n (by decide)).trans ((zU_n (by decide)).trans ((zU_n (by decide)).trans ((zU_n (by decide)).trans ((zU_n (by decide)).trans ((zU_n (by decide)).trans ((zU_n (by decide)).trans ((zU_n (by decide)).trans ((zU_n (by decide)).trans ((zU_n (by decide)).trans ((zU_n (by decide)).trans ((zU_n (by decide)).trans ((zU_n (by decide)).trans ((zU_n (by decide)).trans ((zU_n (by decide)).trans ((a5 _ hb1.1 hb1.2).1.symm.trans hk))))))))))))))))))) ?_
  refine z_pushJ gp_237_6 ?_
  refine z_callSP (As := [_, _]) (v := 0) gi_237_7 rfl (Nat.le_of_ble_eq_true rfl) (Nat.le_of_ble_eq_true rfl) iu_6_1 ?_
  refine z_if_eqT gi_237_10 zr_0 (by decide) ?_
  refine z_aload0 gi_237_28 ?_
  refine z_getR (r := 81) gi_237_29 gk_50 (hRr _ rm_50_55 (by decide)) ?_
  refine z_iload1 gi_237_32 ?_
  refine z_iald (v := 6) gi_237_33 gk_81 (by decide) (by omega) ((zU_n (by decide)).trans ((zU_n (by decide)).trans ((zU_n (by decide)).trans ((zU_n (by decide)).trans ((zU_n (by decide)).trans ((zU_n (by decide)).trans ((zU_n (by decide)).trans ((zU_n (by decide)).trans ((zU_n (by decide)).trans ((zU_n (by decide)).trans ((zU_n (by decide)).trans ((zU_n (by decide)).trans ((zU_n (by decide)).trans ((zU_n (by decide)).trans ((zU_n (by decide)).trans ((zU_n (by decide)).trans ((zU_n (by decide)).trans ((zU_n (by decide)).trans ((a5 _ hb1.1 hb1.2).1.symm.trans hk))))))))))))))))))) ?_
  refine z_pushJ gp_237_34 ?_
  refine z_icmp_neT gi_237_36 zr_6 zr_7 (by decide) ?_
  refine z_aload0 gi_237_54 ?_
  refine z_getR (r := 81) gi_237_55 gk_50 (hRr _ rm_50_55 (by decide)) ?_
  refine z_iload1 gi_237_58 ?_
  refine z_iald (v := 6) gi_237_59 gk_81 (by decide) (by omega) ((zU_n (by decide)).trans ((zU_n (by decide)).trans ((zU_n (by decide)).trans ((zU_n (by decide)).trans ((zU_n (by decide)).trans ((zU_n (by decide)).trans ((zU_n (by decide)).trans ((zU_n (by decide)).trans ((zU_n (by decide)).trans ((zU_n (by decide)).trans ((zU_n (by decide)).trans ((zU_n (by decide)).trans ((zU_n (by decide)).trans ((zU_n (by decide)).trans ((zU_n (by decide)).trans ((zU_n (by decide)).trans ((zU_n (by decide)).trans ((zU_n (by decide)).trans ((a5 _ hb1.1 hb1.2).1.symm.trans hk))))))))))))))))))) ?_
  refine z_pushJ gp_237_60 ?_
  refine z_icmp_neF gi_237_62 zr_6 zr_6 (by decide) ?_
  refine z_aload0 gi_237_65 ?_
  refine z_iload1 gi_237_66 ?_
  refine z_iload2 gi_237_67 ?_
  refine z_cV2 gi_237_68 gk_50 go_236 (Nat.le_of_ble_eq_true rfl) gc_236_RII ?_
  refine z_aload0 gi_236_0 ?_
  refine z_pushJ gp_236_1 ?_
  refine z_callVx (As := [_]) gi_236_3 rfl rfl (Nat.le_of_ble_eq_true rfl) (Nat.le_of_ble_eq_true rfl) (rn_k (n := 2) (m := 3) hRr (zU_e) (by decide) (by decide)) ?_
  show zW _ _ _ _ _ _ _ _ _ _
  refine z_aload0 gi_236_6 ?_
  refine z_iload1 gi_236_7 ?_
  refine z_iload2 gi_236_8 ?_
  refine z_cV2 gi_236_9 gk_50 go_235 (Nat.le_of_ble_eq_true rfl) gc_235_RII ?_
  refine z_aload0 gi_235_0 ?_
  refine z_pushJ gp_235_1 ?_
  refine z_callVx (As := [_]) gi_235_2 rfl rfl (Nat.le_of_ble_eq_true rfl) (Nat.le_of_ble_eq_true rfl) (rn_k (n := 3) (m := 4) hRr (zU_e) (by decide) (by decide)) ?_
  show zW _ _ _ _ _ _ _ _ _ _
  refine z_iload2 gi_235_5 ?_
  refine z_iload1 gi_235_6 ?_
  refine z_iadd (e := x + b) gi_235_7 rfl ?_
  refine z_iret gi_235_8 gr_235 ?_
  show zW _ _ _ _ _ _ _ _ _ _
  refine z_pushJ gp_236_12 ?_
  refine z_imul (e := (x + b) * 2) gi_236_13 rfl ?_
  refine z_iret gi_236_14 gr_236 ?_
  show zW _ _ _ _ _ _ _ _ _ _
  refine z_goto gi_237_71 ?_
  refine z_iret gi_237_80 gr_237 ?_
  show zW _ _ _ _ _ _ _ _ _ _
  refine z_pushJ gp_238_12 ?_
  refine z_imul (e := (x + b) * 2 * 2) gi_238_13 rfl ?_
  refine z_iret gi_238_14 gr_238 ?_
  show zW _ _ _ _ _ _ _ _ _ _
  refine z_iret gi_240_86 gr_240 ?_
  show zW _ _ _ _ _ _ _ _ _ _
  refine z_istore (ls1 := [some (.ref 50), some (zi b), some (zi x), some (zi ((x + b) * 2 * 2))]) gi_244_11 rfl ?_
  refine z_iload3 gi_244_12 ?_
  refine z_aload0 gi_244_13 ?_
  refine z_iload1 gi_244_14 ?_
  refine z_pushJ gp_244_15 ?_
  refine z_callVi (As := [_, _]) (le := [some _, some _, some _, none]) gi_244_16 rfl gk_50 (Nat.le_of_ble_eq_true rfl) (Nat.le_of_ble_eq_true rfl) rfl ?_
  refine z_aload0 gi_243_0 ?_
  refine z_getR (r := 81) gi_243_1 gk_50 (hRr _ rm_50_55 (by decide)) ?_
  refine z_iload1 gi_243_4 ?_
  refine z_iald (v := 6) gi_243_5 gk_81 (by decide) (by omega) ((zU_n (by decide)).trans ((zU_n (by decide)).trans ((zU_n (by decide)).trans ((zU_n (by decide)).trans ((zU_n (by decide)).trans ((zU_n (by decide)).trans ((zU_n (by decide)).trans ((zU_n (by decide)).trans ((zU_n (by decide)).trans ((zU_n (by decide)).trans ((zU_n (by decide)).trans ((zU_n (by decide)).trans ((zU_n (by decide)).trans ((zU_n (by decide)).trans ((zU_n (by decide)).trans ((zU_n (by decide)).trans ((zU_n (by decide)).trans ((zU_n (by decide)).trans ((zU_n (by decide)).trans ((zU_n (by decide)).trans ((zU_n (by decide)).trans ((zU_n (by decide)).trans ((a5 _ hb1.1 hb1.2).1.symm.trans hk))))))))))))))))))))))) ?_
  refine z_pushJ gp_243_6 ?_
  refine z_icmp_neT gi_243_7 zr_6 zr_5 (by decide) ?_
  refine z_aload0 gi_243_32 ?_
  refine z_getR (r := 81) gi_243_33 gk_50 (hRr _ rm_50_55 (by decide)) ?_
  refine z_iload1 gi_243_36 ?_
  refine z_iald (v := 6) gi_243_37 gk_81 (by decide) (by omega) ((zU_n (by decide)).trans ((zU_n (by decide)).trans ((zU_n (by decide)).trans ((zU_n (by decide)).trans ((zU_n (by decide)).trans ((zU_n (by decide)).trans ((zU_n (by decide)).trans ((zU_n (by decide)).trans ((zU_n (by decide)).trans ((zU_n (by decide)).trans ((zU_n (by decide)).trans ((zU_n (by decide)).trans ((zU_n (by decide)).trans ((zU_n (by decide)).trans ((zU_n (by decide)).trans ((zU_n (by decide)).trans ((zU_n (by decide)).trans ((zU_n (by decide)).trans ((zU_n (by decide)).trans ((zU_n (by decide)).trans ((zU_n (by decide)).trans ((zU_n (by decide)).trans ((a5 _ hb1.1 hb1.2).1.symm.trans hk))))))))))))))))))))))) ?_
  refine z_pushJ gp_243_38 ?_
  refine z_icmp_neT gi_243_39 zr_6 zr_3 (by decide) ?_
  refine z_aload0 gi_243_51 ?_
  refine z_iload1 gi_243_52 ?_
  refine z_iload2 gi_243_53 ?_
  refine z_cV2 gi_243_54 gk_50 go_241 (Nat.le_of_ble_eq_true rfl) gc_241_RII ?_
  refine z_aload0 gi_241_0 ?_
  refine z_pushJ gp_241_1 ?_
  refine z_callVx (As := [_]) gi_241_3 rfl rfl (Nat.le_of_ble_eq_true rfl) (Nat.le_of_ble_eq_true rfl) (rn_k (n := 4) (m := 5) hRr (zU_e) (by decide) (by decide)) ?_
  show zW _ _ _ _ _ _ _ _ _ _
  refine z_iload2 gi_241_6 ?_
  refine z_iload1 gi_241_7 ?_
  refine z_ixor (e := zxor 1 b) gi_241_8 rfl ?_
  refine z_iret gi_241_9 gr_241 ?_
  show zW _ _ _ _ _ _ _ _ _ _
  refine z_iret gi_243_57 gr_243 ?_
  show zW _ _ _ _ _ _ _ _ _ _
  refine z_isub (e := (x + b) * 2 * 2 - (zxor 1 b)) gi_244_19 rfl ?_
  refine z_iret gi_244_20 gr_244 ?_
  show zW _ _ _ _ _ _ _ _ _ _
  refine z_iret gi_245_56 gr_245 ?_
  show zW _ _ _ _ _ _ _ _ _ _
  refine z_iret gi_246_71 gr_246 ?_
  refine ⟨?_, ?_⟩
  · rfl
  · have hk := (zK_x (a := 50) (x := 56) (v := 5) (zK_x (a := 82) (x := 4) (v := 11) (zK_x (a := 50) (x := 56) (v := 4) (zK_x (a := 82) (x := 3) (v := 1) (zK_x (a := 50) (x := 56) (v := 3) (zK_x (a := 82) (x := 2) (v := 70) (zK_x (a := 50) (x := 56) (v := 2) (zK_x (a := 82) (x := 1) (v := 10) (zK_x (a := 50) (x := 56) (v := 1) (zK_x (a := 82) (x := 0) (v := 2) (zK_x (a := 50) (x := 56) (v := 0) (zK_x (a := 34) (x := 3) (v := 5) (zK_x (a := 36) (x := 4) (v := 11) (zK_x (a := 34) (x := 3) (v := 4) (zK_x (a := 36) (x := 3) (v := 1) (zK_x (a := 34) (x := 3) (v := 3) (zK_x (a := 36) (x := 2) (v := 70) (zK_x (a := 34) (x := 3) (v := 2) (zK_x (a := 36) (x := 1) (v := 10) (zK_x (a := 34) (x := 3) (v := 1) (zK_x (a := 36) (x := 0) (v := 2) (zK_x (a := 34) (x := 5) (v := 6) (zK_x (a := 34) (x := 4) (v := b) (zK_x (a := 34) (x := 3) (v := 0) (zK_r (k := (kL [] [(34, 3), (34, 4), (34, 5), (36, 0), (36, 1), (36, 2), (36, 3), (36, 4), (50, 56), (82, 0), (82, 1), (82, 2), (82, 3), (82, 4)])) (A := J)) rfl) rfl) rfl) rfl) rfl) rfl) rfl) rfl) rfl) rfl) rfl) rfl) rfl) rfl) rfl) rfl) rfl) rfl) rfl) rfl) rfl) rfl) rfl) rfl)
    exact ⟨hR, hG, RelY_k hk (by repeat' constructor) (fun p => by repeat' constructor) hY, RelD_k hk (by repeat' constructor) (fun p => by repeat' constructor) hD, RelP_k hk (by repeat' constructor) (fun p => by repeat' constructor) hP, RelC_k hk (by repeat' constructor) (fun p => by repeat' constructor) hC, ⟨(show J 34 1 = J 50 54 from a1), (show 0 ≤ J 34 1 ∧ J 34 1 ≤ 50 from a2), rfl, (show (0 : Int) ≤ 5 ∧ (5 : Int) ≤ 1000 from by decide), (fun i i1 i2 => a5 i i1 i2), (fun i i1 i2 _ => by have i3 : i < 5 := i2; have q : i = 0 ∨ i = 1 ∨ i = 2 ∨ i = 3 ∨ i = 4 := (by omega); rcases q with rfl | rfl | rfl | rfl | rfl <;> rfl)⟩, RelS_k hk (zK_r (k := kM)) (fun x j a b => ⟨kL_38 (by decide) (by decide) x j a b, kM_38 x j a b⟩) (fun p => ⟨rfl, rfl, rfl⟩) rfl hS, RelT_k hk (by repeat' constructor) (fun p => by repeat' constructor) hTp, RelX_k hk (by repeat' constructor) (fun p => by repeat' constructor) hX, RelW_k hk ⟨rfl, rfl⟩ trivial hW⟩
theorem iu_7_1 {X : Nat × (Nat → Int32)} {d : Nat} {J M : zA} {R : zR} : zW X d 234 0 (gEn 234 [(zi 7), (zi 1)]) [] J M R (zPu 0 J M R) := by
  show zW _ _ _ _ [some (zi 7), some (zi 1)] _ _ _ _ _
  refine z_iload1 gi_234_0 ?_
  refine z_if_eqF gi_234_1 zr_1 (by decide) ?_
  refine z_iload0 gi_234_4 ?_
  refine z_iload1 gi_234_5 ?_
  refine z_icmp_eqF gi_234_6 zr_7 zr_1 (by decide) ?_
  refine z_iload1 gi_234_9 ?_
  refine z_pushJ gp_234_10 ?_
  refine z_icmp_neF gi_234_11 zr_1 zr_1 (by decide) ?_
  refine z_iload0 gi_234_14 ?_
  refine z_pushJ gp_234_15 ?_
  refine z_icmp_eqF gi_234_16 zr_7 zr_4 (by decide) ?_
  refine z_iload1 gi_234_19 ?_
  refine z_pushJ gp_234_20 ?_
  refine z_icmp_neT gi_234_21 zr_1 zr_2 (by decide) ?_
  refine z_iload1 gi_234_34 ?_
  refine z_pushJ gp_234_35 ?_
  refine z_icmp_neT gi_234_36 zr_1 zr_3 (by decide) ?_
  refine z_iload1 gi_234_44 ?_
  refine z_pushJ gp_234_45 ?_
  refine z_icmp_neT gi_234_47 zr_1 zr_6 (by decide) ?_
  refine z_pushJ gp_234_60 ?_
  refine z_bret0 gi_234_61 gr_234 ?_
  exact ⟨rfl, rfl, rfl, rfl⟩
theorem st_act_70 {X : Nat × (Nat → Int32)} {d : Nat} {J M : zA} {R : zR} {b x : Int} (hr : Rel X J M R) (hb : -2147483648 ≤ b ∧ b < 2147483648) (hx : -2147483648 ≤ x ∧ x < 2147483648) (hb1 : 0 ≤ b ∧ b < J 34 1) (hk : J 35 b = 7) : zW X (d + 20) 134 0 (gEn 134 [(.ref 0), (zi b), (zi 0), (zi x)]) [] J M R (stP X (d + 20) 246 [(zi b), (zi 0), (zi x)]) := by
  have hr0 := hr
  obtain ⟨hR, hG, hY, hD, hP, hC, hAc, hS, hTp, hX, hW⟩ := hr0
  have hRr : zRoR R := zRoR_of hR
  have hA0 := hAc
  obtain ⟨a1, a2, a3, a4, a5, a6⟩ := hA0
  show zW _ _ _ _ [some (.ref 0), some (zi b), some (zi 0), some (zi x)] _ _ _ _ _
  refine z_aload0 gi_134_0 ?_
  refine z_getR (r := 34) gi_134_1 gk_0 (hR _ rm_0_10) ?_
  refine z_iload1 gi_134_4 ?_
  refine z_iload2 gi_134_5 ?_
  refine z_iload3 gi_134_6 ?_
  refine z_cV3 gi_134_7 gk_34 go_7 (Nat.le_of_ble_eq_true rfl) gc_7_RIII ?_
  refine z_aload0 gi_7_0 ?_
  refine z_pushJ gp_7_1 ?_
  refine z_putI (y := 3) gi_7_2 rfl gk_34 ?_
  refine z_aload0 gi_7_5 ?_
  refine z_iload1 gi_7_6 ?_
  refine z_cV1 gi_7_7 gk_34 go_3 (Nat.le_of_ble_eq_true rfl) gc_3_RI ?_
  refine z_iload1 gi_3_0 ?_
  refine z_if_ltF gi_3_1 (by omega) (by omega) ?_
  refine z_iload1 gi_3_4 ?_
  refine z_aload0 gi_3_5 ?_
  refine z_getI (v := J 34 1) gi_3_6 gk_34 ((zU_x (by decide)).trans (rfl)) ?_
  refine z_icmp_geF gi_3_9 (by omega) (by omega) (by omega) ?_
  refine z_pushJ gp_3_12 ?_
  refine z_goto gi_3_13 ?_
  refine z_bret1 gi_3_17 gr_3 ?_
  show zW _ _ _ _ _ _ _ _ _ _
  refine z_if_eqF gi_7_10 zr_1 (by decide) ?_
  refine z_iload2 gi_7_13 ?_
  refine z_if_ltF gi_7_14 zr_0 (by decide) ?_
  refine z_iload2 gi_7_17 ?_
  refine z_pushJ gp_7_18 ?_
  refine z_icmp_ltT gi_7_19 zr_0 zr_4 (by decide) ?_
  refine z_aload0 gi_7_24 ?_
  refine z_iload1 gi_7_25 ?_
  refine z_putI (y := 4) gi_7_26 rfl gk_34 ?_
  refine z_aload0 gi_7_29 ?_
  refine z_aload0 gi_7_30 ?_
  refine z_getR (r := 35) gi_7_31 gk_34 (hR _ rm_34_0) ?_
  refine z_iload1 gi_7_34 ?_
  refine z_iald (v := 7) gi_7_35 gk_35 (by decide) (by omega) ((zU_n (by decide)).trans ((zU_n (by decide)).trans (hk))) ?_
  refine z_putI (y := 5) gi_7_36 rfl gk_34 ?_
  refine z_aload0 gi_7_39 ?_
  refine z_iload2 gi_7_40 ?_
  refine z_iload3 gi_7_41 ?_
  refine z_pushJ gp_7_42 ?_
  refine z_cV3 gi_7_43 gk_34 go_8 (Nat.le_of_ble_eq_true rfl) gc_8_RIII ?_
  refine z_aload0 gi_8_0 ?_
  refine z_aload0 gi_8_1 ?_
  refine z_getI (v := 7) gi_8_2 gk_34 (zU_e) ?_
  refine z_iload1 gi_8_5 ?_
  refine z_iload2 gi_8_6 ?_
  refine z_iload3 gi_8_7 ?_
  refine z_callVi (As := [_, _, _, _]) (le := [some _, some _, some _, some _, some _, none, none]) gi_8_8 rfl gk_34 (Nat.le_of_ble_eq_true rfl) (Nat.le_of_ble_eq_true rfl) rfl ?_
  refine ah_7_0 (by decide) ?_
  refine z_aload0 gi_9_77 ?_
  refine z_iload6 gi_9_78 ?_
  refine z_callVx (As := [_]) gi_9_80 rfl rfl (Nat.le_of_ble_eq_true rfl) (Nat.le_of_ble_eq_true rfl) (bg_k (n := 0) (m := 1) hR ((zU_x (by decide)).trans ((zU_x (by decide)).trans (zU_e))) (by decide) (by decide)) ?_
  show zW _ _ _ _ _ _ _ _ _ _
  refine z_iload5 gi_9_83 ?_
  refine z_if_neT gi_9_85 zr_7 (by decide) ?_
  refine z_aload0 gi_9_100 ?_
  refine z_iload6 gi_9_101 ?_
  refine z_getS gi_9_103 ?_
  refine z_iload5 gi_9_106 ?_
  refine z_sald (j := 4) (n := 8) (v := 6) gi_9_108 (by decide) rfl (by decide) (by decide) rfl ?_
  refine z_iload3 gi_9_109 ?_
  refine z_iload4 gi_9_110 ?_
  refine z_pushJ gp_9_112 ?_
  refine z_iadd (e := 1) gi_9_113 rfl ?_
  refine z_callVi (As := [_, _, _, _]) (le := [some _, some _, some _, some _, some _, none, none]) gi_9_114 rfl gk_34 (Nat.le_of_ble_eq_true rfl) (Nat.le_of_ble_eq_true rfl) rfl ?_
  refine z_iload1 gi_12_0 ?_
  refine z_swI (tg := 221) gi_12_1 (by decide) (T := [((20 : Int), 92), ((30 : Int), 104), ((40 : Int), 115), ((41 : Int), 127), ((50 : Int), 139), ((60 : Int), 151), ((61 : Int), 174), ((70 : Int), 186), ((80 : Int), 198), ((81 : Int), 221)]) rfl (by decide) ?_
  refine z_aload0 gi_12_221 ?_
  refine z_iload2 gi_12_222 ?_
  refine z_pushJ gp_12_223 ?_
  refine z_iload3 gi_12_224 ?_
  refine z_iload4 gi_12_225 ?_
  refine z_callVi (As := [_, _, _, _]) (le := [some _, some _, some _, some _, some _, none, none]) gi_12_227 rfl gk_34 (Nat.le_of_ble_eq_true rfl) (Nat.le_of_ble_eq_true rfl) rfl ?_
  refine ah_6_0 (by decide) ?_
  refine z_aload0 gi_9_77 ?_
  refine z_iload6 gi_9_78 ?_
  refine z_callVx (As := [_]) gi_9_80 rfl rfl (Nat.le_of_ble_eq_true rfl) (Nat.le_of_ble_eq_true rfl) (bg_k (n := 1) (m := 2) hR (zU_e) (by decide) (by decide)) ?_
  show zW _ _ _ _ _ _ _ _ _ _
  refine z_iload5 gi_9_83 ?_
  refine z_if_neT gi_9_85 zr_6 (by decide) ?_
  refine z_aload0 gi_9_100 ?_
  refine z_iload6 gi_9_101 ?_
  refine z_getS gi_9_103 ?_
  refine z_iload5 gi_9_106 ?_
  refine z_sald (j := 4) (n := 8) (v := 0) gi_9_108 (by decide) rfl (by decide) (by decide) rfl ?_
  refine z_iload3 gi_9_109 ?_
  refine z_iload4 gi_9_110 ?_
  refine z_pushJ gp_9_112 ?_
  refine z_iadd (e := 2) gi_9_113 rfl ?_
  refine z_callVi (As := [_, _, _, _]) (le := [some _, some _, some _, some _, some _, none, none]) gi_9_114 rfl gk_34 (Nat.le_of_ble_eq_true rfl) (Nat.le_of_ble_eq_true rfl) rfl ?_
  refine z_iload1 gi_12_0 ?_
  refine z_swI (tg := 186) gi_12_1 (by decide) (T := [((20 : Int), 92), ((30 : Int), 104), ((40 : Int), 115), ((41 : Int), 127), ((50 : Int), 139), ((60 : Int), 151), ((61 : Int), 174), ((70 : Int), 186), ((80 : Int), 198), ((81 : Int), 221)]) rfl (by decide) ?_
  refine z_aload0 gi_12_186 ?_
  refine z_iload2 gi_12_187 ?_
  refine z_pushJ gp_12_188 ?_
  refine z_iload3 gi_12_189 ?_
  refine z_iload4 gi_12_190 ?_
  refine z_callVi (As := [_, _, _, _]) (le := [some _, some _, some _, some _, some _, none, none]) gi_12_192 rfl gk_34 (Nat.le_of_ble_eq_true rfl) (Nat.le_of_ble_eq_true rfl) rfl ?_
  refine ah_0_0 (by decide) ?_
  refine z_aload0 gi_9_77 ?_
  refine z_iload6 gi_9_78 ?_
  refine z_callVx (As := [_]) gi_9_80 rfl rfl (Nat.le_of_ble_eq_true rfl) (Nat.le_of_ble_eq_true rfl) (bg_k (n := 2) (m := 3) hR (zU_e) (by decide) (by decide)) ?_
  show zW _ _ _ _ _ _ _ _ _ _
  refine z_iload5 gi_9_83 ?_
  refine z_if_neF gi_9_85 zr_0 (by decide) ?_
  refine z_aload0 gi_9_88 ?_
  refine z_iload6 gi_9_89 ?_
  refine z_iload3 gi_9_91 ?_
  refine z_iload4 gi_9_92 ?_
  refine z_pushJ gp_9_94 ?_
  refine z_iadd (e := 3) gi_9_95 rfl ?_
  refine z_callVi (As := [_, _, _]) (le := [some _, some _, some _, some _, none]) gi_9_96 rfl gk_34 (Nat.le_of_ble_eq_true rfl) (Nat.le_of_ble_eq_true rfl) rfl ?_
  refine z_iload1 gi_11_0 ?_
  refine z_swI (tg := 44) gi_11_1 (by decide) (T := [((1 : Int), 44), ((2 : Int), 51), ((10 : Int), 71), ((11 : Int), 81)]) rfl (by decide) ?_
  refine z_iload2 gi_11_44 ?_
  refine z_aload0 gi_11_45 ?_
  refine z_getI (v := b) gi_11_46 gk_34 ((zU_x (by decide)).trans ((zU_n (by decide)).trans ((zU_x (by decide)).trans ((zU_n (by decide)).trans ((zU_x (by decide)).trans ((zU_n (by decide)).trans ((zU_x (by decide)).trans (zU_e)))))))) ?_
  refine z_iadd (e := x + b) gi_11_49 rfl ?_
  refine z_iret gi_11_50 gr_11 ?_
  show zW _ _ _ _ _ _ _ _ _ _
  refine z_iret gi_9_99 gr_9 ?_
  show zW _ _ _ _ _ _ _ _ _ _
  refine z_pushJ gp_12_195 ?_
  refine z_imul (e := (x + b) * 2) gi_12_196 rfl ?_
  refine z_iret gi_12_197 gr_12 ?_
  show zW _ _ _ _ _ _ _ _ _ _
  refine z_iret gi_9_117 gr_9 ?_
  show zW _ _ _ _ _ _ _ _ _ _
  refine z_pushJ gp_12_230 ?_
  refine z_isub (e := (x + b) * 2 - 1) gi_12_231 rfl ?_
  refine z_iret gi_12_232 gr_12 ?_
  show zW _ _ _ _ _ _ _ _ _ _
  refine z_iret gi_9_117 gr_9 ?_
  show zW _ _ _ _ _ _ _ _ _ _
  refine z_iret gi_8_11 gr_8 ?_
  show zW _ _ _ _ _ _ _ _ _ _
  refine z_iret gi_7_46 gr_7 ?_
  show zW _ _ _ _ _ _ _ _ _ _
  refine z_iret gi_134_10 gr_134 ?_
  refine ⟨_, rfl, ?_⟩
  show zW _ _ _ _ [some (.ref 50), some (zi b), some (zi 0), some (zi x)] _ _ _ _ _
  refine z_aload0 gi_246_0 ?_
  refine z_pushJ gp_246_1 ?_
  refine z_putI (y := 56) gi_246_2 rfl gk_50 ?_
  refine z_aload0 gi_246_5 ?_
  refine z_iload1 gi_246_6 ?_
  refine z_cV1 gi_246_7 gk_50 go_230 (Nat.le_of_ble_eq_true rfl) gc_230_RI ?_
  refine z_iload1 gi_230_0 ?_
  refine z_pushJ gp_230_1 ?_
  refine z_aload0 gi_230_2 ?_
  refine z_getI (v := J 34 1) gi_230_3 gk_50 ((zU_x (by decide)).trans ((zU_n (by decide)).trans ((zU_n (by decide)).trans ((zU_n (by decide)).trans ((zU_n (by decide)).trans ((zU_n (by decide)).trans ((zU_n (by decide)).trans ((zU_n (by decide)).trans ((zU_n (by decide)).trans ((zU_n (by decide)).trans (a1.symm))))))))))) ?_
  refine z_pushJ gp_230_6 ?_
  refine z_isub (e := (J 34 1) - 1) gi_230_7 rfl ?_
  refine z_cS3 gi_230_8 (Nat.le_of_ble_eq_true rfl) gc_148_III ?_
  refine z_iload0 gi_148_0 ?_
  refine z_iload1 gi_148_1 ?_
  refine z_icmp_ltF gi_148_2 (by omega) zr_0 (by omega) ?_
  refine z_iload0 gi_148_5 ?_
  refine z_iload2 gi_148_6 ?_
  refine z_icmp_gtF gi_148_7 (by omega) (by omega) (by omega) ?_
  refine z_pushJ gp_148_10 ?_
  refine z_goto gi_148_11 ?_
  refine z_bret1 gi_148_15 gr_148 ?_
  show zW _ _ _ _ _ _ _ _ _ _
  refine z_bret1 gi_230_11 gr_230 ?_
  show zW _ _ _ _ _ _ _ _ _ _
  refine z_if_eqF gi_246_10 zr_1 (by decide) ?_
  refine z_iload2 gi_246_13 ?_
  refine z_pushJ gp_246_14 ?_
  refine z_pushJ gp_246_15 ?_
  refine z_cS3 gi_246_16 (Nat.le_of_ble_eq_true rfl) gc_148_III ?_
  refine z_iload0 gi_148_0 ?_
  refine z_iload1 gi_148_1 ?_
  refine z_icmp_ltF gi_148_2 zr_0 zr_0 (by decide) ?_
  refine z_iload0 gi_148_5 ?_
  refine z_iload2 gi_148_6 ?_
  refine z_icmp_gtF gi_148_7 zr_0 zr_3 (by decide) ?_
  refine z_pushJ gp_148_10 ?_
  refine z_goto gi_148_11 ?_
  refine z_bret1 gi_148_15 gr_148 ?_
  show zW _ _ _ _ _ _ _ _ _ _
  refine z_if_neT gi_246_19 zr_1 (by decide) ?_
  refine z_iload2 gi_246_24 ?_
  refine z_if_neF gi_246_25 zr_0 (by decide) ?_
  refine z_aload0 gi_246_28 ?_
  refine z_iload1 gi_246_29 ?_
  refine z_iload3 gi_246_30 ?_
  refine z_cV2 gi_246_31 gk_50 go_237 (Nat.le_of_ble_eq_true rfl) gc_237_RII ?_
  refine z_aload0 gi_237_0 ?_
  refine z_getR (r := 81) gi_237_1 gk_50 (hRr _ rm_50_55 (by decide)) ?_
  refine z_iload1 gi_237_4 ?_
  refine z_iald (v := 7) gi_237_5 gk_81 (by decide) (by omega) ((zU_n (by decide)).trans ((zU_n (by decide)).trans ((zU_n (by decide)).trans ((zU_n (by decide)).trans ((zU_n (by decide)).trans ((zU_n (by decide)).trans ((zU_n (by decide)).trans ((zU_n (by decide)).trans ((zU_n (by decide)).trans ((zU_n (by decide)).trans ((a5 _ hb1.1 hb1.2).1.symm.trans hk))))))))))) ?_
  refine z_pushJ gp_237_6 ?_
  refine z_callSP (As := [_, _]) (v := 0) gi_237_7 rfl (Nat.le_of_ble_eq_true rfl) (Nat.le_of_ble_eq_true rfl) iu_7_1 ?_
  refine z_if_eqT gi_237_10 zr_0 (by decide) ?_
  refine z_aload0 gi_237_28 ?_
  refine z_getR (r := 81) gi_237_29 gk_50 (hRr _ rm_50_55 (by decide)) ?_
  refine z_iload1 gi_237_32 ?_
  refine z_iald (v := 7) gi_237_33 gk_81 (by decide) (by omega) ((zU_n (by decide)).trans ((zU_n (by decide)).trans ((zU_n (by decide)).trans ((zU_n (by decide)).trans ((zU_n (by decide)).trans ((zU_n (by decide)).trans ((zU_n (by decide)).trans ((zU_n (by decide)).trans ((zU_n (by decide)).trans ((zU_n (by decide)).trans ((a5 _ hb1.1 hb1.2).1.symm.trans hk))))))))))) ?_
  refine z_pushJ gp_237_34 ?_
  refine z_icmp_neF gi_237_36 zr_7 zr_7 (by decide) ?_
  refine z_aload0 gi_237_39 ?_
  refine z_pushJ gp_237_40 ?_
  refine z_callVx (As := [_]) gi_237_42 rfl rfl (Nat.le_of_ble_eq_true rfl) (Nat.le_of_ble_eq_true rfl) (rn_k (n := 0) (m := 1) hRr (zU_e) (by decide) (by decide)) ?_
  show zW _ _ _ _ _ _ _ _ _ _
  refine z_aload0 gi_237_45 ?_
  refine z_iload1 gi_237_46 ?_
  refine z_iload2 gi_237_47 ?_
  refine z_cV2 gi_237_48 gk_50 go_236 (Nat.le_of_ble_eq_true rfl) gc_236_RII ?_
  refine z_aload0 gi_236_0 ?_
  refine z_pushJ gp_236_1 ?_
  refine z_callVx (As := [_]) gi_236_3 rfl rfl (Nat.le_of_ble_eq_true rfl) (Nat.le_of_ble_eq_true rfl) (rn_k (n := 1) (m := 2) hRr (zU_e) (by decide) (by decide)) ?_
  show zW _ _ _ _ _ _ _ _ _ _
  refine z_aload0 gi_236_6 ?_
  refine z_iload1 gi_236_7 ?_
  refine z_iload2 gi_236_8 ?_
  refine z_cV2 gi_236_9 gk_50 go_235 (Nat.le_of_ble_eq_true rfl) gc_235_RII ?_
  refine z_aload0 gi_235_0 ?_
  refine z_pushJ gp_235_1 ?_
  refine z_callVx (As := [_]) gi_235_2 rfl rfl (Nat.le_of_ble_eq_true rfl) (Nat.le_of_ble_eq_true rfl) (rn_k (n := 2) (m := 3) hRr (zU_e) (by decide) (by decide)) ?_
  show zW _ _ _ _ _ _ _ _ _ _
  refine z_iload2 gi_235_5 ?_
  refine z_iload1 gi_235_6 ?_
  refine z_iadd (e := x + b) gi_235_7 rfl ?_
  refine z_iret gi_235_8 gr_235 ?_
  show zW _ _ _ _ _ _ _ _ _ _
  refine z_pushJ gp_236_12 ?_
  refine z_imul (e := (x + b) * 2) gi_236_13 rfl ?_
  refine z_iret gi_236_14 gr_236 ?_
  show zW _ _ _ _ _ _ _ _ _ _
  refine z_pushJ gp_237_51 ?_
  refine z_isub (e := (x + b) * 2 - 1) gi_237_52 rfl ?_
  refine z_iret gi_237_53 gr_237 ?_
  show zW _ _ _ _ _ _ _ _ _ _
  refine z_goto gi_246_34 ?_
  refine z_iret gi_246_71 gr_246 ?_
  refine ⟨?_, ?_⟩
  · rfl
  · have hk := (zK_x (a := 50) (x := 56) (v := 3) (zK_x (a := 82) (x := 2) (v := 1) (zK_x (a := 50) (x := 56) (v := 2) (zK_x (a := 82) (x := 1) (v := 70) (zK_x (a := 50) (x := 56) (v := 1) (zK_x (a := 82) (x := 0) (v := 81) (zK_x (a := 50) (x := 56) (v := 0) (zK_x (a := 34) (x := 3) (v := 3) (zK_x (a := 36) (x := 2) (v := 1) (zK_x (a := 34) (x := 3) (v := 2) (zK_x (a := 36) (x := 1) (v := 70) (zK_x (a := 34) (x := 3) (v := 1) (zK_x (a := 36) (x := 0) (v := 81) (zK_x (a := 34) (x := 5) (v := 7) (zK_x (a := 34) (x := 4) (v := b) (zK_x (a := 34) (x := 3) (v := 0) (zK_r (k := (kL [] [(34, 3), (34, 4), (34, 5), (36, 0), (36, 1), (36, 2), (50, 56), (82, 0), (82, 1), (82, 2)])) (A := J)) rfl) rfl) rfl) rfl) rfl) rfl) rfl) rfl) rfl) rfl) rfl) rfl) rfl) rfl) rfl) rfl)
    exact ⟨hR, hG, RelY_k hk (by repeat' constructor) (fun p => by repeat' constructor) hY, RelD_k hk (by repeat' constructor) (fun p => by repeat' constructor) hD, RelP_k hk (by repeat' constructor) (fun p => by repeat' constructor) hP, RelC_k hk (by repeat' constructor) (fun p => by repeat' constructor) hC, ⟨(show J 34 1 = J 50 54 from a1), (show 0 ≤ J 34 1 ∧ J 34 1 ≤ 50 from a2), rfl, (show (0 : Int) ≤ 3 ∧ (3 : Int) ≤ 1000 from by decide), (fun i i1 i2 => a5 i i1 i2), (fun i i1 i2 _ => by have i3 : i < 3 := i2; have q : i = 0 ∨ i = 1 ∨ i = 2 := (by omega); rcases q with rfl | rfl | rfl <;> rfl)⟩, RelS_k hk (zK_r (k := kM)) (fun x j a b => ⟨kL_38 (by decide) (by decide) x j a b, kM_38 x j a b⟩) (fun p => ⟨rfl, rfl, rfl⟩) rfl hS, RelT_k hk (by repeat' constructor) (fun p => by repeat' constructor) hTp, RelX_k hk (by repeat' constructor) (fun p => by repeat' constructor) hX, RelW_k hk ⟨rfl, rfl⟩ trivial hW⟩
theorem iu_7_3 {X : Nat × (Nat → Int32)} {d : Nat} {J M : zA} {R : zR} : zW X d 234 0 (gEn 234 [(zi 7), (zi 3)]) [] J M R (zPu 0 J M R) := by
  show zW _ _ _ _ [some (zi 7), some (zi 3)] _ _ _ _ _
  refine z_iload1 gi_234_0 ?_
  refine z_if_eqF gi_234_1 zr_3 (by decide) ?_
  refine z_iload0 gi_234_4 ?_
  refine z_iload1 gi_234_5 ?_
  refine z_icmp_eqF gi_234_6 zr_7 zr_3 (by decide) ?_
  refine z_iload1 gi_234_9 ?_
  refine z_pushJ gp_234_10 ?_
  refine z_icmp_neT gi_234_11 zr_3 zr_1 (by decide) ?_
  refine z_iload1 gi_234_19 ?_
  refine z_pushJ gp_234_20 ?_
  refine z_icmp_neT gi_234_21 zr_3 zr_2 (by decide) ?_
  refine z_iload1 gi_234_34 ?_
  refine z_pushJ gp_234_35 ?_
  refine z_icmp_neF gi_234_36 zr_3 zr_3 (by decide) ?_
  refine z_iload0 gi_234_39 ?_
  refine z_pushJ gp_234_40 ?_
  refine z_icmp_eqF gi_234_41 zr_7 zr_5 (by decide) ?_
  refine z_iload1 gi_234_44 ?_
  refine z_pushJ gp_234_45 ?_
  refine z_icmp_neT gi_234_47 zr_3 zr_6 (by decide) ?_
  refine z_pushJ gp_234_60 ?_
  refine z_bret0 gi_234_61 gr_234 ?_
  exact ⟨rfl, rfl, rfl, rfl⟩
theorem st_act_71 {X : Nat × (Nat → Int32)} {d : Nat} {J M : zA} {R : zR} {b x : Int} (hr : Rel X J M R) (hb : -2147483648 ≤ b ∧ b < 2147483648) (hx : -2147483648 ≤ x ∧ x < 2147483648) (hb1 : 0 ≤ b ∧ b < J 34 1) (hk : J 35 b = 7) : zW X (d + 20) 134 0 (gEn 134 [(.ref 0), (zi b), (zi 1), (zi x)]) [] J M R (stP X (d + 20) 246 [(zi b), (zi 1), (zi x)]) := by
  have hr0 := hr
  obtain ⟨hR, hG, hY, hD, hP, hC, hAc, hS, hTp, hX, hW⟩ := hr0
  have hRr : zRoR R := zRoR_of hR
  have hA0 := hAc
  obtain ⟨a1, a2, a3, a4, a5, a6⟩ := hA0
  show zW _ _ _ _ [some (.ref 0), some (zi b), some (zi 1), some (zi x)] _ _ _ _ _
  refine z_aload0 gi_134_0 ?_
  refine z_getR (r := 34) gi_134_1 gk_0 (hR _ rm_0_10) ?_
  refine z_iload1 gi_134_4 ?_
  refine z_iload2 gi_134_5 ?_
  refine z_iload3 gi_134_6 ?_
  refine z_cV3 gi_134_7 gk_34 go_7 (Nat.le_of_ble_eq_true rfl) gc_7_RIII ?_
  refine z_aload0 gi_7_0 ?_
  refine z_pushJ gp_7_1 ?_
  refine z_putI (y := 3) gi_7_2 rfl gk_34 ?_
  refine z_aload0 gi_7_5 ?_
  refine z_iload1 gi_7_6 ?_
  refine z_cV1 gi_7_7 gk_34 go_3 (Nat.le_of_ble_eq_true rfl) gc_3_RI ?_
  refine z_iload1 gi_3_0 ?_
  refine z_if_ltF gi_3_1 (by omega) (by omega) ?_
  refine z_iload1 gi_3_4 ?_
  refine z_aload0 gi_3_5 ?_
  refine z_getI (v := J 34 1) gi_3_6 gk_34 ((zU_x (by decide)).trans (rfl)) ?_
  refine z_icmp_geF gi_3_9 (by omega) (by omega) (by omega) ?_
  refine z_pushJ gp_3_12 ?_
  refine z_goto gi_3_13 ?_
  refine z_bret1 gi_3_17 gr_3 ?_
  show zW _ _ _ _ _ _ _ _ _ _
  refine z_if_eqF gi_7_10 zr_1 (by decide) ?_
  refine z_iload2 gi_7_13 ?_
  refine z_if_ltF gi_7_14 zr_1 (by decide) ?_
  refine z_iload2 gi_7_17 ?_
  refine z_pushJ gp_7_18 ?_
  refine z_icmp_ltT gi_7_19 zr_1 zr_4 (by decide) ?_
  refine z_aload0 gi_7_24 ?_
  refine z_iload1 gi_7_25 ?_
  refine z_putI (y := 4) gi_7_26 rfl gk_34 ?_
  refine z_aload0 gi_7_29 ?_
  refine z_aload0 gi_7_30 ?_
  refine z_getR (r := 35) gi_7_31 gk_34 (hR _ rm_34_0) ?_
  refine z_iload1 gi_7_34 ?_
  refine z_iald (v := 7) gi_7_35 gk_35 (by decide) (by omega) ((zU_n (by decide)).trans ((zU_n (by decide)).trans (hk))) ?_
  refine z_putI (y := 5) gi_7_36 rfl gk_34 ?_
  refine z_aload0 gi_7_39 ?_
  refine z_iload2 gi_7_40 ?_
  refine z_iload3 gi_7_41 ?_
  refine z_pushJ gp_7_42 ?_
  refine z_cV3 gi_7_43 gk_34 go_8 (Nat.le_of_ble_eq_true rfl) gc_8_RIII ?_
  refine z_aload0 gi_8_0 ?_
  refine z_aload0 gi_8_1 ?_
  refine z_getI (v := 7) gi_8_2 gk_34 (zU_e) ?_
  refine z_iload1 gi_8_5 ?_
  refine z_iload2 gi_8_6 ?_
  refine z_iload3 gi_8_7 ?_
  refine z_callVi (As := [_, _, _, _]) (le := [some _, some _, some _, some _, some _, none, none]) gi_8_8 rfl gk_34 (Nat.le_of_ble_eq_true rfl) (Nat.le_of_ble_eq_true rfl) rfl ?_
  refine ah_7_1 (by decide) ?_
  refine z_aload0 gi_9_77 ?_
  refine z_iload6 gi_9_78 ?_
  refine z_callVx (As := [_]) gi_9_80 rfl rfl (Nat.le_of_ble_eq_true rfl) (Nat.le_of_ble_eq_true rfl) (bg_k (n := 0) (m := 1) hR ((zU_x (by decide)).trans ((zU_x (by decide)).trans (zU_e))) (by decide) (by decide)) ?_
  show zW _ _ _ _ _ _ _ _ _ _
  refine z_iload5 gi_9_83 ?_
  refine z_if_neT gi_9_85 zr_7 (by decide) ?_
  refine z_aload0 gi_9_100 ?_
  refine z_iload6 gi_9_101 ?_
  refine z_getS gi_9_103 ?_
  refine z_iload5 gi_9_106 ?_
  refine z_sald (j := 4) (n := 8) (v := 6) gi_9_108 (by decide) rfl (by decide) (by decide) rfl ?_
  refine z_iload3 gi_9_109 ?_
  refine z_iload4 gi_9_110 ?_
  refine z_pushJ gp_9_112 ?_
  refine z_iadd (e := 1) gi_9_113 rfl ?_
  refine z_callVi (As := [_, _, _, _]) (le := [some _, some _, some _, some _, some _, none, none]) gi_9_114 rfl gk_34 (Nat.le_of_ble_eq_true rfl) (Nat.le_of_ble_eq_true rfl) rfl ?_
  refine z_iload1 gi_12_0 ?_
  refine z_swI (tg := 198) gi_12_1 (by decide) (T := [((20 : Int), 92), ((30 : Int), 104), ((40 : Int), 115), ((41 : Int), 127), ((50 : Int), 139), ((60 : Int), 151), ((61 : Int), 174), ((70 : Int), 186), ((80 : Int), 198), ((81 : Int), 221)]) rfl (by decide) ?_
  refine z_aload0 gi_12_198 ?_
  refine z_iload2 gi_12_199 ?_
  refine z_pushJ gp_12_200 ?_
  refine z_iload3 gi_12_201 ?_
  refine z_iload4 gi_12_202 ?_
  refine z_callVi (As := [_, _, _, _]) (le := [some _, some _, some _, some _, some _, none, none]) gi_12_204 rfl gk_34 (Nat.le_of_ble_eq_true rfl) (Nat.le_of_ble_eq_true rfl) rfl ?_
  refine ah_6_1 (by decide) ?_
  refine z_aload0 gi_9_77 ?_
  refine z_iload6 gi_9_78 ?_
  refine z_callVx (As := [_]) gi_9_80 rfl rfl (Nat.le_of_ble_eq_true rfl) (Nat.le_of_ble_eq_true rfl) (bg_k (n := 1) (m := 2) hR (zU_e) (by decide) (by decide)) ?_
  show zW _ _ _ _ _ _ _ _ _ _
  refine z_iload5 gi_9_83 ?_
  refine z_if_neF gi_9_85 zr_0 (by decide) ?_
  refine z_aload0 gi_9_88 ?_
  refine z_iload6 gi_9_89 ?_
  refine z_iload3 gi_9_91 ?_
  refine z_iload4 gi_9_92 ?_
  refine z_pushJ gp_9_94 ?_
  refine z_iadd (e := 2) gi_9_95 rfl ?_
  refine z_callVi (As := [_, _, _]) (le := [some _, some _, some _, some _, none]) gi_9_96 rfl gk_34 (Nat.le_of_ble_eq_true rfl) (Nat.le_of_ble_eq_true rfl) rfl ?_
  refine z_iload1 gi_11_0 ?_
  refine z_swI (tg := 71) gi_11_1 (by decide) (T := [((1 : Int), 44), ((2 : Int), 51), ((10 : Int), 71), ((11 : Int), 81)]) rfl (by decide) ?_
  refine z_aload0 gi_11_71 ?_
  refine z_pushJ gp_11_72 ?_
  refine z_iload2 gi_11_73 ?_
  refine z_iload3 gi_11_74 ?_
  refine z_cV3 gi_11_75 gk_34 go_8 (Nat.le_of_ble_eq_true rfl) gc_8_RIII ?_
  refine z_aload0 gi_8_0 ?_
  refine z_aload0 gi_8_1 ?_
  refine z_getI (v := 7) gi_8_2 gk_34 ((zU_x (by decide)).trans ((zU_n (by decide)).trans ((zU_x (by decide)).trans ((zU_n (by decide)).trans (zU_e))))) ?_
  refine z_iload1 gi_8_5 ?_
  refine z_iload2 gi_8_6 ?_
  refine z_iload3 gi_8_7 ?_
  refine z_callVi (As := [_, _, _, _]) (le := [some _, some _, some _, some _, some _, none, none]) gi_8_8 rfl gk_34 (Nat.le_of_ble_eq_true rfl) (Nat.le_of_ble_eq_true rfl) rfl ?_
  refine ah_7_0 (by decide) ?_
  refine z_aload0 gi_9_77 ?_
  refine z_iload6 gi_9_78 ?_
  refine z_callVx (As := [_]) gi_9_80 rfl rfl (Nat.le_of_ble_eq_true rfl) (Nat.le_of_ble_eq_true rfl) (bg_k (n := 2) (m := 3) hR (zU_e) (by decide) (by decide)) ?_
  show zW _ _ _ _ _ _ _ _ _ _
  refine z_iload5 gi_9_83 ?_
  refine z_if_neT gi_9_85 zr_7 (by decide) ?_
  refine z_aload0 gi_9_100 ?_
  refine z_iload6 gi_9_101 ?_
  refine z_getS gi_9_103 ?_
  refine z_iload5 gi_9_106 ?_
  refine z_sald (j := 4) (n := 8) (v := 6) gi_9_108 (by decide) rfl (by decide) (by decide) rfl ?_
  refine z_iload3 gi_9_109 ?_
  refine z_iload4 gi_9_110 ?_
  refine z_pushJ gp_9_112 ?_
  refine z_iadd (e := 3) gi_9_113 rfl ?_
  refine z_callVi (As := [_, _, _, _]) (le := [some _, some _, some _, some _, some _, none, none]) gi_9_114 rfl gk_34 (Nat.le_of_ble_eq_true rfl) (Nat.le_of_ble_eq_true rfl) rfl ?_
  refine z_iload1 gi_12_0 ?_
  refine z_swI (tg := 221) gi_12_1 (by decide) (T := [((20 : Int), 92), ((30 : Int), 104), ((40 : Int), 115), ((41 : Int), 127), ((50 : Int), 139), ((60 : Int), 151), ((61 : Int), 174), ((70 : Int), 186), ((80 : Int), 198), ((81 : Int), 221)]) rfl (by decide) ?_
  refine z_aload0 gi_12_221 ?_
  refine z_iload2 gi_12_222 ?_
  refine z_pushJ gp_12_223 ?_
  refine z_iload3 gi_12_224 ?_
  refine z_iload4 gi_12_225 ?_
  refine z_callVi (As := [_, _, _, _]) (le := [some _, some _, some _, some _, some _, none, none]) gi_12_227 rfl gk_34 (Nat.le_of_ble_eq_true rfl) (Nat.le_of_ble_eq_true rfl) rfl ?_
  refine ah_6_0 (by decide) ?_
  refine z_aload0 gi_9_77 ?_
  refine z_iload6 gi_9_78 ?_
  refine z_callVx (As := [_]) gi_9_80 rfl rfl (Nat.le_of_ble_eq_true rfl) (Nat.le_of_ble_eq_true rfl) (bg_k (n := 3) (m := 4) hR (zU_e) (by decide) (by decide)) ?_
  show zW _ _ _ _ _ _ _ _ _ _
  refine z_iload5 gi_9_83 ?_
  refine z_if_neT gi_9_85 zr_6 (by decide) ?_
  refine z_aload0 gi_9_100 ?_
  refine z_iload6 gi_9_101 ?_
  refine z_getS gi_9_103 ?_
  refine z_iload5 gi_9_106 ?_
  refine z_sald (j := 4) (n := 8) (v := 0) gi_9_108 (by decide) rfl (by decide) (by decide) rfl ?_
  refine z_iload3 gi_9_109 ?_
  refine z_iload4 gi_9_110 ?_
  refine z_pushJ gp_9_112 ?_
  refine z_iadd (e := 4) gi_9_113 rfl ?_
  refine z_callVi (As := [_, _, _, _]) (le := [some _, some _, some _, some _, some _, none, none]) gi_9_114 rfl gk_34 (Nat.le_of_ble_eq_true rfl) (Nat.le_of_ble_eq_true rfl) rfl ?_
  refine z_iload1 gi_12_0 ?_
  refine z_swI (tg := 186) gi_12_1 (by decide) (T := [((20 : Int), 92), ((30 : Int), 104), ((40 : Int), 115), ((41 : Int), 127), ((50 : Int), 139), ((60 : Int), 151), ((61 : Int), 174), ((70 : Int), 186), ((80 : Int), 198), ((81 : Int), 221)]) rfl (by decide) ?_
  refine z_aload0 gi_12_186 ?_
  refine z_iload2 gi_12_187 ?_
  refine z_pushJ gp_12_188 ?_
  refine z_iload3 gi_12_189 ?_
  refine z_iload4 gi_12_190 ?_
  refine z_callVi (As := [_, _, _, _]) (le := [some _, some _, some _, some _, some _, none, none]) gi_12_192 rfl gk_34 (Nat.le_of_ble_eq_true rfl) (Nat.le_of_ble_eq_true rfl) rfl ?_
  refine ah_0_0 (by decide) ?_
  refine z_aload0 gi_9_77 ?_
  refine z_iload6 gi_9_78 ?_
  refine z_callVx (As := [_]) gi_9_80 rfl rfl (Nat.le_of_ble_eq_true rfl) (Nat.le_of_ble_eq_true rfl) (bg_k (n := 4) (m := 5) hR (zU_e) (by decide) (by decide)) ?_
  show zW _ _ _ _ _ _ _ _ _ _
  refine z_iload5 gi_9_83 ?_
  refine z_if_neF gi_9_85 zr_0 (by decide) ?_
  refine z_aload0 gi_9_88 ?_
  refine z_iload6 gi_9_89 ?_
  refine z_iload3 gi_9_91 ?_
  refine z_iload4 gi_9_92 ?_
  refine z_pushJ gp_9_94 ?_
  refine z_iadd (e := 5) gi_9_95 rfl ?_
  refine z_callVi (As := [_, _, _]) (le := [some _, some _, some _, some _, none]) gi_9_96 rfl gk_34 (Nat.le_of_ble_eq_true rfl) (Nat.le_of_ble_eq_true rfl) rfl ?_
  refine z_iload1 gi_11_0 ?_
  refine z_swI (tg := 44) gi_11_1 (by decide) (T := [((1 : Int), 44), ((2 : Int), 51), ((10 : Int), 71), ((11 : Int), 81)]) rfl (by decide) ?_
  refine z_iload2 gi_11_44 ?_
  refine z_aload0 gi_11_45 ?_
  refine z_getI (v := b) gi_11_46 gk_34 ((zU_x (by decide)).trans ((zU_n (by decide)).trans ((zU_x (by decide)).trans ((zU_n (by decide)).trans ((zU_x (by decide)).trans ((zU_n (by decide)).trans ((zU_x (by decide)).trans ((zU_n (by decide)).trans ((zU_x (by decide)).trans ((zU_n (by decide)).trans ((zU_x (by decide)).trans (zU_e)))))))))))) ?_
  refine z_iadd (e := x + b) gi_11_49 rfl ?_
  refine z_iret gi_11_50 gr_11 ?_
  show zW _ _ _ _ _ _ _ _ _ _
  refine z_iret gi_9_99 gr_9 ?_
  show zW _ _ _ _ _ _ _ _ _ _
  refine z_pushJ gp_12_195 ?_
  refine z_imul (e := (x + b) * 2) gi_12_196 rfl ?_
  refine z_iret gi_12_197 gr_12 ?_
  show zW _ _ _ _ _ _ _ _ _ _
  refine z_iret gi_9_117 gr_9 ?_
  show zW _ _ _ _ _ _ _ _ _ _
  refine z_pushJ gp_12_230 ?_
  refine z_isub (e := (x + b) * 2 - 1) gi_12_231 rfl ?_
  refine z_iret gi_12_232 gr_12 ?_
  show zW _ _ _ _ _ _ _ _ _ _
  refine z_iret gi_9_117 gr_9 ?_
  show zW _ _ _ _ _ _ _ _ _ _
  refine z_iret gi_8_11 gr_8 ?_
  show zW _ _ _ _ _ _ _ _ _ _
  refine z_pushJ gp_11_78 ?_
  refine z_imul (e := ((x + b) * 2 - 1) * 2) gi_11_79 rfl ?_
  refine z_iret gi_11_80 gr_11 ?_
  show zW _ _ _ _ _ _ _ _ _ _
  refine z_iret gi_9_99 gr_9 ?_
  show zW _ _ _ _ _ _ _ _ _ _
  refine z_istore (ls1 := [some (.ref 34), some (zi 80), some (zi 6), some (zi x), some (zi 1), none, some (zi (((x + b) * 2 - 1) * 2))]) gi_12_207 rfl ?_
  refine z_iload6 gi_12_209 ?_
  refine z_aload0 gi_12_211 ?_
  refine z_pushJ gp_12_212 ?_
  refine z_pushJ gp_12_213 ?_
  refine z_iload4 gi_12_214 ?_
  refine z_cV3 gi_12_216 gk_34 go_8 (Nat.le_of_ble_eq_true rfl) gc_8_RIII ?_
  refine z_aload0 gi_8_0 ?_
  refine z_aload0 gi_8_1 ?_
  refine z_getI (v := 7) gi_8_2 gk_34 ((zU_x (by decide)).trans ((zU_n (by decide)).trans ((zU_x (by decide)).trans ((zU_n (by decide)).trans ((zU_x (by decide)).trans ((zU_n (by decide)).trans ((zU_x (by decide)).trans ((zU_n (by decide)).trans ((zU_x (by decide)).trans ((zU_n (by decide)).trans (zU_e))))))))))) ?_
  refine z_iload1 gi_8_5 ?_
  refine z_iload2 gi_8_6 ?_
  refine z_iload3 gi_8_7 ?_
  refine z_callVi (As := [_, _, _, _]) (le := [some _, some _, some _, some _, some _, none, none]) gi_8_8 rfl gk_34 (Nat.le_of_ble_eq_true rfl) (Nat.le_of_ble_eq_true rfl) rfl ?_
  refine ah_7_2 (by decide) ?_
  refine z_aload0 gi_9_77 ?_
  refine z_iload6 gi_9_78 ?_
  refine z_callVx (As := [_]) gi_9_80 rfl rfl (Nat.le_of_ble_eq_true rfl) (Nat.le_of_ble_eq_true rfl) (bg_k (n := 5) (m := 6) hR (zU_e) (by decide) (by decide)) ?_
  show zW _ _ _ _ _ _ _ _ _ _
  refine z_iload5 gi_9_83 ?_
  refine z_if_neF gi_9_85 zr_0 (by decide) ?_
  refine z_aload0 gi_9_88 ?_
  refine z_iload6 gi_9_89 ?_
  refine z_iload3 gi_9_91 ?_
  refine z_iload4 gi_9_92 ?_
  refine z_pushJ gp_9_94 ?_
  refine z_iadd (e := 2) gi_9_95 rfl ?_
  refine z_callVi (As := [_, _, _]) (le := [some _, some _, some _, some _, none]) gi_9_96 rfl gk_34 (Nat.le_of_ble_eq_true rfl) (Nat.le_of_ble_eq_true rfl) rfl ?_
  refine z_iload1 gi_11_0 ?_
  refine z_swI (tg := 81) gi_11_1 (by decide) (T := [((1 : Int), 44), ((2 : Int), 51), ((10 : Int), 71), ((11 : Int), 81)]) rfl (by decide) ?_
  refine z_iload2 gi_11_81 ?_
  refine z_aload0 gi_11_82 ?_
  refine z_getI (v := b) gi_11_83 gk_34 ((zU_x (by decide)).trans ((zU_n (by decide)).trans ((zU_x (by decide)).trans ((zU_n (by decide)).trans ((zU_x (by decide)).trans ((zU_n (by decide)).trans ((zU_x (by decide)).trans ((zU_n (by decide)).trans ((zU_x (by decide)).trans ((zU_n (by decide)).trans ((zU_x (by decide)).trans ((zU_n (by decide)).trans ((zU_x (by decide)).trans (zU_e)))))))))))))) ?_
  refine z_ixor (e := zxor 2 b) gi_11_86 rfl ?_
  refine z_iret gi_11_87 gr_11 ?_
  show zW _ _ _ _ _ _ _ _ _ _
  refine z_iret gi_9_99 gr_9 ?_
  show zW _ _ _ _ _ _ _ _ _ _
  refine z_iret gi_8_11 gr_8 ?_
  show zW _ _ _ _ _ _ _ _ _ _
  refine z_iadd (e := ((x + b) * 2 - 1) * 2 + (zxor 2 b)) gi_12_219 rfl ?_
  refine z_iret gi_12_220 gr_12 ?_
  show zW _ _ _ _ _ _ _ _ _ _
  refine z_iret gi_9_117 gr_9 ?_
  show zW _ _ _ _ _ _ _ _ _ _
  refine z_iret gi_8_11 gr_8 ?_
  show zW _ _ _ _ _ _ _ _ _ _
  refine z_iret gi_7_46 gr_7 ?_
  show zW _ _ _ _ _ _ _ _ _ _
  refine z_iret gi_134_10 gr_134 ?_
  refine ⟨_, rfl, ?_⟩
  show zW _ _ _ _ [some (.ref 50), some (zi b), some (zi 1), some (zi x)] _ _ _ _ _
  refine z_aload0 gi_246_0 ?_
  refine z_pushJ gp_246_1 ?_
  refine z_putI (y := 56) gi_246_2 rfl gk_50 ?_
  refine z_aload0 gi_246_5 ?_
  refine z_iload1 gi_246_6 ?_
  refine z_cV1 gi_246_7 gk_50 go_230 (Nat.le_of_ble_eq_true rfl) gc_230_RI ?_
  refine z_iload1 gi_230_0 ?_
  refine z_pushJ gp_230_1 ?_
  refine z_aload0 gi_230_2 ?_
  refine z_getI (v := J 34 1) gi_230_3 gk_50 ((zU_x (by decide)).trans ((zU_n (by decide)).trans ((zU_n (by decide)).trans ((zU_n (by decide)).trans ((zU_n (by decide)).trans ((zU_n (by decide)).trans ((zU_n (by decide)).trans ((zU_n (by decide)).trans ((zU_n (by decide)).trans ((zU_n (by decide)).trans ((zU_n (by decide)).trans ((zU_n (by decide)).trans ((zU_n (by decide)).trans ((zU_n (by decide)).trans ((zU_n (by decide)).trans ((zU_n (by decide)).trans (a1.symm))))))))))))))))) ?_
  refine z_pushJ gp_230_6 ?_
  refine z_isub (e := (J 34 1) - 1) gi_230_7 rfl ?_
  refine z_cS3 gi_230_8 (Nat.le_of_ble_eq_true rfl) gc_148_III ?_
  refine z_iload0 gi_148_0 ?_
  refine z_iload1 gi_148_1 ?_
  refine z_icmp_ltF gi_148_2 (by omega) zr_0 (by omega) ?_
  refine z_iload0 gi_148_5 ?_
  refine z_iload2 gi_148_6 ?_
  refine z_icmp_gtF gi_148_7 (by omega) (by omega) (by omega) ?_
  refine z_pushJ gp_148_10 ?_
  refine z_goto gi_148_11 ?_
  refine z_bret1 gi_148_15 gr_148 ?_
  show zW _ _ _ _ _ _ _ _ _ _
  refine z_bret1 gi_230_11 gr_230 ?_
  show zW _ _ _ _ _ _ _ _ _ _
  refine z_if_eqF gi_246_10 zr_1 (by decide) ?_
  refine z_iload2 gi_246_13 ?_
  refine z_pushJ gp_246_14 ?_
  refine z_pushJ gp_246_15 ?_
  refine z_cS3 gi_246_16 (Nat.le_of_ble_eq_true rfl) gc_148_III ?_
  refine z_iload0 gi_148_0 ?_
  refine z_iload1 gi_148_1 ?_
  refine z_icmp_ltF gi_148_2 zr_1 zr_0 (by decide) ?_
  refine z_iload0 gi_148_5 ?_
  refine z_iload2 gi_148_6 ?_
  refine z_icmp_gtF gi_148_7 zr_1 zr_3 (by decide) ?_
  refine z_pushJ gp_148_10 ?_
  refine z_goto gi_148_11 ?_
  refine z_bret1 gi_148_15 gr_148 ?_
  show zW _ _ _ _ _ _ _ _ _ _
  refine z_if_neT gi_246_19 zr_1 (by decide) ?_
  refine z_iload2 gi_246_24 ?_
  refine z_if_neT gi_246_25 zr_1 (by decide) ?_
  refine z_iload2 gi_246_37 ?_
  refine z_pushJ gp_246_38 ?_
  refine z_icmp_neF gi_246_39 zr_1 zr_1 (by decide) ?_
  refine z_aload0 gi_246_42 ?_
  refine z_iload1 gi_246_43 ?_
  refine z_iload3 gi_246_44 ?_
  refine z_callVi (As := [_, _]) (le := [some _, some _, some _, none]) gi_246_45 rfl gk_50 (Nat.le_of_ble_eq_true rfl) (Nat.le_of_ble_eq_true rfl) rfl ?_
  refine z_aload0 gi_240_0 ?_
  refine z_getR (r := 81) gi_240_1 gk_50 (hRr _ rm_50_55 (by decide)) ?_
  refine z_iload1 gi_240_4 ?_
  refine z_iald (v := 7) gi_240_5 gk_81 (by decide) (by omega) ((zU_n (by decide)).trans ((zU_n (by decide)).trans ((zU_n (by decide)).trans ((zU_n (by decide)).trans ((zU_n (by decide)).trans ((zU_n (by decide)).trans ((zU_n (by decide)).trans ((zU_n (by decide)).trans ((zU_n (by decide)).trans ((zU_n (by decide)).trans ((zU_n (by decide)).trans ((zU_n (by decide)).trans ((zU_n (by decide)).trans ((zU_n (by decide)).trans ((zU_n (by decide)).trans ((zU_n (by decide)).trans ((a5 _ hb1.1 hb1.2).1.symm.trans hk))))))))))))))))) ?_
  refine z_pushJ gp_240_6 ?_
  refine z_callSP (As := [_, _]) (v := 0) gi_240_7 rfl (Nat.le_of_ble_eq_true rfl) (Nat.le_of_ble_eq_true rfl) iu_7_3 ?_
  refine z_if_eqT gi_240_10 zr_0 (by decide) ?_
  refine z_aload0 gi_240_28 ?_
  refine z_getR (r := 81) gi_240_29 gk_50 (hRr _ rm_50_55 (by decide)) ?_
  refine z_iload1 gi_240_32 ?_
  refine z_iald (v := 7) gi_240_33 gk_81 (by decide) (by omega) ((zU_n (by decide)).trans ((zU_n (by decide)).trans ((zU_n (by decide)).trans ((zU_n (by decide)).trans ((zU_n (by decide)).trans ((zU_n (by decide)).trans ((zU_n (by decide)).trans ((zU_n (by decide)).trans ((zU_n (by decide)).trans ((zU_n (by decide)).trans ((zU_n (by decide)).trans ((zU_n (by decide)).trans ((zU_n (by decide)).trans ((zU_n (by decide)).trans ((zU_n (by decide)).trans ((zU_n (by decide)).trans ((a5 _ hb1.1 hb1.2).1.symm.trans hk))))))))))))))))) ?_
  refine z_pushJ gp_240_34 ?_
  refine z_icmp_neF gi_240_36 zr_7 zr_7 (by decide) ?_
  refine z_aload0 gi_240_39 ?_
  refine z_pushJ gp_240_40 ?_
  refine z_callVx (As := [_]) gi_240_42 rfl rfl (Nat.le_of_ble_eq_true rfl) (Nat.le_of_ble_eq_true rfl) (rn_k (n := 0) (m := 1) hRr (zU_e) (by decide) (by decide)) ?_
  show zW _ _ _ _ _ _ _ _ _ _
  refine z_aload0 gi_240_45 ?_
  refine z_iload1 gi_240_46 ?_
  refine z_iload2 gi_240_47 ?_
  refine z_cV2 gi_240_48 gk_50 go_238 (Nat.le_of_ble_eq_true rfl) gc_238_RII ?_
  refine z_aload0 gi_238_0 ?_
  refine z_pushJ gp_238_1 ?_
  refine z_callVx (As := [_]) gi_238_3 rfl rfl (Nat.le_of_ble_eq_true rfl) (Nat.le_of_ble_eq_true rfl) (rn_k (n := 1) (m := 2) hRr (zU_e) (by decide) (by decide)) ?_
  show zW _ _ _ _ _ _ _ _ _ _
  refine z_aload0 gi_238_6 ?_
  refine z_iload1 gi_238_7 ?_
  refine z_iload2 gi_238_8 ?_
  refine z_cV2 gi_238_9 gk_50 go_237 (Nat.le_of_ble_eq_true rfl) gc_237_RII ?_
  refine z_aload0 gi_237_0 ?_
  refine z_getR (r := 81) gi_237_1 gk_50 (hRr _ rm_50_55 (by decide)) ?_
  refine z_iload1 gi_237_4 ?_
  refine z_iald (v := 7) gi_237_5 gk_81 (by decide) (by omega) ((zU_n (by decide)).trans ((zU_n (by decide)).trans ((zU_n (by decide)).trans ((zU_n (by decide)).trans ((zU_n (by decide)).trans ((zU_n (by decide)).trans ((zU_n (by decide)).trans ((zU_n (by decide)).trans ((zU_n (by decide)).trans ((zU_n (by decide)).trans ((zU_n (by decide)).trans ((zU_n (by decide)).trans ((zU_n (by decide)).trans ((zU_n (by decide)).trans ((zU_n (by decide)).trans ((zU_n (by decide)).trans ((zU_n (by decide)).trans ((zU_n (by decide)).trans ((zU_n (by decide)).trans ((zU_n (by decide)).trans ((a5 _ hb1.1 hb1.2).1.symm.trans hk))))))))))))))))))))) ?_
  refine z_pushJ gp_237_6 ?_
  refine z_callSP (As := [_, _]) (v := 0) gi_237_7 rfl (Nat.le_of_ble_eq_true rfl) (Nat.le_of_ble_eq_true rfl) iu_7_1 ?_
  refine z_if_eqT gi_237_10 zr_0 (by decide) ?_
  refine z_aload0 gi_237_28 ?_
  refine z_getR (r := 81) gi_237_29 gk_50 (hRr _ rm_50_55 (by decide)) ?_
  refine z_iload1 gi_237_32 ?_
  refine z_iald (v := 7) gi_237_33 gk_81 (by decide) (by omega) ((zU_n (by decide)).trans ((zU_n (by decide)).trans ((zU_n (by decide)).trans ((zU_n (by decide)).trans ((zU_n (by decide)).trans ((zU_n (by decide)).trans ((zU_n (by decide)).trans ((zU_n (by decide)).trans ((zU_n (by decide)).trans ((zU_n (by decide)).trans ((zU_n (by decide)).trans ((zU_n (by decide)).trans ((zU_n (by decide)).trans ((zU_n (by decide)).trans ((zU_n (by decide)).trans ((zU_n (by decide)).trans ((zU_n (by decide)).trans ((zU_n (by decide)).trans ((zU_n (by decide)).trans ((zU_n (by decide)).trans ((a5 _ hb1.1 hb1.2).1.symm.trans hk))))))))))))))))))))) ?_
  refine z_pushJ gp_237_34 ?_
  refine z_icmp_neF gi_237_36 zr_7 zr_7 (by decide) ?_
  refine z_aload0 gi_237_39 ?_
  refine z_pushJ gp_237_40 ?_
  refine z_callVx (As := [_]) gi_237_42 rfl rfl (Nat.le_of_ble_eq_true rfl) (Nat.le_of_ble_eq_true rfl) (rn_k (n := 2) (m := 3) hRr (zU_e) (by decide) (by decide)) ?_
  show zW _ _ _ _ _ _ _ _ _ _
  refine z_aload0 gi_237_45 ?_
  refine z_iload1 gi_237_46 ?_
  refine z_iload2 gi_237_47 ?_
  refine z_cV2 gi_237_48 gk_50 go_236 (Nat.le_of_ble_eq_true rfl) gc_236_RII ?_
  refine z_aload0 gi_236_0 ?_
  refine z_pushJ gp_236_1 ?_
  refine z_callVx (As := [_]) gi_236_3 rfl rfl (Nat.le_of_ble_eq_true rfl) (Nat.le_of_ble_eq_true rfl) (rn_k (n := 3) (m := 4) hRr (zU_e) (by decide) (by decide)) ?_
  show zW _ _ _ _ _ _ _ _ _ _
  refine z_aload0 gi_236_6 ?_
  refine z_iload1 gi_236_7 ?_
  refine z_iload2 gi_236_8 ?_
  refine z_cV2 gi_236_9 gk_50 go_235 (Nat.le_of_ble_eq_true rfl) gc_235_RII ?_
  refine z_aload0 gi_235_0 ?_
  refine z_pushJ gp_235_1 ?_
  refine z_callVx (As := [_]) gi_235_2 rfl rfl (Nat.le_of_ble_eq_true rfl) (Nat.le_of_ble_eq_true rfl) (rn_k (n := 4) (m := 5) hRr (zU_e) (by decide) (by decide)) ?_
  show zW _ _ _ _ _ _ _ _ _ _
  refine z_iload2 gi_235_5 ?_
  refine z_iload1 gi_235_6 ?_
  refine z_iadd (e := x + b) gi_235_7 rfl ?_
  refine z_iret gi_235_8 gr_235 ?_
  show zW _ _ _ _ _ _ _ _ _ _
  refine z_pushJ gp_236_12 ?_
  refine z_imul (e := (x + b) * 2) gi_236_13 rfl ?_
  refine z_iret gi_236_14 gr_236 ?_
  show zW _ _ _ _ _ _ _ _ _ _
  refine z_pushJ gp_237_51 ?_
  refine z_isub (e := (x + b) * 2 - 1) gi_237_52 rfl ?_
  refine z_iret gi_237_53 gr_237 ?_
  show zW _ _ _ _ _ _ _ _ _ _
  refine z_pushJ gp_238_12 ?_
  refine z_imul (e := ((x + b) * 2 - 1) * 2) gi_238_13 rfl ?_
  refine z_iret gi_238_14 gr_238 ?_
  show zW _ _ _ _ _ _ _ _ _ _
  refine z_istore (ls1 := [some (.ref 50), some (zi b), some (zi x), some (zi (((x + b) * 2 - 1) * 2))]) gi_240_51 rfl ?_
  refine z_iload3 gi_240_52 ?_
  refine z_aload0 gi_240_53 ?_
  refine z_iload1 gi_240_54 ?_
  refine z_pushJ gp_240_55 ?_
  refine z_callVi (As := [_, _]) (le := [some _, some _, some _, none]) gi_240_56 rfl gk_50 (Nat.le_of_ble_eq_true rfl) (Nat.le_of_ble_eq_true rfl) rfl ?_
  refine z_aload0 gi_243_0 ?_
  refine z_getR (r := 81) gi_243_1 gk_50 (hRr _ rm_50_55 (by decide)) ?_
  refine z_iload1 gi_243_4 ?_
  refine z_iald (v := 7) gi_243_5 gk_81 (by decide) (by omega) ((zU_n (by decide)).trans ((zU_n (by decide)).trans ((zU_n (by decide)).trans ((zU_n (by decide)).trans ((zU_n (by decide)).trans ((zU_n (by decide)).trans ((zU_n (by decide)).trans ((zU_n (by decide)).trans ((zU_n (by decide)).trans ((zU_n (by decide)).trans ((zU_n (by decide)).trans ((zU_n (by decide)).trans ((zU_n (by decide)).trans ((zU_n (by decide)).trans ((zU_n (by decide)).trans ((zU_n (by decide)).trans ((zU_n (by decide)).trans ((zU_n (by decide)).trans ((zU_n (by decide)).trans ((zU_n (by decide)).trans ((zU_n (by decide)).trans ((zU_n (by decide)).trans ((zU_n (by decide)).trans ((zU_n (by decide)).trans ((zU_n (by decide)).trans ((zU_n (by decide)).trans ((a5 _ hb1.1 hb1.2).1.symm.trans hk))))))))))))))))))))))))))) ?_
  refine z_pushJ gp_243_6 ?_
  refine z_icmp_neT gi_243_7 zr_7 zr_5 (by decide) ?_
  refine z_aload0 gi_243_32 ?_
  refine z_getR (r := 81) gi_243_33 gk_50 (hRr _ rm_50_55 (by decide)) ?_
  refine z_iload1 gi_243_36 ?_
  refine z_iald (v := 7) gi_243_37 gk_81 (by decide) (by omega) ((zU_n (by decide)).trans ((zU_n (by decide)).trans ((zU_n (by decide)).trans ((zU_n (by decide)).trans ((zU_n (by decide)).trans ((zU_n (by decide)).trans ((zU_n (by decide)).trans ((zU_n (by decide)).trans ((zU_n (by decide)).trans ((zU_n (by decide)).trans ((zU_n (by decide)).trans ((zU_n (by decide)).trans ((zU_n (by decide)).trans ((zU_n (by decide)).trans ((zU_n (by decide)).trans ((zU_n (by decide)).trans ((zU_n (by decide)).trans ((zU_n (by decide)).trans ((zU_n (by decide)).trans ((zU_n (by decide)).trans ((zU_n (by decide)).trans ((zU_n (by decide)).trans ((zU_n (by decide)).trans ((zU_n (by decide)).trans ((zU_n (by decide)).trans ((zU_n (by decide)).trans ((a5 _ hb1.1 hb1.2).1.symm.trans hk))))))))))))))))))))))))))) ?_
  refine z_pushJ gp_243_38 ?_
  refine z_icmp_neT gi_243_39 zr_7 zr_3 (by decide) ?_
  refine z_aload0 gi_243_51 ?_
  refine z_iload1 gi_243_52 ?_
  refine z_iload2 gi_243_53 ?_
  refine z_cV2 gi_243_54 gk_50 go_241 (Nat.le_of_ble_eq_true rfl) gc_241_RII ?_
  refine z_aload0 gi_241_0 ?_
  refine z_pushJ gp_241_1 ?_
  refine z_callVx (As := [_]) gi_241_3 rfl rfl (Nat.le_of_ble_eq_true rfl) (Nat.le_of_ble_eq_true rfl) (rn_k (n := 5) (m := 6) hRr (zU_e) (by decide) (by decide)) ?_
  show zW _ _ _ _ _ _ _ _ _ _
  refine z_iload2 gi_241_6 ?_
  refine z_iload1 gi_241_7 ?_
  refine z_ixor (e := zxor 2 b) gi_241_8 rfl ?_
  refine z_iret gi_241_9 gr_241 ?_
  show zW _ _ _ _ _ _ _ _ _ _
  refine z_iret gi_243_57 gr_243 ?_
  show zW _ _ _ _ _ _ _ _ _ _
  refine z_iadd (e := ((x + b) * 2 - 1) * 2 + (zxor 2 b)) gi_240_59 rfl ?_
  refine z_iret gi_240_60 gr_240 ?_
  show zW _ _ _ _ _ _ _ _ _ _
  refine z_goto gi_246_48 ?_
  refine z_iret gi_246_71 gr_246 ?_
  refine ⟨?_, ?_⟩
  · rfl
  · have hk := (zK_x (a := 50) (x := 56) (v := 6) (zK_x (a := 82) (x := 5) (v := 11) (zK_x (a := 50) (x := 56) (v := 5) (zK_x (a := 82) (x := 4) (v := 1) (zK_x (a := 50) (x := 56) (v := 4) (zK_x (a := 82) (x := 3) (v := 70) (zK_x (a := 50) (x := 56) (v := 3) (zK_x (a := 82) (x := 2) (v := 81) (zK_x (a := 50) (x := 56) (v := 2) (zK_x (a := 82) (x := 1) (v := 10) (zK_x (a := 50) (x := 56) (v := 1) (zK_x (a := 82) (x := 0) (v := 80) (zK_x (a := 50) (x := 56) (v := 0) (zK_x (a := 34) (x := 3) (v := 6) (zK_x (a := 36) (x := 5) (v := 11) (zK_x (a := 34) (x := 3) (v := 5) (zK_x (a := 36) (x := 4) (v := 1) (zK_x (a := 34) (x := 3) (v := 4) (zK_x (a := 36) (x := 3) (v := 70) (zK_x (a := 34) (x := 3) (v := 3) (zK_x (a := 36) (x := 2) (v := 81) (zK_x (a := 34) (x := 3) (v := 2) (zK_x (a := 36) (x := 1) (v := 10) (zK_x (a := 34) (x := 3) (v := 1) (zK_x (a := 36) (x := 0) (v := 80) (zK_x (a := 34) (x := 5) (v := 7) (zK_x (a := 34) (x := 4) (v := b) (zK_x (a := 34) (x := 3) (v := 0) (zK_r (k := (kL [] [(34, 3), (34, 4), (34, 5), (36, 0), (36, 1), (36, 2), (36, 3), (36, 4), (36, 5), (50, 56), (82, 0), (82, 1), (82, 2), (82, 3), (82, 4), (82, 5)])) (A := J)) rfl) rfl) rfl) rfl) rfl) rfl) rfl) rfl) rfl) rfl) rfl) rfl) rfl) rfl) rfl) rfl) rfl) rfl) rfl) rfl) rfl) rfl) rfl) rfl) rfl) rfl) rfl) rfl)
    exact ⟨hR, hG, RelY_k hk (by repeat' constructor) (fun p => by repeat' constructor) hY, RelD_k hk (by repeat' constructor) (fun p => by repeat' constructor) hD, RelP_k hk (by repeat' constructor) (fun p => by repeat' constructor) hP, RelC_k hk (by repeat' constructor) (fun p => by repeat' constructor) hC, ⟨(show J 34 1 = J 50 54 from a1), (show 0 ≤ J 34 1 ∧ J 34 1 ≤ 50 from a2), rfl, (show (0 : Int) ≤ 6 ∧ (6 : Int) ≤ 1000 from by decide), (fun i i1 i2 => a5 i i1 i2), (fun i i1 i2 _ => by have i3 : i < 6 := i2; have q : i = 0 ∨ i = 1 ∨ i = 2 ∨ i = 3 ∨ i = 4 ∨ i = 5 := (by omega); rcases q with rfl | rfl | rfl | rfl | rfl | rfl <;> rfl)⟩, RelS_k hk (zK_r (k := kM)) (fun x j a b => ⟨kL_38 (by decide) (by decide) x j a b, kM_38 x j a b⟩) (fun p => ⟨rfl, rfl, rfl⟩) rfl hS, RelT_k hk (by repeat' constructor) (fun p => by repeat' constructor) hTp, RelX_k hk (by repeat' constructor) (fun p => by repeat' constructor) hX, RelW_k hk ⟨rfl, rfl⟩ trivial hW⟩
theorem st_act_72 {X : Nat × (Nat → Int32)} {d : Nat} {J M : zA} {R : zR} {b x : Int} (hr : Rel X J M R) (hb : -2147483648 ≤ b ∧ b < 2147483648) (hx : -2147483648 ≤ x ∧ x < 2147483648) (hb1 : 0 ≤ b ∧ b < J 34 1) (hk : J 35 b = 7) : zW X (d + 20) 134 0 (gEn 134 [(.ref 0), (zi b), (zi 2), (zi x)]) [] J M R (stP X (d + 20) 246 [(zi b), (zi 2), (zi x)]) := by
  have hr0 := hr
  obtain ⟨hR, hG, hY, hD, hP, hC, hAc, hS, hTp, hX, hW⟩ := hr0
  have hRr : zRoR R := zRoR_of hR
  have hA0 := hAc
  obtain ⟨a1, a2, a3, a4, a5, a6⟩ := hA0
  show zW _ _ _ _ [some (.ref 0), some (zi b), some (zi 2), some (zi x)] _ _ _ _ _
  refine z_aload0 gi_134_0 ?_
  refine z_getR (r := 34) gi_134_1 gk_0 (hR _ rm_0_10) ?_
  refine z_iload1 gi_134_4 ?_
  refine z_iload2 gi_134_5 ?_
  refine z_iload3 gi_134_6 ?_
  refine z_cV3 gi_134_7 gk_34 go_7 (Nat.le_of_ble_eq_true rfl) gc_7_RIII ?_
  refine z_aload0 gi_7_0 ?_
  refine z_pushJ gp_7_1 ?_
  refine z_putI (y := 3) gi_7_2 rfl gk_34 ?_
  refine z_aload0 gi_7_5 ?_
  refine z_iload1 gi_7_6 ?_
  refine z_cV1 gi_7_7 gk_34 go_3 (Nat.le_of_ble_eq_true rfl) gc_3_RI ?_
  refine z_iload1 gi_3_0 ?_
  refine z_if_ltF gi_3_1 (by omega) (by omega) ?_
  refine z_iload1 gi_3_4 ?_
  refine z_aload0 gi_3_5 ?_
  refine z_getI (v := J 34 1) gi_3_6 gk_34 ((zU_x (by decide)).trans (rfl)) ?_
  refine z_icmp_geF gi_3_9 (by omega) (by omega) (by omega) ?_
  refine z_pushJ gp_3_12 ?_
  refine z_goto gi_3_13 ?_
  refine z_bret1 gi_3_17 gr_3 ?_
  show zW _ _ _ _ _ _ _ _ _ _
  refine z_if_eqF gi_7_10 zr_1 (by decide) ?_
  refine z_iload2 gi_7_13 ?_
  refine z_if_ltF gi_7_14 zr_2 (by decide) ?_
  refine z_iload2 gi_7_17 ?_
  refine z_pushJ gp_7_18 ?_
  refine z_icmp_ltT gi_7_19 zr_2 zr_4 (by decide) ?_
  refine z_aload0 gi_7_24 ?_
  refine z_iload1 gi_7_25 ?_
  refine z_putI (y := 4) gi_7_26 rfl gk_34 ?_
  refine z_aload0 gi_7_29 ?_
  refine z_aload0 gi_7_30 ?_
  refine z_getR (r := 35) gi_7_31 gk_34 (hR _ rm_34_0) ?_
  refine z_iload1 gi_7_34 ?_
  refine z_iald (v := 7) gi_7_35 gk_35 (by decide) (by omega) ((zU_n (by decide)).trans ((zU_n (by decide)).trans (hk))) ?_
  refine z_putI (y := 5) gi_7_36 rfl gk_34 ?_
  refine z_aload0 gi_7_39 ?_
  refine z_iload2 gi_7_40 ?_
  refine z_iload3 gi_7_41 ?_
  refine z_pushJ gp_7_42 ?_
  refine z_cV3 gi_7_43 gk_34 go_8 (Nat.le_of_ble_eq_true rfl) gc_8_RIII ?_
  refine z_aload0 gi_8_0 ?_
  refine z_aload0 gi_8_1 ?_
  refine z_getI (v := 7) gi_8_2 gk_34 (zU_e) ?_
  refine z_iload1 gi_8_5 ?_
  refine z_iload2 gi_8_6 ?_
  refine z_iload3 gi_8_7 ?_
  refine z_callVi (As := [_, _, _, _]) (le := [some _, some _, some _, some _, some _, none, none]) gi_8_8 rfl gk_34 (Nat.le_of_ble_eq_true rfl) (Nat.le_of_ble_eq_true rfl) rfl ?_
  refine ah_7_2 (by decide) ?_
  refine z_aload0 gi_9_77 ?_
  refine z_iload6 gi_9_78 ?_
  refine z_callVx (As := [_]) gi_9_80 rfl rfl (Nat.le_of_ble_eq_true rfl) (Nat.le_of_ble_eq_true rfl) (bg_k (n := 0) (m := 1) hR ((zU_x (by decide)).trans ((zU_x (by decide)).trans (zU_e))) (by decide) (by decide)) ?_
  show zW _ _ _ _ _ _ _ _ _ _
  refine z_iload5 gi_9_83 ?_
  refine z_if_neF gi_9_85 zr_0 (by decide) ?_
  refine z_aload0 gi_9_88 ?_
  refine z_iload6 gi_9_89 ?_
  refine z_iload3 gi_9_91 ?_
  refine z_iload4 gi_9_92 ?_
  refine z_pushJ gp_9_94 ?_
  refine z_iadd (e := 1) gi_9_95 rfl ?_
  refine z_callVi (As := [_, _, _]) (le := [some _, some _, some _, some _, none]) gi_9_96 rfl gk_34 (Nat.le_of_ble_eq_true rfl) (Nat.le_of_ble_eq_true rfl) rfl ?_
  refine z_iload1 gi_11_0 ?_
  refine z_swI (tg := 81) gi_11_1 (by decide) (T := [((1 : Int), 44), ((2 : Int), 51), ((10 : Int), 71), ((11 : Int), 81)]) rfl (by decide) ?_
  refine z_iload2 gi_11_81 ?_
  refine z_aload0 gi_11_82 ?_
  refine z_getI (v := b) gi_11_83 gk_34 ((zU_x (by decide)).trans ((zU_n (by decide)).trans ((zU_x (by decide)).trans (zU_e)))) ?_
  refine z_ixor (e := zxor x b) gi_11_86 rfl ?_
  refine z_iret gi_11_87 gr_11 ?_
  show zW _ _ _ _ _ _ _ _ _ _
  refine z_iret gi_9_99 gr_9 ?_
  show zW _ _ _ _ _ _ _ _ _ _
  refine z_iret gi_8_11 gr_8 ?_
  show zW _ _ _ _ _ _ _ _ _ _
  refine z_iret gi_7_46 gr_7 ?_
  show zW _ _ _ _ _ _ _ _ _ _
  refine z_iret gi_134_10 gr_134 ?_
  refine ⟨_, rfl, ?_⟩
  show zW _ _ _ _ [some (.ref 50), some (zi b), some (zi 2), some (zi x)] _ _ _ _ _
  refine z_aload0 gi_246_0 ?_
  refine z_pushJ gp_246_1 ?_
  refine z_putI (y := 56) gi_246_2 rfl gk_50 ?_
  refine z_aload0 gi_246_5 ?_
  refine z_iload1 gi_246_6 ?_
  refine z_cV1 gi_246_7 gk_50 go_230 (Nat.le_of_ble_eq_true rfl) gc_230_RI ?_
  refine z_iload1 gi_230_0 ?_
  refine z_pushJ gp_230_1 ?_
  refine z_aload0 gi_230_2 ?_
  refine z_getI (v := J 34 1) gi_230_3 gk_50 ((zU_x (by decide)).trans ((zU_n (by decide)).trans ((zU_n (by decide)).trans ((zU_n (by decide)).trans ((zU_n (by decide)).trans ((zU_n (by decide)).trans (a1.symm))))))) ?_
  refine z_pushJ gp_230_6 ?_
  refine z_isub (e := (J 34 1) - 1) gi_230_7 rfl ?_
  refine z_cS3 gi_230_8 (Nat.le_of_ble_eq_true rfl) gc_148_III ?_
  refine z_iload0 gi_148_0 ?_
  refine z_iload1 gi_148_1 ?_
  refine z_icmp_ltF gi_148_2 (by omega) zr_0 (by omega) ?_
  refine z_iload0 gi_148_5 ?_
  refine z_iload2 gi_148_6 ?_
  refine z_icmp_gtF gi_148_7 (by omega) (by omega) (by omega) ?_
  refine z_pushJ gp_148_10 ?_
  refine z_goto gi_148_11 ?_
  refine z_bret1 gi_148_15 gr_148 ?_
  show zW _ _ _ _ _ _ _ _ _ _
  refine z_bret1 gi_230_11 gr_230 ?_
  show zW _ _ _ _ _ _ _ _ _ _
  refine z_if_eqF gi_246_10 zr_1 (by decide) ?_
  refine z_iload2 gi_246_13 ?_
  refine z_pushJ gp_246_14 ?_
  refine z_pushJ gp_246_15 ?_
  refine z_cS3 gi_246_16 (Nat.le_of_ble_eq_true rfl) gc_148_III ?_
  refine z_iload0 gi_148_0 ?_
  refine z_iload1 gi_148_1 ?_
  refine z_icmp_ltF gi_148_2 zr_2 zr_0 (by decide) ?_
  refine z_iload0 gi_148_5 ?_
  refine z_iload2 gi_148_6 ?_
  refine z_icmp_gtF gi_148_7 zr_2 zr_3 (by decide) ?_
  refine z_pushJ gp_148_10 ?_
  refine z_goto gi_148_11 ?_
  refine z_bret1 gi_148_15 gr_148 ?_
  show zW _ _ _ _ _ _ _ _ _ _
  refine z_if_neT gi_246_19 zr_1 (by decide) ?_
  refine z_iload2 gi_246_24 ?_
  refine z_if_neT gi_246_25 zr_2 (by decide) ?_
  refine z_iload2 gi_246_37 ?_
  refine z_pushJ gp_246_38 ?_
  refine z_icmp_neT gi_246_39 zr_2 zr_1 (by decide) ?_
  refine z_iload2 gi_246_51 ?_
  refine z_pushJ gp_246_52 ?_
  refine z_icmp_neF gi_246_53 zr_2 zr_2 (by decide) ?_
  refine z_aload0 gi_246_56 ?_
  refine z_iload1 gi_246_57 ?_
  refine z_iload3 gi_246_58 ?_
  refine z_callVi (As := [_, _]) (le := [some _, some _, some _, none]) gi_246_59 rfl gk_50 (Nat.le_of_ble_eq_true rfl) (Nat.le_of_ble_eq_true rfl) rfl ?_
  refine z_aload0 gi_243_0 ?_
  refine z_getR (r := 81) gi_243_1 gk_50 (hRr _ rm_50_55 (by decide)) ?_
  refine z_iload1 gi_243_4 ?_
  refine z_iald (v := 7) gi_243_5 gk_81 (by decide) (by omega) ((zU_n (by decide)).trans ((zU_n (by decide)).trans ((zU_n (by decide)).trans ((zU_n (by decide)).trans ((zU_n (by decide)).trans ((zU_n (by decide)).trans ((a5 _ hb1.1 hb1.2).1.symm.trans hk))))))) ?_
  refine z_pushJ gp_243_6 ?_
  refine z_icmp_neT gi_243_7 zr_7 zr_5 (by decide) ?_
  refine z_aload0 gi_243_32 ?_
  refine z_getR (r := 81) gi_243_33 gk_50 (hRr _ rm_50_55 (by decide)) ?_
  refine z_iload1 gi_243_36 ?_
  refine z_iald (v := 7) gi_243_37 gk_81 (by decide) (by omega) ((zU_n (by decide)).trans ((zU_n (by decide)).trans ((zU_n (by decide)).trans ((zU_n (by decide)).trans ((zU_n (by decide)).trans ((zU_n (by decide)).trans ((a5 _ hb1.1 hb1.2).1.symm.trans hk))))))) ?_
  refine z_pushJ gp_243_38 ?_
  refine z_icmp_neT gi_243_39 zr_7 zr_3 (by decide) ?_
  refine z_aload0 gi_243_51 ?_
  refine z_iload1 gi_243_52 ?_
  refine z_iload2 gi_243_53 ?_
  refine z_cV2 gi_243_54 gk_50 go_241 (Nat.le_of_ble_eq_true rfl) gc_241_RII ?_
  refine z_aload0 gi_241_0 ?_
  refine z_pushJ gp_241_1 ?_
  refine z_callVx (As := [_]) gi_241_3 rfl rfl (Nat.le_of_ble_eq_true rfl) (Nat.le_of_ble_eq_true rfl) (rn_k (n := 0) (m := 1) hRr (zU_e) (by decide) (by decide)) ?_
  show zW _ _ _ _ _ _ _ _ _ _
  refine z_iload2 gi_241_6 ?_
  refine z_iload1 gi_241_7 ?_
  refine z_ixor (e := zxor x b) gi_241_8 rfl ?_
  refine z_iret gi_241_9 gr_241 ?_
  show zW _ _ _ _ _ _ _ _ _ _
  refine z_iret gi_243_57 gr_243 ?_
  show zW _ _ _ _ _ _ _ _ _ _
  refine z_goto gi_246_62 ?_
  refine z_iret gi_246_71 gr_246 ?_
  refine ⟨?_, ?_⟩
  · rfl
  · have hk := (zK_x (a := 50) (x := 56) (v := 1) (zK_x (a := 82) (x := 0) (v := 11) (zK_x (a := 50) (x := 56) (v := 0) (zK_x (a := 34) (x := 3) (v := 1) (zK_x (a := 36) (x := 0) (v := 11) (zK_x (a := 34) (x := 5) (v := 7) (zK_x (a := 34) (x := 4) (v := b) (zK_x (a := 34) (x := 3) (v := 0) (zK_r (k := (kL [] [(34, 3), (34, 4), (34, 5), (36, 0), (50, 56), (82, 0)])) (A := J)) rfl) rfl) rfl) rfl) rfl) rfl) rfl) rfl)
    exact ⟨hR, hG, RelY_k hk (by repeat' constructor) (fun p => by repeat' constructor) hY, RelD_k hk (by repeat' constructor) (fun p => by repeat' constructor) hD, RelP_k hk (by repeat' constructor) (fun p => by repeat' constructor) hP, RelC_k hk (by repeat' constructor) (fun p => by repeat' constructor) hC, ⟨(show J 34 1 = J 50 54 from a1), (show 0 ≤ J 34 1 ∧ J 34 1 ≤ 50 from a2), rfl, (show (0 : Int) ≤ 1 ∧ (1 : Int) ≤ 1000 from by decide), (fun i i1 i2 => a5 i i1 i2), (fun i i1 i2 _ => by have i3 : i < 1 := i2; have q : i = 0 := (by omega); subst q; rfl)⟩, RelS_k hk (zK_r (k := kM)) (fun x j a b => ⟨kL_38 (by decide) (by decide) x j a b, kM_38 x j a b⟩) (fun p => ⟨rfl, rfl, rfl⟩) rfl hS, RelT_k hk (by repeat' constructor) (fun p => by repeat' constructor) hTp, RelX_k hk (by repeat' constructor) (fun p => by repeat' constructor) hX, RelW_k hk ⟨rfl, rfl⟩ trivial hW⟩
theorem st_act_73 {X : Nat × (Nat → Int32)} {d : Nat} {J M : zA} {R : zR} {b x : Int} (hr : Rel X J M R) (hb : -2147483648 ≤ b ∧ b < 2147483648) (hx : -2147483648 ≤ x ∧ x < 2147483648) (hb1 : 0 ≤ b ∧ b < J 34 1) (hk : J 35 b = 7) : zW X (d + 20) 134 0 (gEn 134 [(.ref 0), (zi b), (zi 3), (zi x)]) [] J M R (stP X (d + 20) 246 [(zi b), (zi 3), (zi x)]) := by
  have hr0 := hr
  obtain ⟨hR, hG, hY, hD, hP, hC, hAc, hS, hTp, hX, hW⟩ := hr0
  have hRr : zRoR R := zRoR_of hR
  have hA0 := hAc
  obtain ⟨a1, a2, a3, a4, a5, a6⟩ := hA0
  show zW _ _ _ _ [some (.ref 0), some (zi b), some (zi 3), some (zi x)] _ _ _ _ _
  refine z_aload0 gi_134_0 ?_
  refine z_getR (r := 34) gi_134_1 gk_0 (hR _ rm_0_10) ?_
  refine z_iload1 gi_134_4 ?_
  refine z_iload2 gi_134_5 ?_
  refine z_iload3 gi_134_6 ?_
  refine z_cV3 gi_134_7 gk_34 go_7 (Nat.le_of_ble_eq_true rfl) gc_7_RIII ?_
  refine z_aload0 gi_7_0 ?_
  refine z_pushJ gp_7_1 ?_
  refine z_putI (y := 3) gi_7_2 rfl gk_34 ?_
  refine z_aload0 gi_7_5 ?_
  refine z_iload1 gi_7_6 ?_
  refine z_cV1 gi_7_7 gk_34 go_3 (Nat.le_of_ble_eq_true rfl) gc_3_RI ?_
  refine z_iload1 gi_3_0 ?_
  refine z_if_ltF gi_3_1 (by omega) (by omega) ?_
  refine z_iload1 gi_3_4 ?_
  refine z_aload0 gi_3_5 ?_
  refine z_getI (v := J 34 1) gi_3_6 gk_34 ((zU_x (by decide)).trans (rfl)) ?_
  refine z_icmp_geF gi_3_9 (by omega) (by omega) (by omega) ?_
  refine z_pushJ gp_3_12 ?_
  refine z_goto gi_3_13 ?_
  refine z_bret1 gi_3_17 gr_3 ?_
  show zW _ _ _ _ _ _ _ _ _ _
  refine z_if_eqF gi_7_10 zr_1 (by decide) ?_
  refine z_iload2 gi_7_13 ?_
  refine z_if_ltF gi_7_14 zr_3 (by decide) ?_
  refine z_iload2 gi_7_17 ?_
  refine z_pushJ gp_7_18 ?_
  refine z_icmp_ltT gi_7_19 zr_3 zr_4 (by decide) ?_
  refine z_aload0 gi_7_24 ?_
  refine z_iload1 gi_7_25 ?_
  refine z_putI (y := 4) gi_7_26 rfl gk_34 ?_
  refine z_aload0 gi_7_29 ?_
  refine z_aload0 gi_7_30 ?_
  refine z_getR (r := 35) gi_7_31 gk_34 (hR _ rm_34_0) ?_
  refine z_iload1 gi_7_34 ?_
  refine z_iald (v := 7) gi_7_35 gk_35 (by decide) (by omega) ((zU_n (by decide)).trans ((zU_n (by decide)).trans (hk))) ?_
  refine z_putI (y := 5) gi_7_36 rfl gk_34 ?_
  refine z_aload0 gi_7_39 ?_
  refine z_iload2 gi_7_40 ?_
  refine z_iload3 gi_7_41 ?_
  refine z_pushJ gp_7_42 ?_
  refine z_cV3 gi_7_43 gk_34 go_8 (Nat.le_of_ble_eq_true rfl) gc_8_RIII ?_
  refine z_aload0 gi_8_0 ?_
  refine z_aload0 gi_8_1 ?_
  refine z_getI (v := 7) gi_8_2 gk_34 (zU_e) ?_
  refine z_iload1 gi_8_5 ?_
  refine z_iload2 gi_8_6 ?_
  refine z_iload3 gi_8_7 ?_
  refine z_callVi (As := [_, _, _, _]) (le := [some _, some _, some _, some _, some _, none, none]) gi_8_8 rfl gk_34 (Nat.le_of_ble_eq_true rfl) (Nat.le_of_ble_eq_true rfl) rfl ?_
  refine ah_7_3 (by decide) ?_
  refine z_aload0 gi_9_77 ?_
  refine z_iload6 gi_9_78 ?_
  refine z_callVx (As := [_]) gi_9_80 rfl rfl (Nat.le_of_ble_eq_true rfl) (Nat.le_of_ble_eq_true rfl) (bg_k (n := 0) (m := 1) hR ((zU_x (by decide)).trans ((zU_x (by decide)).trans (zU_e))) (by decide) (by decide)) ?_
  show zW _ _ _ _ _ _ _ _ _ _
  refine z_iload5 gi_9_83 ?_
  refine z_if_neF gi_9_85 zr_0 (by decide) ?_
  refine z_aload0 gi_9_88 ?_
  refine z_iload6 gi_9_89 ?_
  refine z_iload3 gi_9_91 ?_
  refine z_iload4 gi_9_92 ?_
  refine z_pushJ gp_9_94 ?_
  refine z_iadd (e := 1) gi_9_95 rfl ?_
  refine z_callVi (As := [_, _, _]) (le := [some _, some _, some _, some _, none]) gi_9_96 rfl gk_34 (Nat.le_of_ble_eq_true rfl) (Nat.le_of_ble_eq_true rfl) rfl ?_
  refine z_iload1 gi_11_0 ?_
  refine z_swI (tg := 51) gi_11_1 (by decide) (T := [((1 : Int), 44), ((2 : Int), 51), ((10 : Int), 71), ((11 : Int), 81)]) rfl (by decide) ?_
  refine z_aload0 gi_11_51 ?_
  refine z_pushJ gp_11_52 ?_
  refine z_iload2 gi_11_53 ?_
  refine z_iload3 gi_11_54 ?_
  refine z_cV3 gi_11_55 gk_34 go_8 (Nat.le_of_ble_eq_true rfl) gc_8_RIII ?_
  refine z_aload0 gi_8_0 ?_
  refine z_aload0 gi_8_1 ?_
  refine z_getI (v := 7) gi_8_2 gk_34 ((zU_x (by decide)).trans ((zU_n (by decide)).trans (zU_e))) ?_
  refine z_iload1 gi_8_5 ?_
  refine z_iload2 gi_8_6 ?_
  refine z_iload3 gi_8_7 ?_
  refine z_callVi (As := [_, _, _, _]) (le := [some _, some _, some _, some _, some _, none, none]) gi_8_8 rfl gk_34 (Nat.le_of_ble_eq_true rfl) (Nat.le_of_ble_eq_true rfl) rfl ?_
  refine ah_7_1 (by decide) ?_
  refine z_aload0 gi_9_77 ?_
  refine z_iload6 gi_9_78 ?_
  refine z_callVx (As := [_]) gi_9_80 rfl rfl (Nat.le_of_ble_eq_true rfl) (Nat.le_of_ble_eq_true rfl) (bg_k (n := 1) (m := 2) hR (zU_e) (by decide) (by decide)) ?_
  show zW _ _ _ _ _ _ _ _ _ _
  refine z_iload5 gi_9_83 ?_
  refine z_if_neT gi_9_85 zr_7 (by decide) ?_
  refine z_aload0 gi_9_100 ?_
  refine z_iload6 gi_9_101 ?_
  refine z_getS gi_9_103 ?_
  refine z_iload5 gi_9_106 ?_
  refine z_sald (j := 4) (n := 8) (v := 6) gi_9_108 (by decide) rfl (by decide) (by decide) rfl ?_
  refine z_iload3 gi_9_109 ?_
  refine z_iload4 gi_9_110 ?_
  refine z_pushJ gp_9_112 ?_
  refine z_iadd (e := 2) gi_9_113 rfl ?_
  refine z_callVi (As := [_, _, _, _]) (le := [some _, some _, some _, some _, some _, none, none]) gi_9_114 rfl gk_34 (Nat.le_of_ble_eq_true rfl) (Nat.le_of_ble_eq_true rfl) rfl ?_
  refine z_iload1 gi_12_0 ?_
  refine z_swI (tg := 198) gi_12_1 (by decide) (T := [((20 : Int), 92), ((30 : Int), 104), ((40 : Int), 115), ((41 : Int), 127), ((50 : Int), 139), ((60 : Int), 151), ((61 : Int), 174), ((70 : Int), 186), ((80 : Int), 198), ((81 : Int), 221)]) rfl (by decide) ?_
  refine z_aload0 gi_12_198 ?_
  refine z_iload2 gi_12_199 ?_
  refine z_pushJ gp_12_200 ?_
  refine z_iload3 gi_12_201 ?_
  refine z_iload4 gi_12_202 ?_
  refine z_callVi (As := [_, _, _, _]) (le := [some _, some _, some _, some _, some _, none, none]) gi_12_204 rfl gk_34 (Nat.le_of_ble_eq_true rfl) (Nat.le_of_ble_eq_true rfl) rfl ?_
  refine ah_6_1 (by decide) ?_
  refine z_aload0 gi_9_77 ?_
  refine z_iload6 gi_9_78 ?_
  refine z_callVx (As := [_]) gi_9_80 rfl rfl (Nat.le_of_ble_eq_true rfl) (Nat.le_of_ble_eq_true rfl) (bg_k (n := 2) (m := 3) hR (zU_e) (by decide) (by decide)) ?_
  show zW _ _ _ _ _ _ _ _ _ _
  refine z_iload5 gi_9_83 ?_
  refine z_if_neF gi_9_85 zr_0 (by decide) ?_
  refine z_aload0 gi_9_88 ?_
  refine z_iload6 gi_9_89 ?_
  refine z_iload3 gi_9_91 ?_
  refine z_iload4 gi_9_92 ?_
  refine z_pushJ gp_9_94 ?_
  refine z_iadd (e := 3) gi_9_95 rfl ?_
  refine z_callVi (As := [_, _, _]) (le := [some _, some _, some _, some _, none]) gi_9_96 rfl gk_34 (Nat.le_of_ble_eq_true rfl) (Nat.le_of_ble_eq_true rfl) rfl ?_
  refine z_iload1 gi_11_0 ?_
  refine z_swI (tg := 71) gi_11_1 (by decide) (T := [((1 : Int), 44), ((2 : Int), 51), ((10 : Int), 71), ((11 : Int), 81)]) rfl (by decide) ?_
  refine z_aload0 gi_11_71 ?_
  refine z_pushJ gp_11_72 ?_
  refine z_iload2 gi_11_73 ?_
  refine z_iload3 gi_11_74 ?_
  refine z_cV3 gi_11_75 gk_34 go_8 (Nat.le_of_ble_eq_true rfl) gc_8_RIII ?_
  refine z_aload0 gi_8_0 ?_
  refine z_aload0 gi_8_1 ?_
  refine z_getI (v := 7) gi_8_2 gk_34 ((zU_x (by decide)).trans ((zU_n (by decide)).trans ((zU_x (by decide)).trans ((zU_n (by decide)).trans ((zU_x (by decide)).trans ((zU_n (by decide)).trans (zU_e))))))) ?_
  refine z_iload1 gi_8_5 ?_
  refine z_iload2 gi_8_6 ?_
  refine z_iload3 gi_8_7 ?_
  refine z_callVi (As := [_, _, _, _]) (le := [some _, some _, some _, some _, some _, none, none]) gi_8_8 rfl gk_34 (Nat.le_of_ble_eq_true rfl) (Nat.le_of_ble_eq_true rfl) rfl ?_
  refine ah_7_0 (by decide) ?_
  refine z_aload0 gi_9_77 ?_
  refine z_iload6 gi_9_78 ?_
  refine z_callVx (As := [_]) gi_9_80 rfl rfl (Nat.le_of_ble_eq_true rfl) (Nat.le_of_ble_eq_true rfl) (bg_k (n := 3) (m := 4) hR (zU_e) (by decide) (by decide)) ?_
  show zW _ _ _ _ _ _ _ _ _ _
  refine z_iload5 gi_9_83 ?_
  refine z_if_neT gi_9_85 zr_7 (by decide) ?_
  refine z_aload0 gi_9_100 ?_
  refine z_iload6 gi_9_101 ?_
  refine z_getS gi_9_103 ?_
  refine z_iload5 gi_9_106 ?_
  refine z_sald (j := 4) (n := 8) (v := 6) gi_9_108 (by decide) rfl (by decide) (by decide) rfl ?_
  refine z_iload3 gi_9_109 ?_
  refine z_iload4 gi_9_110 ?_
  refine z_pushJ gp_9_112 ?_
  refine z_iadd (e := 4) gi_9_113 rfl ?_
  refine z_callVi (As := [_, _, _, _]) (le := [some _, some _, some _, some _, some _, none, none]) gi_9_114 rfl gk_34 (Nat.le_of_ble_eq_true rfl) (Nat.le_of_ble_eq_true rfl) rfl ?_
  refine z_iload1 gi_12_0 ?_
  refine z_swI (tg := 221) gi_12_1 (by decide) (T := [((20 : Int), 92), ((30 : Int), 104), ((40 : Int), 115), ((41 : Int), 127), ((50 : Int), 139), ((60 : Int), 151), ((61 : Int), 174), ((70 : Int), 186), ((80 : Int), 198), ((81 : Int), 221)]) rfl (by decide) ?_
  refine z_aload0 gi_12_221 ?_
  refine z_iload2 gi_12_222 ?_
  refine z_pushJ gp_12_223 ?_
  refine z_iload3 gi_12_224 ?_
  refine z_iload4 gi_12_225 ?_
  refine z_callVi (As := [_, _, _, _]) (le := [some _, some _, some _, some _, some _, none, none]) gi_12_227 rfl gk_34 (Nat.le_of_ble_eq_true rfl) (Nat.le_of_ble_eq_true rfl) rfl ?_
  refine ah_6_0 (by decide) ?_
  refine z_aload0 gi_9_77 ?_
  refine z_iload6 gi_9_78 ?_
  refine z_callVx (As := [_]) gi_9_80 rfl rfl (Nat.le_of_ble_eq_true rfl) (Nat.le_of_ble_eq_true rfl) (bg_k (n := 4) (m := 5) hR (zU_e) (by decide) (by decide)) ?_
  show zW _ _ _ _ _ _ _ _ _ _
  refine z_iload5 gi_9_83 ?_
  refine z_if_neT gi_9_85 zr_6 (by decide) ?_
  refine z_aload0 gi_9_100 ?_
  refine z_iload6 gi_9_101 ?_
  refine z_getS gi_9_103 ?_
  refine z_iload5 gi_9_106 ?_
  refine z_sald (j := 4) (n := 8) (v := 0) gi_9_108 (by decide) rfl (by decide) (by decide) rfl ?_
  refine z_iload3 gi_9_109 ?_
  refine z_iload4 gi_9_110 ?_
  refine z_pushJ gp_9_112 ?_
  refine z_iadd (e := 5) gi_9_113 rfl ?_
  refine z_callVi (As := [_, _, _, _]) (le := [some _, some _, some _, some _, some _, none, none]) gi_9_114 rfl gk_34 (Nat.le_of_ble_eq_true rfl) (Nat.le_of_ble_eq_true rfl) rfl ?_
  refine z_iload1 gi_12_0 ?_
  refine z_swI (tg := 186) gi_12_1 (by decide) (T := [((20 : Int), 92), ((30 : Int), 104), ((40 : Int), 115), ((41 : Int), 127), ((50 : Int), 139), ((60 : Int), 151), ((61 : Int), 174), ((70 : Int), 186), ((80 : Int), 198), ((81 : Int), 221)]) rfl (by decide) ?_
  refine z_aload0 gi_12_186 ?_
  refine z_iload2 gi_12_187 ?_
  refine z_pushJ gp_12_188 ?_
  refine z_iload3 gi_12_189 ?_
  refine z_iload4 gi_12_190 ?_
  refine z_callVi (As := [_, _, _, _]) (le := [some _, some _, some _, some _, some _, none, none]) gi_12_192 rfl gk_34 (Nat.le_of_ble_eq_true rfl) (Nat.le_of_ble_eq_true rfl) rfl ?_
  refine ah_0_0 (by decide) ?_
  refine z_aload0 gi_9_77 ?_
  refine z_iload6 gi_9_78 ?_
  refine z_callVx (As := [_]) gi_9_80 rfl rfl (Nat.le_of_ble_eq_true rfl) (Nat.le_of_ble_eq_true rfl) (bg_k (n := 5) (m := 6) hR (zU_e) (by decide) (by decide)) ?_
  show zW _ _ _ _ _ _ _ _ _ _
  refine z_iload5 gi_9_83 ?_
  refine z_if_neF gi_9_85 zr_0 (by decide) ?_
  refine z_aload0 gi_9_88 ?_
  refine z_iload6 gi_9_89 ?_
  refine z_iload3 gi_9_91 ?_
  refine z_iload4 gi_9_92 ?_
  refine z_pushJ gp_9_94 ?_
  refine z_iadd (e := 6) gi_9_95 rfl ?_
  refine z_callVi (As := [_, _, _]) (le := [some _, some _, some _, some _, none]) gi_9_96 rfl gk_34 (Nat.le_of_ble_eq_true rfl) (Nat.le_of_ble_eq_true rfl) rfl ?_
  refine z_iload1 gi_11_0 ?_
  refine z_swI (tg := 44) gi_11_1 (by decide) (T := [((1 : Int), 44), ((2 : Int), 51), ((10 : Int), 71), ((11 : Int), 81)]) rfl (by decide) ?_
  refine z_iload2 gi_11_44 ?_
  refine z_aload0 gi_11_45 ?_
  refine z_getI (v := b) gi_11_46 gk_34 ((zU_x (by decide)).trans ((zU_n (by decide)).trans ((zU_x (by decide)).trans ((zU_n (by decide)).trans ((zU_x (by decide)).trans ((zU_n (by decide)).trans ((zU_x (by decide)).trans ((zU_n (by decide)).trans ((zU_x (by decide)).trans ((zU_n (by decide)).trans ((zU_x (by decide)).trans ((zU_n (by decide)).trans ((zU_x (by decide)).trans (zU_e)))))))))))))) ?_
  refine z_iadd (e := x + b) gi_11_49 rfl ?_
  refine z_iret gi_11_50 gr_11 ?_
  show zW _ _ _ _ _ _ _ _ _ _
  refine z_iret gi_9_99 gr_9 ?_
  show zW _ _ _ _ _ _ _ _ _ _
  refine z_pushJ gp_12_195 ?_
  refine z_imul (e := (x + b) * 2) gi_12_196 rfl ?_
  refine z_iret gi_12_197 gr_12 ?_
  show zW _ _ _ _ _ _ _ _ _ _
  refine z_iret gi_9_117 gr_9 ?_
  show zW _ _ _ _ _ _ _ _ _ _
  refine z_pushJ gp_12_230 ?_
  refine z_isub (e := (x + b) * 2 - 1) gi_12_231 rfl ?_
  refine z_iret gi_12_232 gr_12 ?_
  show zW _ _ _ _ _ _ _ _ _ _
  refine z_iret gi_9_117 gr_9 ?_
  show zW _ _ _ _ _ _ _ _ _ _
  refine z_iret gi_8_11 gr_8 ?_
  show zW _ _ _ _ _ _ _ _ _ _
  refine z_pushJ gp_11_78 ?_
  refine z_imul (e := ((x + b) * 2 - 1) * 2) gi_11_79 rfl ?_
  refine z_iret gi_11_80 gr_11 ?_
  show zW _ _ _ _ _ _ _ _ _ _
  refine z_iret gi_9_99 gr_9 ?_
  show zW _ _ _ _ _ _ _ _ _ _
  refine z_istore (ls1 := [some (.ref 34), some (zi 80), some (zi 6), some (zi x), some (zi 2), none, some (zi (((x + b) * 2 - 1) * 2))]) gi_12_207 rfl ?_
  refine z_iload6 gi_12_209 ?_
  refine z_aload0 gi_12_211 ?_
  refine z_pushJ gp_12_212 ?_
  refine z_pushJ gp_12_213 ?_
  refine z_iload4 gi_12_214 ?_
  refine z_cV3 gi_12_216 gk_34 go_8 (Nat.le_of_ble_eq_true rfl) gc_8_RIII ?_
  refine z_aload0 gi_8_0 ?_
  refine z_aload0 gi_8_1 ?_
  refine z_getI (v := 7) gi_8_2 gk_34 ((zU_x (by decide)).trans ((zU_n (by decide)).trans ((zU_x (by decide)).trans ((zU_n (by decide)).trans ((zU_x (by decide)).trans ((zU_n (by decide)).trans ((zU_x (by decide)).trans ((zU_n (by decide)).trans ((zU_x (by decide)).trans ((zU_n (by decide)).trans ((zU_x (by decide)).trans ((zU_n (by decide)).trans (zU_e))))))))))))) ?_
  refine z_iload1 gi_8_5 ?_
  refine z_iload2 gi_8_6 ?_
  refine z_iload3 gi_8_7 ?_
  refine z_callVi (As := [_, _, _, _]) (le := [some _, some _, some _, some _, some _, none, none]) gi_8_8 rfl gk_34 (Nat.le_of_ble_eq_true rfl) (Nat.le_of_ble_eq_true rfl) rfl ?_
  refine ah_7_2 (by decide) ?_
  refine z_aload0 gi_9_77 ?_
  refine z_iload6 gi_9_78 ?_
  refine z_callVx (As := [_]) gi_9_80 rfl rfl (Nat.le_of_ble_eq_true rfl) (Nat.le_of_ble_eq_true rfl) (bg_k (n := 6) (m := 7) hR (zU_e) (by decide) (by decide)) ?_
  show zW _ _ _ _ _ _ _ _ _ _
  refine z_iload5 gi_9_83 ?_
  refine z_if_neF gi_9_85 zr_0 (by decide) ?_
  refine z_aload0 gi_9_88 ?_
  refine z_iload6 gi_9_89 ?_
  refine z_iload3 gi_9_91 ?_
  refine z_iload4 gi_9_92 ?_
  refine z_pushJ gp_9_94 ?_
  refine z_iadd (e := 3) gi_9_95 rfl ?_
  refine z_callVi (As := [_, _, _]) (le := [some _, some _, some _, some _, none]) gi_9_96 rfl gk_34 (Nat.le_of_ble_eq_true rfl) (Nat.le_of_ble_eq_true rfl) rfl ?_
  refine z_iload1 gi_11_0 ?_
  refine z_swI (tg := 81) gi_11_1 (by decide) (T := [((1 : Int), 44), ((2 : Int), 51), ((10 : Int), 71), ((11 : Int), 81)]) rfl (by decide) ?_
  refine z_iload2 gi_11_81 ?_
  refine z_aload0 gi_11_82 ?_
  refine z_getI (v := b) gi_11_83 gk_34 ((zU_x (by decide)).trans ((zU_n (by decide)).trans ((zU_x (by decide)).trans ((zU_n (by decide)).trans ((zU_x (by decide)).trans ((zU_n (by decide)).trans ((zU_x (by decide)).trans ((zU_n (by decide)).trans ((zU_x (by decide)).trans ((zU_n (by decide)).trans ((zU_x (by decide)).trans ((zU_n (by decide)).trans ((zU_x (by decide)).trans ((zU_n (by decide)).trans ((zU_x (by decide)).trans (zU_e)))))))))))))))) ?_
  refine z_ixor (e := zxor 2 b) gi_11_86 rfl ?_
  refine z_iret gi_11_87 gr_11 ?_
  show zW _ _ _ _ _ _ _ _ _ _
  refine z_iret gi_9_99 gr_9 ?_
  show zW _ _ _ _ _ _ _ _ _ _
  refine z_iret gi_8_11 gr_8 ?_
  show zW _ _ _ _ _ _ _ _ _ _
  refine z_iadd (e := ((x + b) * 2 - 1) * 2 + (zxor 2 b)) gi_12_219 rfl ?_
  refine z_iret gi_12_220 gr_12 ?_
  show zW _ _ _ _ _ _ _ _ _ _
  refine z_iret gi_9_117 gr_9 ?_
  show zW _ _ _ _ _ _ _ _ _ _
  refine z_iret gi_8_11 gr_8 ?_
  show zW _ _ _ _ _ _ _ _ _ _
  refine z_istore (ls1 := [some (.ref 34), some (zi 2), some (zi x), some (zi 1), some (zi (((x + b) * 2 - 1) * 2 + (zxor 2 b)))]) gi_11_58 rfl ?_
  refine z_iload4 gi_11_60 ?_
  refine z_aload0 gi_11_62 ?_
  refine z_pushJ gp_11_63 ?_
  refine z_pushJ gp_11_64 ?_
  refine z_iload3 gi_11_65 ?_
  refine z_cV3 gi_11_66 gk_34 go_8 (Nat.le_of_ble_eq_true rfl) gc_8_RIII ?_
  refine z_aload0 gi_8_0 ?_
  refine z_aload0 gi_8_1 ?_
  refine z_getI (v := 7) gi_8_2 gk_34 ((zU_x (by decide)).trans ((zU_n (by decide)).trans ((zU_x (by decide)).trans ((zU_n (by decide)).trans ((zU_x (by decide)).trans ((zU_n (by decide)).trans ((zU_x (by decide)).trans ((zU_n (by decide)).trans ((zU_x (by decide)).trans ((zU_n (by decide)).trans ((zU_x (by decide)).trans ((zU_n (by decide)).trans ((zU_x (by decide)).trans ((zU_n (by decide)).trans (zU_e))))))))))))))) ?_
  refine z_iload1 gi_8_5 ?_
  refine z_iload2 gi_8_6 ?_
  refine z_iload3 gi_8_7 ?_
  refine z_callVi (As := [_, _, _, _]) (le := [some _, some _, some _, some _, some _, none, none]) gi_8_8 rfl gk_34 (Nat.le_of_ble_eq_true rfl) (Nat.le_of_ble_eq_true rfl) rfl ?_
  refine ah_7_2 (by decide) ?_
  refine z_aload0 gi_9_77 ?_
  refine z_iload6 gi_9_78 ?_
  refine z_callVx (As := [_]) gi_9_80 rfl rfl (Nat.le_of_ble_eq_true rfl) (Nat.le_of_ble_eq_true rfl) (bg_k (n := 7) (m := 8) hR (zU_e) (by decide) (by decide)) ?_
  show zW _ _ _ _ _ _ _ _ _ _
  refine z_iload5 gi_9_83 ?_
  refine z_if_neF gi_9_85 zr_0 (by decide) ?_
  refine z_aload0 gi_9_88 ?_
  refine z_iload6 gi_9_89 ?_
  refine z_iload3 gi_9_91 ?_
  refine z_iload4 gi_9_92 ?_
  refine z_pushJ gp_9_94 ?_
  refine z_iadd (e := 2) gi_9_95 rfl ?_
  refine z_callVi (As := [_, _, _]) (le := [some _, some _, some _, some _, none]) gi_9_96 rfl gk_34 (Nat.le_of_ble_eq_true rfl) (Nat.le_of_ble_eq_true rfl) rfl ?_
  refine z_iload1 gi_11_0 ?_
  refine z_swI (tg := 81) gi_11_1 (by decide) (T := [((1 : Int), 44), ((2 : Int), 51), ((10 : Int), 71), ((11 : Int), 81)]) rfl (by decide) ?_
  refine z_iload2 gi_11_81 ?_
  refine z_aload0 gi_11_82 ?_
  refine z_getI (v := b) gi_11_83 gk_34 ((zU_x (by decide)).trans ((zU_n (by decide)).trans ((zU_x (by decide)).trans ((zU_n (by decide)).trans ((zU_x (by decide)).trans ((zU_n (by decide)).trans ((zU_x (by decide)).trans ((zU_n (by decide)).trans ((zU_x (by decide)).trans ((zU_n (by decide)).trans ((zU_x (by decide)).trans ((zU_n (by decide)).trans ((zU_x (by decide)).trans ((zU_n (by decide)).trans ((zU_x (by decide)).trans ((zU_n (by decide)).trans ((zU_x (by decide)).trans (zU_e)))))))))))))))))) ?_
  refine z_ixor (e := zxor 1 b) gi_11_86 rfl ?_
  refine z_iret gi_11_87 gr_11 ?_
  show zW _ _ _ _ _ _ _ _ _ _
  refine z_iret gi_9_99 gr_9 ?_
  show zW _ _ _ _ _ _ _ _ _ _
  refine z_iret gi_8_11 gr_8 ?_
  show zW _ _ _ _ _ _ _ _ _ _
  refine z_isub (e := ((x + b) * 2 - 1) * 2 + (zxor 2 b) - (zxor 1 b)) gi_11_69 rfl ?_
  refine z_iret gi_11_70 gr_11 ?_
  show zW _ _ _ _ _ _ _ _ _ _
  refine z_iret gi_9_99 gr_9 ?_
  show zW _ _ _ _ _ _ _ _ _ _
  refine z_iret gi_8_11 gr_8 ?_
  show zW _ _ _ _ _ _ _ _ _ _
  refine z_iret gi_7_46 gr_7 ?_
  show zW _ _ _ _ _ _ _ _ _ _
  refine z_iret gi_134_10 gr_134 ?_
  refine ⟨_, rfl, ?_⟩
  show zW _ _ _ _ [some (.ref 50), some (zi b), some (zi 3), some (zi x)] _ _ _ _ _
  refine z_aload0 gi_246_0 ?_
  refine z_pushJ gp_246_1 ?_
  refine z_putI (y := 56) gi_246_2 rfl gk_50 ?_
  refine z_aload0 gi_246_5 ?_
  refine z_iload1 gi_246_6 ?_
  refine z_cV1 gi_246_7 gk_50 go_230 (Nat.le_of_ble_eq_true rfl) gc_230_RI ?_
  refine z_iload1 gi_230_0 ?_
  refine z_pushJ gp_230_1 ?_
  refine z_aload0 gi_230_2 ?_
  refine z_getI (v := J 34 1) gi_230_3 gk_50 ((zU_x (by decide)).trans ((zU_n (by decide)).trans ((zU_n (by decide)).trans ((zU_n (by decide)).trans ((zU_n (by decide)).trans ((zU_n (by decide)).trans ((zU_n (by decide)).trans ((zU_n (by decide)).trans ((zU_n (by decide)).trans ((zU_n (by decide)).trans ((zU_n (by decide)).trans ((zU_n (by decide)).trans ((zU_n (by decide)).trans ((zU_n (by decide)).trans ((zU_n (by decide)).trans ((zU_n (by decide)).trans ((zU_n (by decide)).trans ((zU_n (by decide)).trans ((zU_n (by decide)).trans ((zU_n (by decide)).trans (a1.symm))))))))))))))))))))) ?_
  refine z_pushJ gp_230_6 ?_
  refine z_isub (e := (J 34 1) - 1) gi_230_7 rfl ?_
  refine z_cS3 gi_230_8 (Nat.le_of_ble_eq_true rfl) gc_148_III ?_
  refine z_iload0 gi_148_0 ?_
  refine z_iload1 gi_148_1 ?_
  refine z_icmp_ltF gi_148_2 (by omega) zr_0 (by omega) ?_
  refine z_iload0 gi_148_5 ?_
  refine z_iload2 gi_148_6 ?_
  refine z_icmp_gtF gi_148_7 (by omega) (by omega) (by omega) ?_
  refine z_pushJ gp_148_10 ?_
  refine z_goto gi_148_11 ?_
  refine z_bret1 gi_148_15 gr_148 ?_
  show zW _ _ _ _ _ _ _ _ _ _
  refine z_bret1 gi_230_11 gr_230 ?_
  show zW _ _ _ _ _ _ _ _ _ _
  refine z_if_eqF gi_246_10 zr_1 (by decide) ?_
  refine z_iload2 gi_246_13 ?_
  refine z_pushJ gp_246_14 ?_
  refine z_pushJ gp_246_15 ?_
  refine z_cS3 gi_246_16 (Nat.le_of_ble_eq_true rfl) gc_148_III ?_
  refine z_iload0 gi_148_0 ?_
  refine z_iload1 gi_148_1 ?_
  refine z_icmp_ltF gi_148_2 zr_3 zr_0 (by decide) ?_
  refine z_iload0 gi_148_5 ?_
  refine z_iload2 gi_148_6 ?_
  refine z_icmp_gtF gi_148_7 zr_3 zr_3 (by decide) ?_
  refine z_pushJ gp_148_10 ?_
  refine z_goto gi_148_11 ?_
  refine z_bret1 gi_148_15 gr_148 ?_
  show zW _ _ _ _ _ _ _ _ _ _
  refine z_if_neT gi_246_19 zr_1 (by decide) ?_
  refine z_iload2 gi_246_24 ?_
  refine z_if_neT gi_246_25 zr_3 (by decide) ?_
  refine z_iload2 gi_246_37 ?_
  refine z_pushJ gp_246_38 ?_
  refine z_icmp_neT gi_246_39 zr_3 zr_1 (by decide) ?_
  refine z_iload2 gi_246_51 ?_
  refine z_pushJ gp_246_52 ?_
  refine z_icmp_neT gi_246_53 zr_3 zr_2 (by decide) ?_
  refine z_aload0 gi_246_65 ?_
  refine z_iload1 gi_246_66 ?_
  refine z_iload3 gi_246_67 ?_
  refine z_cV2 gi_246_68 gk_50 go_245 (Nat.le_of_ble_eq_true rfl) gc_245_RII ?_
  refine z_aload0 gi_245_0 ?_
  refine z_getR (r := 81) gi_245_1 gk_50 (hRr _ rm_50_55 (by decide)) ?_
  refine z_iload1 gi_245_4 ?_
  refine z_iald (v := 7) gi_245_5 gk_81 (by decide) (by omega) ((zU_n (by decide)).trans ((zU_n (by decide)).trans ((zU_n (by decide)).trans ((zU_n (by decide)).trans ((zU_n (by decide)).trans ((zU_n (by decide)).trans ((zU_n (by decide)).trans ((zU_n (by decide)).trans ((zU_n (by decide)).trans ((zU_n (by decide)).trans ((zU_n (by decide)).trans ((zU_n (by decide)).trans ((zU_n (by decide)).trans ((zU_n (by decide)).trans ((zU_n (by decide)).trans ((zU_n (by decide)).trans ((zU_n (by decide)).trans ((zU_n (by decide)).trans ((zU_n (by decide)).trans ((zU_n (by decide)).trans ((a5 _ hb1.1 hb1.2).1.symm.trans hk))))))))))))))))))))) ?_
  refine z_pushJ gp_245_6 ?_
  refine z_icmp_neT gi_245_7 zr_7 zr_4 (by decide) ?_
  refine z_aload0 gi_245_25 ?_
  refine z_getR (r := 81) gi_245_26 gk_50 (hRr _ rm_50_55 (by decide)) ?_
  refine z_iload1 gi_245_29 ?_
  refine z_iald (v := 7) gi_245_30 gk_81 (by decide) (by omega) ((zU_n (by decide)).trans ((zU_n (by decide)).trans ((zU_n (by decide)).trans ((zU_n (by decide)).trans ((zU_n (by decide)).trans ((zU_n (by decide)).trans ((zU_n (by decide)).trans ((zU_n (by decide)).trans ((zU_n (by decide)).trans ((zU_n (by decide)).trans ((zU_n (by decide)).trans ((zU_n (by decide)).trans ((zU_n (by decide)).trans ((zU_n (by decide)).trans ((zU_n (by decide)).trans ((zU_n (by decide)).trans ((zU_n (by decide)).trans ((zU_n (by decide)).trans ((zU_n (by decide)).trans ((zU_n (by decide)).trans ((a5 _ hb1.1 hb1.2).1.symm.trans hk))))))))))))))))))))) ?_
  refine z_pushJ gp_245_31 ?_
  refine z_icmp_neT gi_245_32 zr_7 zr_5 (by decide) ?_
  refine z_aload0 gi_245_50 ?_
  refine z_iload1 gi_245_51 ?_
  refine z_iload2 gi_245_52 ?_
  refine z_callVi (As := [_, _]) (le := [some _, some _, some _, none]) gi_245_53 rfl gk_50 (Nat.le_of_ble_eq_true rfl) (Nat.le_of_ble_eq_true rfl) rfl ?_
  refine z_aload0 gi_244_0 ?_
  refine z_pushJ gp_244_1 ?_
  refine z_callVx (As := [_]) gi_244_2 rfl rfl (Nat.le_of_ble_eq_true rfl) (Nat.le_of_ble_eq_true rfl) (rn_k (n := 0) (m := 1) hRr (zU_e) (by decide) (by decide)) ?_
  show zW _ _ _ _ _ _ _ _ _ _
  refine z_aload0 gi_244_5 ?_
  refine z_iload1 gi_244_6 ?_
  refine z_iload2 gi_244_7 ?_
  refine z_callVi (As := [_, _]) (le := [some _, some _, some _, none]) gi_244_8 rfl gk_50 (Nat.le_of_ble_eq_true rfl) (Nat.le_of_ble_eq_true rfl) rfl ?_
  refine z_aload0 gi_240_0 ?_
  refine z_getR (r := 81) gi_240_1 gk_50 (hRr _ rm_50_55 (by decide)) ?_
  refine z_iload1 gi_240_4 ?_
  refine z_iald (v := 7) gi_240_5 gk_81 (by decide) (by omega) ((zU_n (by decide)).trans ((zU_n (by decide)).trans ((zU_n (by decide)).trans ((zU_n (by decide)).trans ((zU_n (by decide)).trans ((zU_n (by decide)).trans ((zU_n (by decide)).trans ((zU_n (by decide)).trans ((zU_n (by decide)).trans ((zU_n (by decide)).trans ((zU_n (by decide)).trans ((zU_n (by decide)).trans ((zU_n (by decide)).trans ((zU_n (by decide)).trans ((zU_n (by decide)).trans ((zU_n (by decide)).trans ((zU_n (by decide)).trans ((zU_n (by decide)).trans ((zU_n (by decide)).trans ((zU_n (by decide)).trans ((zU_n (by decide)).trans ((zU_n (by decide)).trans ((a5 _ hb1.1 hb1.2).1.symm.trans hk))))))))))))))))))))))) ?_
  refine z_pushJ gp_240_6 ?_
  refine z_callSP (As := [_, _]) (v := 0) gi_240_7 rfl (Nat.le_of_ble_eq_true rfl) (Nat.le_of_ble_eq_true rfl) iu_7_3 ?_
  refine z_if_eqT gi_240_10 zr_0 (by decide) ?_
  refine z_aload0 gi_240_28 ?_
  refine z_getR (r := 81) gi_240_29 gk_50 (hRr _ rm_50_55 (by decide)) ?_
  refine z_iload1 gi_240_32 ?_
  refine z_iald (v := 7) gi_240_33 gk_81 (by decide) (by omega) ((zU_n (by decide)).trans ((zU_n (by decide)).trans ((zU_n (by decide)).trans ((zU_n (by decide)).trans ((zU_n (by decide)).trans ((zU_n (by decide)).trans ((zU_n (by decide)).trans ((zU_n (by decide)).trans ((zU_n (by decide)).trans ((zU_n (by decide)).trans ((zU_n (by decide)).trans ((zU_n (by decide)).trans ((zU_n (by decide)).trans ((zU_n (by decide)).trans ((zU_n (by decide)).trans ((zU_n (by decide)).trans ((zU_n (by decide)).trans ((zU_n (by decide)).trans ((zU_n (by decide)).trans ((zU_n (by decide)).trans ((zU_n (by decide)).trans ((zU_n (by decide)).trans ((a5 _ hb1.1 hb1.2).1.symm.trans hk))))))))))))))))))))))) ?_
  refine z_pushJ gp_240_34 ?_
  refine z_icmp_neF gi_240_36 zr_7 zr_7 (by decide) ?_
  refine z_aload0 gi_240_39 ?_
  refine z_pushJ gp_240_40 ?_
  refine z_callVx (As := [_]) gi_240_42 rfl rfl (Nat.le_of_ble_eq_true rfl) (Nat.le_of_ble_eq_true rfl) (rn_k (n := 1) (m := 2) hRr (zU_e) (by decide) (by decide)) ?_
  show zW _ _ _ _ _ _ _ _ _ _
  refine z_aload0 gi_240_45 ?_
  refine z_iload1 gi_240_46 ?_
  refine z_iload2 gi_240_47 ?_
  refine z_cV2 gi_240_48 gk_50 go_238 (Nat.le_of_ble_eq_true rfl) gc_238_RII ?_
  refine z_aload0 gi_238_0 ?_
  refine z_pushJ gp_238_1 ?_
  refine z_callVx (As := [_]) gi_238_3 rfl rfl (Nat.le_of_ble_eq_true rfl) (Nat.le_of_ble_eq_true rfl) (rn_k (n := 2) (m := 3) hRr (zU_e) (by decide) (by decide)) ?_
  show zW _ _ _ _ _ _ _ _ _ _
  refine z_aload0 gi_238_6 ?_
  refine z_iload1 gi_238_7 ?_
  refine z_iload2 gi_238_8 ?_
  refine z_cV2 gi_238_9 gk_50 go_237 (Nat.le_of_ble_eq_true rfl) gc_237_RII ?_
  refine z_aload0 gi_237_0 ?_
  refine z_getR (r := 81) gi_237_1 gk_50 (hRr _ rm_50_55 (by decide)) ?_
  refine z_iload1 gi_237_4 ?_
  refine z_iald (v := 7) gi_237_5 gk_81 (by decide) (by omega) ((zU_n (by decide)).trans ((zU_n (by decide)).trans ((zU_n (by decide)).trans ((zU_n (by decide)).trans ((zU_n (by decide)).trans ((zU_n (by decide)).trans ((zU_n (by decide)).trans ((zU_n (by decide)).trans ((zU_n (by decide)).trans ((zU_n (by decide)).trans ((zU_n (by decide)).trans ((zU_n (by decide)).trans ((zU_n (by decide)).trans ((zU_n (by decide)).trans ((zU_n (by decide)).trans ((zU_n (by decide)).trans ((zU_n (by decide)).trans ((zU_n (by decide)).trans ((zU_n (by decide)).trans ((zU_n (by decide)).trans ((zU_n (by decide)).trans ((zU_n (by decide)).trans ((zU_n (by decide)).trans ((zU_n (by decide)).trans ((zU_n (by decide)).trans ((zU_n (by decide)).trans ((a5 _ hb1.1 hb1.2).1.symm.trans hk))))))))))))))))))))))))))) ?_
  refine z_pushJ gp_237_6 ?_
  refine z_callSP (As := [_, _]) (v := 0) gi_237_7 rfl (Nat.le_of_ble_eq_true rfl) (Nat.le_of_ble_eq_true rfl) iu_7_1 ?_
  refine z_if_eqT gi_237_10 zr_0 (by decide) ?_
  refine z_aload0 gi_237_28 ?_
  refine z_getR (r := 81) gi_237_29 gk_50 (hRr _ rm_50_55 (by decide)) ?_
  refine z_iload1 gi_237_32 ?_
  refine z_iald (v := 7) gi_237_33 gk_81 (by decide) (by omega) ((zU_n (by decide)).trans ((zU_n (by decide)).trans ((zU_n (by decide)).trans ((zU_n (by decide)).trans ((zU_n (by decide)).trans ((zU_n (by decide)).trans ((zU_n (by decide)).trans ((zU_n (by decide)).trans ((zU_n (by decide)).trans ((zU_n (by decide)).trans ((zU_n (by decide)).trans ((zU_n (by decide)).trans ((zU_n (by decide)).trans ((zU_n (by decide)).trans ((zU_n (by decide)).trans ((zU_n (by decide)).trans ((zU_n (by decide)).trans ((zU_n (by decide)).trans ((zU_n (by decide)).trans ((zU_n (by decide)).trans ((zU_n (by decide)).trans ((zU_n (by decide)).trans ((zU_n (by decide)).trans ((zU_n (by decide)).trans ((zU_n (by decide)).trans ((zU_n (by decide)).trans ((a5 _ hb1.1 hb1.2).1.symm.trans hk))))))))))))))))))))))))))) ?_
  refine z_pushJ gp_237_34 ?_
  refine z_icmp_neF gi_237_36 zr_7 zr_7 (by decide) ?_
  refine z_aload0 gi_237_39 ?_
  refine z_pushJ gp_237_40 ?_
  refine z_callVx (As := [_]) gi_237_42 rfl rfl (Nat.le_of_ble_eq_true rfl) (Nat.le_of_ble_eq_true rfl) (rn_k (n := 3) (m := 4) hRr (zU_e) (by decide) (by decide)) ?_
  show zW _ _ _ _ _ _ _ _ _ _
  refine z_aload0 gi_237_45 ?_
  refine z_iload1 gi_237_46 ?_
  refine z_iload2 gi_237_47 ?_
  refine z_cV2 gi_237_48 gk_50 go_236 (Nat.le_of_ble_eq_true rfl) gc_236_RII ?_
  refine z_aload0 gi_236_0 ?_
  refine z_pushJ gp_236_1 ?_
  refine z_callVx (As := [_]) gi_236_3 rfl rfl (Nat.le_of_ble_eq_true rfl) (Nat.le_of_ble_eq_true rfl) (rn_k (n := 4) (m := 5) hRr (zU_e) (by decide) (by decide)) ?_
  show zW _ _ _ _ _ _ _ _ _ _
  refine z_aload0 gi_236_6 ?_
  refine z_iload1 gi_236_7 ?_
  refine z_iload2 gi_236_8 ?_
  refine z_cV2 gi_236_9 gk_50 go_235 (Nat.le_of_ble_eq_true rfl) gc_235_RII ?_
  refine z_aload0 gi_235_0 ?_
  refine z_pushJ gp_235_1 ?_
  refine z_callVx (As := [_]) gi_235_2 rfl rfl (Nat.le_of_ble_eq_true rfl) (Nat.le_of_ble_eq_true rfl) (rn_k (n := 5) (m := 6) hRr (zU_e) (by decide) (by decide)) ?_
  show zW _ _ _ _ _ _ _ _ _ _
  refine z_iload2 gi_235_5 ?_
  refine z_iload1 gi_235_6 ?_
  refine z_iadd (e := x + b) gi_235_7 rfl ?_
  refine z_iret gi_235_8 gr_235 ?_
  show zW _ _ _ _ _ _ _ _ _ _
  refine z_pushJ gp_236_12 ?_
  refine z_imul (e := (x + b) * 2) gi_236_13 rfl ?_
  refine z_iret gi_236_14 gr_236 ?_
  show zW _ _ _ _ _ _ _ _ _ _
  refine z_pushJ gp_237_51 ?_
  refine z_isub (e := (x + b) * 2 - 1) gi_237_52 rfl ?_
  refine z_iret gi_237_53 gr_237 ?_
  show zW _ _ _ _ _ _ _ _ _ _
  refine z_pushJ gp_238_12 ?_
  refine z_imul (e := ((x + b) * 2 - 1) * 2) gi_238_13 rfl ?_
  refine z_iret gi_238_14 gr_238 ?_
  show zW _ _ _ _ _ _ _ _ _ _
  refine z_istore (ls1 := [some (.ref 50), some (zi b), some (zi x), some (zi (((x + b) * 2 - 1) * 2))]) gi_240_51 rfl ?_
  refine z_iload3 gi_240_52 ?_
  refine z_aload0 gi_240_53 ?_
  refine z_iload1 gi_240_54 ?_
  refine z_pushJ gp_240_55 ?_
  refine z_callVi (As := [_, _]) (le := [some _, some _, some _, none]) gi_240_56 rfl gk_50 (Nat.le_of_ble_eq_true rfl) (Nat.le_of_ble_eq_true rfl) rfl ?_
  refine z_aload0 gi_243_0 ?_
  refine z_getR (r := 81) gi_243_1 gk_50 (hRr _ rm_50_55 (by decide)) ?_
  refine z_iload1 gi_243_4 ?_
  refine z_iald (v := 7) gi_243_5 gk_81 (by decide) (by omega) ((zU_n (by decide)).trans ((zU_n (by decide)).trans ((zU_n (by decide)).trans ((zU_n (by decide)).trans ((zU_n (by decide)).trans ((zU_n (by decide)).trans ((zU_n (by decide)).trans ((zU_n (by decide)).trans ((zU_n (by decide)).trans ((zU_n (by decide)).trans ((zU_n (by decide)).trans ((zU_n (by decide)).trans ((zU_n (by decide)).trans ((zU_n (by decide)).trans ((zU_n (by decide)).trans ((zU_n (by decide)).trans ((zU_n (by decide)).trans ((zU_n (by decide)).trans ((zU_n (by decide)).trans ((zU_n (by decide)).trans ((zU_n (by decide)).trans ((zU_n (by decide)).trans ((zU_n (by decide)).trans ((zU_n (by decide)).trans ((zU_n (by decide)).trans ((zU_n (by decide)).trans ((zU_n (by decide)).trans ((zU_n (by decide)).trans ((zU_n (by decide)).trans ((zU_n (by decide)).trans ((zU_n (by decide)).trans ((zU_n (by decide)).trans ((a5 _ hb1.1 hb1.2).1.symm.trans hk))))))))))))))))))))))))))))))))) ?_
  refine z_pushJ gp_243_6 ?_
  refine z_icmp_neT gi_243_7 zr_7 zr_5 (by decide) ?_
  refine z_aload0 gi_243_32 ?_
  refine z_getR (r := 81) gi_243_33 gk_50 (hRr _ rm_50_55 (by decide)) ?_
  refine z_iload1 gi_243_36 ?_
  refine z_iald (v := 7) gi_243_37 gk_81 (by decide) (by omega) ((zU_n (by decide)).trans ((zU_n (by decide)).trans ((zU_n (by decide)).trans ((zU_n (by decide)).trans ((zU_n (by decide)).trans ((zU_n (by decide)).trans ((zU_n (by decide)).trans ((zU_n (by decide)).trans ((zU_n (by decide)).trans ((zU_n (by decide)).trans ((zU_n (by decide)).trans ((zU_n (by decide)).trans ((zU_n (by decide)).trans ((zU_n (by decide)).trans ((zU_n (by decide)).trans ((zU_n (by decide)).trans ((zU_n (by decide)).trans ((zU_n (by decide)).trans ((zU_n (by decide)).trans ((zU_n (by decide)).trans ((zU_n (by decide)).trans ((zU_n (by decide)).trans ((zU_n (by decide)).trans ((zU_n (by decide)).trans ((zU_n (by decide)).trans ((zU_n (by decide)).trans ((zU_n (by decide)).trans ((zU_n (by decide)).trans ((zU_n (by decide)).trans ((zU_n (by decide)).trans ((zU_n (by decide)).trans ((zU_n (by decide)).trans ((a5 _ hb1.1 hb1.2).1.symm.trans hk))))))))))))))))))))))))))))))))) ?_
  refine z_pushJ gp_243_38 ?_
  refine z_icmp_neT gi_243_39 zr_7 zr_3 (by decide) ?_
  refine z_aload0 gi_243_51 ?_
  refine z_iload1 gi_243_52 ?_
  refine z_iload2 gi_243_53 ?_
  refine z_cV2 gi_243_54 gk_50 go_241 (Nat.le_of_ble_eq_true rfl) gc_241_RII ?_
  refine z_aload0 gi_241_0 ?_
  refine z_pushJ gp_241_1 ?_
  refine z_callVx (As := [_]) gi_241_3 rfl rfl (Nat.le_of_ble_eq_true rfl) (Nat.le_of_ble_eq_true rfl) (rn_k (n := 6) (m := 7) hRr (zU_e) (by decide) (by decide)) ?_
  show zW _ _ _ _ _ _ _ _ _ _
  refine z_iload2 gi_241_6 ?_
  refine z_iload1 gi_241_7 ?_
  refine z_ixor (e := zxor 2 b) gi_241_8 rfl ?_
  refine z_iret gi_241_9 gr_241 ?_
  show zW _ _ _ _ _ _ _ _ _ _
  refine z_iret gi_243_57 gr_243 ?_
  show zW _ _ _ _ _ _ _ _ _ _
  refine z_iadd (e := ((x + b) * 2 - 1) * 2 + (zxor 2 b)) gi_240_59 rfl ?_
  refine z_iret gi_240_60 gr_240 ?_
  show zW _ _ _ _ _ _ _ _ _ _
  refine z_istore (ls1 := [some (.ref 50), some (zi b), some (zi x), some (zi (((x + b) * 2 - 1) * 2 + (zxor 2 b)))]) gi_244_11 rfl ?_
  refine z_iload3 gi_244_12 ?_
  refine z_aload0 gi_244_13 ?_
  refine z_iload1 gi_244_14 ?_
  refine z_pushJ gp_244_15 ?_
  refine z_callVi (As := [_, _]) (le := [some _, some _, some _, none]) gi_244_16 rfl gk_50 (Nat.le_of_ble_eq_true rfl) (Nat.le_of_ble_eq_true rfl) rfl ?_
  refine z_aload0 gi_243_0 ?_
  refine z_getR (r := 81) gi_243_1 gk_50 (hRr _ rm_50_55 (by decide)) ?_
  refine z_iload1 gi_243_4 ?_
  refine z_iald (v := 7) gi_243_5 gk_81 (by decide) (by omega) ((zU_n (by decide)).trans ((zU_n (by decide)).trans ((zU_n (by decide)).trans ((zU_n (by decide)).trans ((zU_n (by decide)).trans ((zU_n (by decide)).trans ((zU_n (by decide)).trans ((zU_n (by decide)).trans ((zU_n (by decide)).trans ((zU_n (by decide)).trans ((zU_n (by decide)).trans ((zU_n (by decide)).trans ((zU_n (by decide)).trans ((zU_n (by decide)).trans ((zU_n (by decide)).trans ((zU_n (by decide)).trans ((zU_n (by decide)).trans ((zU_n (by decide)).trans ((zU_n (by decide)).trans ((zU_n (by decide)).trans ((zU_n (by decide)).trans ((zU_n (by decide)).trans ((zU_n (by decide)).trans ((zU_n (by decide)).trans ((zU_n (by decide)).trans ((zU_n (by decide)).trans ((zU_n (by decide)).trans ((zU_n (by decide)).trans ((zU_n (by decide)).trans ((zU_n (by decide)).trans ((zU_n (by decide)).trans ((zU_n (by decide)).trans ((zU_n (by decide)).trans ((zU_n (by decide)).trans ((a5 _ hb1.1 hb1.2).1.symm.trans hk))))))))))))))))))))))))))))))))))) ?_
  refine z_pushJ gp_243_6 ?_
  refine z_icmp_neT gi_243_7 zr_7 zr_5 (by decide) ?_
  refine z_aload0 gi_243_32 ?_
  refine z_getR (r := 81) gi_243_33 gk_50 (hRr _ rm_50_55 (by decide)) ?_
  refine z_iload1 gi_243_36 ?_
  refine z_iald (v := 7) gi_243_37 gk_81 (by decide) (by omega) ((zU_n (by decide)).trans ((zU_n (by decide)).trans ((zU_n (by decide)).trans ((zU_n (by decide)).trans ((zU_n (by decide)).trans ((zU_n (by decide)).trans ((zU_n (by decide)).trans ((zU_n (by decide)).trans ((zU_n (by decide)).trans ((zU_n (by decide)).trans ((zU_n (by decide)).trans ((zU_n (by decide)).trans ((zU_n (by decide)).trans ((zU_n (by decide)).trans ((zU_n (by decide)).trans ((zU_n (by decide)).trans ((zU_n (by decide)).trans ((zU_n (by decide)).trans ((zU_n (by decide)).trans ((zU_n (by decide)).trans ((zU_n (by decide)).trans ((zU_n (by decide)).trans ((zU_n (by decide)).trans ((zU_n (by decide)).trans ((zU_n (by decide)).trans ((zU_n (by decide)).trans ((zU_n (by decide)).trans ((zU_n (by decide)).trans ((zU_n (by decide)).trans ((zU_n (by decide)).trans ((zU_n (by decide)).trans ((zU_n (by decide)).trans ((zU_n (by decide)).trans ((zU_n (by decide)).trans ((a5 _ hb1.1 hb1.2).1.symm.trans hk))))))))))))))))))))))))))))))))))) ?_
  refine z_pushJ gp_243_38 ?_
  refine z_icmp_neT gi_243_39 zr_7 zr_3 (by decide) ?_
  refine z_aload0 gi_243_51 ?_
  refine z_iload1 gi_243_52 ?_
  refine z_iload2 gi_243_53 ?_
  refine z_cV2 gi_243_54 gk_50 go_241 (Nat.le_of_ble_eq_true rfl) gc_241_RII ?_
  refine z_aload0 gi_241_0 ?_
  refine z_pushJ gp_241_1 ?_
  refine z_callVx (As := [_]) gi_241_3 rfl rfl (Nat.le_of_ble_eq_true rfl) (Nat.le_of_ble_eq_true rfl) (rn_k (n := 7) (m := 8) hRr (zU_e) (by decide) (by decide)) ?_
  show zW _ _ _ _ _ _ _ _ _ _
  refine z_iload2 gi_241_6 ?_
  refine z_iload1 gi_241_7 ?_
  refine z_ixor (e := zxor 1 b) gi_241_8 rfl ?_
  refine z_iret gi_241_9 gr_241 ?_
  show zW _ _ _ _ _ _ _ _ _ _
  refine z_iret gi_243_57 gr_243 ?_
  show zW _ _ _ _ _ _ _ _ _ _
  refine z_isub (e := ((x + b) * 2 - 1) * 2 + (zxor 2 b) - (zxor 1 b)) gi_244_19 rfl ?_
  refine z_iret gi_244_20 gr_244 ?_
  show zW _ _ _ _ _ _ _ _ _ _
  refine z_iret gi_245_56 gr_245 ?_
  show zW _ _ _ _ _ _ _ _ _ _
  refine z_iret gi_246_71 gr_246 ?_
  refine ⟨?_, ?_⟩
  · rfl
  · have hk := (zK_x (a := 50) (x := 56) (v := 8) (zK_x (a := 82) (x := 7) (v := 11) (zK_x (a := 50) (x := 56) (v := 7) (zK_x (a := 82) (x := 6) (v := 11) (zK_x (a := 50) (x := 56) (v := 6) (zK_x (a := 82) (x := 5) (v := 1) (zK_x (a := 50) (x := 56) (v := 5) (zK_x (a := 82) (x := 4) (v := 70) (zK_x (a := 50) (x := 56) (v := 4) (zK_x (a := 82) (x := 3) (v := 81) (zK_x (a := 50) (x := 56) (v := 3) (zK_x (a := 82) (x := 2) (v := 10) (zK_x (a := 50) (x := 56) (v := 2) (zK_x (a := 82) (x := 1) (v := 80) (zK_x (a := 50) (x := 56) (v := 1) (zK_x (a := 82) (x := 0) (v := 2) (zK_x (a := 50) (x := 56) (v := 0) (zK_x (a := 34) (x := 3) (v := 8) (zK_x (a := 36) (x := 7) (v := 11) (zK_x (a := 34) (x := 3) (v := 7) (zK_x (a := 36) (x := 6) (v := 11) (zK_x (a := 34) (x := 3) (v := 6) (zK_x (a := 36) (x := 5) (v := 1) (zK_x (a := 34) (x := 3) (v := 5) (zK_x (a := 36) (x := 4) (v := 70) (zK_x (a := 34) (x := 3) (v := 4) (zK_x (a := 36) (x := 3) (v := 81) (zK_x (a := 34) (x := 3) (v := 3) (zK_x (a := 36) (x := 2) (v := 10) (zK_x (a := 34) (x := 3) (v := 2) (zK_x (a := 36) (x := 1) (v := 80) (zK_x (a := 34) (x := 3) (v := 1) (zK_x (a := 36) (x := 0) (v := 2) (zK_x (a := 34) (x := 5) (v := 7) (zK_x (a := 34) (x := 4) (v := b) (zK_x (a := 34) (x := 3) (v := 0) (zK_r (k := (kL [] [(34, 3), (34, 4), (34, 5), (36, 0), (36, 1), (36, 2), (36, 3), (36, 4), (36, 5), (36, 6), (36, 7), (50, 56), (82, 0), (82, 1), (82, 2), (82, 3), (82, 4), (82, 5), (82, 6), (82, 7)])) (A := J)) rfl) rfl) rfl) rfl) rfl) rfl) rfl) rfl) rfl) rfl) rfl) rfl) rfl) rfl) rfl) rfl) rfl) rfl) rfl) rfl) rfl) rfl) rfl) rfl) rfl) rfl) rfl) rfl) rfl) rfl) rfl) rfl) rfl) rfl) rfl) rfl)
    exact ⟨hR, hG, RelY_k hk (by repeat' constructor) (fun p => by repeat' constructor) hY, RelD_k hk (by repeat' constructor) (fun p => by repeat' constructor) hD, RelP_k hk (by repeat' constructor) (fun p => by repeat' constructor) hP, RelC_k hk (by repeat' constructor) (fun p => by repeat' constructor) hC, ⟨(show J 34 1 = J 50 54 from a1), (show 0 ≤ J 34 1 ∧ J 34 1 ≤ 50 from a2), rfl, (show (0 : Int) ≤ 8 ∧ (8 : Int) ≤ 1000 from by decide), (fun i i1 i2 => a5 i i1 i2), (fun i i1 i2 _ => by have i3 : i < 8 := i2; have q : i = 0 ∨ i = 1 ∨ i = 2 ∨ i = 3 ∨ i = 4 ∨ i = 5 ∨ i = 6 ∨ i = 7 := (by omega); rcases q with rfl | rfl | rfl | rfl | rfl | rfl | rfl | rfl <;> rfl)⟩, RelS_k hk (zK_r (k := kM)) (fun x j a b => ⟨kL_38 (by decide) (by decide) x j a b, kM_38 x j a b⟩) (fun p => ⟨rfl, rfl, rfl⟩) rfl hS, RelT_k hk (by repeat' constructor) (fun p => by repeat' constructor) hTp, RelX_k hk (by repeat' constructor) (fun p => by repeat' constructor) hX, RelW_k hk ⟨rfl, rfl⟩ trivial hW⟩
theorem st_act_nb {X : Nat × (Nat → Int32)} {d : Nat} {J M : zA} {R : zR} {b a x : Int} (hr : Rel X J M R) (hb : -2147483648 ≤ b ∧ b < 2147483648) (ha : -2147483648 ≤ a ∧ a < 2147483648) (hx : -2147483648 ≤ x ∧ x < 2147483648) (hb1 : ¬ (0 ≤ b ∧ b < J 34 1)) : zW X (d + 20) 134 0 (gEn 134 [(.ref 0), (zi b), (zi a), (zi x)]) [] J M R (stP X (d + 20) 246 [(zi b), (zi a), (zi x)]) := by
  have hr0 := hr
  obtain ⟨hR, hG, hY, hD, hP, hC, hAc, hS, hTp, hX, hW⟩ := hr0
  have hRr : zRoR R := zRoR_of hR
  have hA0 := hAc
  obtain ⟨a1, a2, a3, a4, a5, a6⟩ := hA0
  show zW _ _ _ _ [some (.ref 0), some (zi b), some (zi a), some (zi x)] _ _ _ _ _
  refine z_aload0 gi_134_0 ?_
  refine z_getR (r := 34) gi_134_1 gk_0 (hR _ rm_0_10) ?_
  refine z_iload1 gi_134_4 ?_
  refine z_iload2 gi_134_5 ?_
  refine z_iload3 gi_134_6 ?_
  refine z_cV3 gi_134_7 gk_34 go_7 (Nat.le_of_ble_eq_true rfl) gc_7_RIII ?_
  refine z_aload0 gi_7_0 ?_
  refine z_pushJ gp_7_1 ?_
  refine z_putI (y := 3) gi_7_2 rfl gk_34 ?_
  refine z_aload0 gi_7_5 ?_
  refine z_iload1 gi_7_6 ?_
  refine z_cV1 gi_7_7 gk_34 go_3 (Nat.le_of_ble_eq_true rfl) gc_3_RI ?_
  refine z_iload1 gi_3_0 ?_
  refine z_if_lt gi_3_1 (by omega) (fun h1 => ?_) (fun h1 => ?_)
  · refine z_pushJ gp_3_16 ?_
    refine z_bret0 gi_3_17 gr_3 ?_
    show zW _ _ _ _ _ _ _ _ _ _
    refine z_if_eqT gi_7_10 zr_0 (by decide) ?_
    refine z_pushJ gp_7_22 ?_
    refine z_iret gi_7_23 gr_7 ?_
    show zW _ _ _ _ _ _ _ _ _ _
    refine z_iret gi_134_10 gr_134 ?_
    refine ⟨_, rfl, ?_⟩
    show zW _ _ _ _ [some (.ref 50), some (zi b), some (zi a), some (zi x)] _ _ _ _ _
    refine z_aload0 gi_246_0 ?_
    refine z_pushJ gp_246_1 ?_
    refine z_putI (y := 56) gi_246_2 rfl gk_50 ?_
    refine z_aload0 gi_246_5 ?_
    refine z_iload1 gi_246_6 ?_
    refine z_cV1 gi_246_7 gk_50 go_230 (Nat.le_of_ble_eq_true rfl) gc_230_RI ?_
    refine z_iload1 gi_230_0 ?_
    refine z_pushJ gp_230_1 ?_
    refine z_aload0 gi_230_2 ?_
    refine z_getI (v := J 34 1) gi_230_3 gk_50 ((zU_x (by decide)).trans ((zU_n (by decide)).trans (a1.symm))) ?_
    refine z_pushJ gp_230_6 ?_
    refine z_isub (e := (J 34 1) - 1) gi_230_7 rfl ?_
    refine z_cS3 gi_230_8 (Nat.le_of_ble_eq_true rfl) gc_148_III ?_
    refine z_iload0 gi_148_0 ?_
    refine z_iload1 gi_148_1 ?_
    refine z_icmp_ltT gi_148_2 (by omega) zr_0 (by omega) ?_
    refine z_pushJ gp_148_14 ?_
    refine z_bret0 gi_148_15 gr_148 ?_
    show zW _ _ _ _ _ _ _ _ _ _
    refine z_bret0 gi_230_11 gr_230 ?_
    show zW _ _ _ _ _ _ _ _ _ _
    refine z_if_eqT gi_246_10 zr_0 (by decide) ?_
    refine z_pushJ gp_246_22 ?_
    refine z_iret gi_246_23 gr_246 ?_
    refine ⟨?_, ?_⟩
    · first | rfl | exact congrArg (fun v => some (zi v)) (by omega) | (exfalso; omega)
    · have hk := (zK_x (a := 50) (x := 56) (v := 0) (zK_x (a := 34) (x := 3) (v := 0) (zK_r (k := (kL [] [(34, 3), (50, 56)])) (A := J)) rfl) rfl)
      exact ⟨hR, hG, RelY_k hk (by repeat' constructor) (fun p => by repeat' constructor) hY, RelD_k hk (by repeat' constructor) (fun p => by repeat' constructor) hD, RelP_k hk (by repeat' constructor) (fun p => by repeat' constructor) hP, RelC_k hk (by repeat' constructor) (fun p => by repeat' constructor) hC, ⟨(show J 34 1 = J 50 54 from a1), (show 0 ≤ J 34 1 ∧ J 34 1 ≤ 50 from a2), rfl, (show (0 : Int) ≤ 0 ∧ (0 : Int) ≤ 1000 from by decide), (fun i i1 i2 => a5 i i1 i2), (fun i i1 i2 => absurd (show i < 0 from i2) (by omega))⟩, RelS_k hk (zK_r (k := kM)) (fun x j a b => ⟨kL_38 (by decide) (by decide) x j a b, kM_38 x j a b⟩) (fun p => ⟨rfl, rfl, rfl⟩) rfl hS, RelT_k hk (by repeat' constructor) (fun p => by repeat' constructor) hTp, RelX_k hk (by repeat' constructor) (fun p => by repeat' constructor) hX, RelW_k hk ⟨rfl, rfl⟩ trivial hW⟩
  · refine z_iload1 gi_3_4 ?_
    refine z_aload0 gi_3_5 ?_
    refine z_getI (v := J 34 1) gi_3_6 gk_34 ((zU_x (by decide)).trans (rfl)) ?_
    refine z_icmp_geT gi_3_9 (by omega) (by omega) (by omega) ?_
    refine z_pushJ gp_3_16 ?_
    refine z_bret0 gi_3_17 gr_3 ?_
    show zW _ _ _ _ _ _ _ _ _ _
    refine z_if_eqT gi_7_10 zr_0 (by decide) ?_
    refine z_pushJ gp_7_22 ?_
    refine z_iret gi_7_23 gr_7 ?_
    show zW _ _ _ _ _ _ _ _ _ _
    refine z_iret gi_134_10 gr_134 ?_
    refine ⟨_, rfl, ?_⟩
    show zW _ _ _ _ [some (.ref 50), some (zi b), some (zi a), some (zi x)] _ _ _ _ _
    refine z_aload0 gi_246_0 ?_
    refine z_pushJ gp_246_1 ?_
    refine z_putI (y := 56) gi_246_2 rfl gk_50 ?_
    refine z_aload0 gi_246_5 ?_
    refine z_iload1 gi_246_6 ?_
    refine z_cV1 gi_246_7 gk_50 go_230 (Nat.le_of_ble_eq_true rfl) gc_230_RI ?_
    refine z_iload1 gi_230_0 ?_
    refine z_pushJ gp_230_1 ?_
    refine z_aload0 gi_230_2 ?_
    refine z_getI (v := J 34 1) gi_230_3 gk_50 ((zU_x (by decide)).trans ((zU_n (by decide)).trans (a1.symm))) ?_
    refine z_pushJ gp_230_6 ?_
    refine z_isub (e := (J 34 1) - 1) gi_230_7 rfl ?_
    refine z_cS3 gi_230_8 (Nat.le_of_ble_eq_true rfl) gc_148_III ?_
    refine z_iload0 gi_148_0 ?_
    refine z_iload1 gi_148_1 ?_
    refine z_icmp_ltF gi_148_2 (by omega) zr_0 (by omega) ?_
    refine z_iload0 gi_148_5 ?_
    refine z_iload2 gi_148_6 ?_
    refine z_icmp_gtT gi_148_7 (by omega) (by omega) (by omega) ?_
    refine z_pushJ gp_148_14 ?_
    refine z_bret0 gi_148_15 gr_148 ?_
    show zW _ _ _ _ _ _ _ _ _ _
    refine z_bret0 gi_230_11 gr_230 ?_
    show zW _ _ _ _ _ _ _ _ _ _
    refine z_if_eqT gi_246_10 zr_0 (by decide) ?_
    refine z_pushJ gp_246_22 ?_
    refine z_iret gi_246_23 gr_246 ?_
    refine ⟨?_, ?_⟩
    · first | rfl | exact congrArg (fun v => some (zi v)) (by omega) | (exfalso; omega)
    · have hk := (zK_x (a := 50) (x := 56) (v := 0) (zK_x (a := 34) (x := 3) (v := 0) (zK_r (k := (kL [] [(34, 3), (50, 56)])) (A := J)) rfl) rfl)
      exact ⟨hR, hG, RelY_k hk (by repeat' constructor) (fun p => by repeat' constructor) hY, RelD_k hk (by repeat' constructor) (fun p => by repeat' constructor) hD, RelP_k hk (by repeat' constructor) (fun p => by repeat' constructor) hP, RelC_k hk (by repeat' constructor) (fun p => by repeat' constructor) hC, ⟨(show J 34 1 = J 50 54 from a1), (show 0 ≤ J 34 1 ∧ J 34 1 ≤ 50 from a2), rfl, (show (0 : Int) ≤ 0 ∧ (0 : Int) ≤ 1000 from by decide), (fun i i1 i2 => a5 i i1 i2), (fun i i1 i2 => absurd (show i < 0 from i2) (by omega))⟩, RelS_k hk (zK_r (k := kM)) (fun x j a b => ⟨kL_38 (by decide) (by decide) x j a b, kM_38 x j a b⟩) (fun p => ⟨rfl, rfl, rfl⟩) rfl hS, RelT_k hk (by repeat' constructor) (fun p => by repeat' constructor) hTp, RelX_k hk (by repeat' constructor) (fun p => by repeat' constructor) hX, RelW_k hk ⟨rfl, rfl⟩ trivial hW⟩
theorem st_act_na {X : Nat × (Nat → Int32)} {d : Nat} {J M : zA} {R : zR} {b a x : Int} (hr : Rel X J M R) (hb : -2147483648 ≤ b ∧ b < 2147483648) (ha : -2147483648 ≤ a ∧ a < 2147483648) (hx : -2147483648 ≤ x ∧ x < 2147483648) (hb1 : 0 ≤ b ∧ b < J 34 1) (ha1 : ¬ (0 ≤ a ∧ a < 4)) : zW X (d + 20) 134 0 (gEn 134 [(.ref 0), (zi b), (zi a), (zi x)]) [] J M R (stP X (d + 20) 246 [(zi b), (zi a), (zi x)]) := by
  have hr0 := hr
  obtain ⟨hR, hG, hY, hD, hP, hC, hAc, hS, hTp, hX, hW⟩ := hr0
  have hRr : zRoR R := zRoR_of hR
  have hA0 := hAc
  obtain ⟨a1, a2, a3, a4, a5, a6⟩ := hA0
  show zW _ _ _ _ [some (.ref 0), some (zi b), some (zi a), some (zi x)] _ _ _ _ _
  refine z_aload0 gi_134_0 ?_
  refine z_getR (r := 34) gi_134_1 gk_0 (hR _ rm_0_10) ?_
  refine z_iload1 gi_134_4 ?_
  refine z_iload2 gi_134_5 ?_
  refine z_iload3 gi_134_6 ?_
  refine z_cV3 gi_134_7 gk_34 go_7 (Nat.le_of_ble_eq_true rfl) gc_7_RIII ?_
  refine z_aload0 gi_7_0 ?_
  refine z_pushJ gp_7_1 ?_
  refine z_putI (y := 3) gi_7_2 rfl gk_34 ?_
  refine z_aload0 gi_7_5 ?_
  refine z_iload1 gi_7_6 ?_
  refine z_cV1 gi_7_7 gk_34 go_3 (Nat.le_of_ble_eq_true rfl) gc_3_RI ?_
  refine z_iload1 gi_3_0 ?_
  refine z_if_ltF gi_3_1 (by omega) (by omega) ?_
  refine z_iload1 gi_3_4 ?_
  refine z_aload0 gi_3_5 ?_
  refine z_getI (v := J 34 1) gi_3_6 gk_34 ((zU_x (by decide)).trans (rfl)) ?_
  refine z_icmp_geF gi_3_9 (by omega) (by omega) (by omega) ?_
  refine z_pushJ gp_3_12 ?_
  refine z_goto gi_3_13 ?_
  refine z_bret1 gi_3_17 gr_3 ?_
  show zW _ _ _ _ _ _ _ _ _ _
  refine z_if_eqF gi_7_10 zr_1 (by decide) ?_
  refine z_iload2 gi_7_13 ?_
  refine z_if_lt gi_7_14 (by omega) (fun h1 => ?_) (fun h1 => ?_)
  · refine z_pushJ gp_7_22 ?_
    refine z_iret gi_7_23 gr_7 ?_
    show zW _ _ _ _ _ _ _ _ _ _
    refine z_iret gi_134_10 gr_134 ?_
    refine ⟨_, rfl, ?_⟩
    show zW _ _ _ _ [some (.ref 50), some (zi b), some (zi a), some (zi x)] _ _ _ _ _
    refine z_aload0 gi_246_0 ?_
    refine z_pushJ gp_246_1 ?_
    refine z_putI (y := 56) gi_246_2 rfl gk_50 ?_
    refine z_aload0 gi_246_5 ?_
    refine z_iload1 gi_246_6 ?_
    refine z_cV1 gi_246_7 gk_50 go_230 (Nat.le_of_ble_eq_true rfl) gc_230_RI ?_
    refine z_iload1 gi_230_0 ?_
    refine z_pushJ gp_230_1 ?_
    refine z_aload0 gi_230_2 ?_
    refine z_getI (v := J 34 1) gi_230_3 gk_50 ((zU_x (by decide)).trans ((zU_n (by decide)).trans (a1.symm))) ?_
    refine z_pushJ gp_230_6 ?_
    refine z_isub (e := (J 34 1) - 1) gi_230_7 rfl ?_
    refine z_cS3 gi_230_8 (Nat.le_of_ble_eq_true rfl) gc_148_III ?_
    refine z_iload0 gi_148_0 ?_
    refine z_iload1 gi_148_1 ?_
    refine z_icmp_ltF gi_148_2 (by omega) zr_0 (by omega) ?_
    refine z_iload0 gi_148_5 ?_
    refine z_iload2 gi_148_6 ?_
    refine z_icmp_gtF gi_148_7 (by omega) (by omega) (by omega) ?_
    refine z_pushJ gp_148_10 ?_
    refine z_goto gi_148_11 ?_
    refine z_bret1 gi_148_15 gr_148 ?_
    show zW _ _ _ _ _ _ _ _ _ _
    refine z_bret1 gi_230_11 gr_230 ?_
    show zW _ _ _ _ _ _ _ _ _ _
    refine z_if_eqF gi_246_10 zr_1 (by decide) ?_
    refine z_iload2 gi_246_13 ?_
    refine z_pushJ gp_246_14 ?_
    refine z_pushJ gp_246_15 ?_
    refine z_cS3 gi_246_16 (Nat.le_of_ble_eq_true rfl) gc_148_III ?_
    refine z_iload0 gi_148_0 ?_
    refine z_iload1 gi_148_1 ?_
    refine z_icmp_ltT gi_148_2 (by omega) zr_0 (by omega) ?_
    refine z_pushJ gp_148_14 ?_
    refine z_bret0 gi_148_15 gr_148 ?_
    show zW _ _ _ _ _ _ _ _ _ _
    refine z_if_neF gi_246_19 zr_0 (by decide) ?_
    refine z_pushJ gp_246_22 ?_
    refine z_iret gi_246_23 gr_246 ?_
    refine ⟨?_, ?_⟩
    · first | rfl | exact congrArg (fun v => some (zi v)) (by omega) | (exfalso; omega)
    · have hk := (zK_x (a := 50) (x := 56) (v := 0) (zK_x (a := 34) (x := 3) (v := 0) (zK_r (k := (kL [] [(34, 3), (50, 56)])) (A := J)) rfl) rfl)
      exact ⟨hR, hG, RelY_k hk (by repeat' constructor) (fun p => by repeat' constructor) hY, RelD_k hk (by repeat' constructor) (fun p => by repeat' constructor) hD, RelP_k hk (by repeat' constructor) (fun p => by repeat' constructor) hP, RelC_k hk (by repeat' constructor) (fun p => by repeat' constructor) hC, ⟨(show J 34 1 = J 50 54 from a1), (show 0 ≤ J 34 1 ∧ J 34 1 ≤ 50 from a2), rfl, (show (0 : Int) ≤ 0 ∧ (0 : Int) ≤ 1000 from by decide), (fun i i1 i2 => a5 i i1 i2), (fun i i1 i2 => absurd (show i < 0 from i2) (by omega))⟩, RelS_k hk (zK_r (k := kM)) (fun x j a b => ⟨kL_38 (by decide) (by decide) x j a b, kM_38 x j a b⟩) (fun p => ⟨rfl, rfl, rfl⟩) rfl hS, RelT_k hk (by repeat' constructor) (fun p => by repeat' constructor) hTp, RelX_k hk (by repeat' constructor) (fun p => by repeat' constructor) hX, RelW_k hk ⟨rfl, rfl⟩ trivial hW⟩
  · refine z_iload2 gi_7_17 ?_
    refine z_pushJ gp_7_18 ?_
    refine z_icmp_ltF gi_7_19 (by omega) zr_4 (by omega) ?_
    refine z_pushJ gp_7_22 ?_
    refine z_iret gi_7_23 gr_7 ?_
    show zW _ _ _ _ _ _ _ _ _ _
    refine z_iret gi_134_10 gr_134 ?_
    refine ⟨_, rfl, ?_⟩
    show zW _ _ _ _ [some (.ref 50), some (zi b), some (zi a), some (zi x)] _ _ _ _ _
    refine z_aload0 gi_246_0 ?_
    refine z_pushJ gp_246_1 ?_
    refine z_putI (y := 56) gi_246_2 rfl gk_50 ?_
    refine z_aload0 gi_246_5 ?_
    refine z_iload1 gi_246_6 ?_
    refine z_cV1 gi_246_7 gk_50 go_230 (Nat.le_of_ble_eq_true rfl) gc_230_RI ?_
    refine z_iload1 gi_230_0 ?_
    refine z_pushJ gp_230_1 ?_
    refine z_aload0 gi_230_2 ?_
    refine z_getI (v := J 34 1) gi_230_3 gk_50 ((zU_x (by decide)).trans ((zU_n (by decide)).trans (a1.symm))) ?_
    refine z_pushJ gp_230_6 ?_
    refine z_isub (e := (J 34 1) - 1) gi_230_7 rfl ?_
    refine z_cS3 gi_230_8 (Nat.le_of_ble_eq_true rfl) gc_148_III ?_
    refine z_iload0 gi_148_0 ?_
    refine z_iload1 gi_148_1 ?_
    refine z_icmp_ltF gi_148_2 (by omega) zr_0 (by omega) ?_
    refine z_iload0 gi_148_5 ?_
    refine z_iload2 gi_148_6 ?_
    refine z_icmp_gtF gi_148_7 (by omega) (by omega) (by omega) ?_
    refine z_pushJ gp_148_10 ?_
    refine z_goto gi_148_11 ?_
    refine z_bret1 gi_148_15 gr_148 ?_
    show zW _ _ _ _ _ _ _ _ _ _
    refine z_bret1 gi_230_11 gr_230 ?_
    show zW _ _ _ _ _ _ _ _ _ _
    refine z_if_eqF gi_246_10 zr_1 (by decide) ?_
    refine z_iload2 gi_246_13 ?_
    refine z_pushJ gp_246_14 ?_
    refine z_pushJ gp_246_15 ?_
    refine z_cS3 gi_246_16 (Nat.le_of_ble_eq_true rfl) gc_148_III ?_
    refine z_iload0 gi_148_0 ?_
    refine z_iload1 gi_148_1 ?_
    refine z_icmp_ltF gi_148_2 (by omega) zr_0 (by omega) ?_
    refine z_iload0 gi_148_5 ?_
    refine z_iload2 gi_148_6 ?_
    refine z_icmp_gtT gi_148_7 (by omega) zr_3 (by omega) ?_
    refine z_pushJ gp_148_14 ?_
    refine z_bret0 gi_148_15 gr_148 ?_
    show zW _ _ _ _ _ _ _ _ _ _
    refine z_if_neF gi_246_19 zr_0 (by decide) ?_
    refine z_pushJ gp_246_22 ?_
    refine z_iret gi_246_23 gr_246 ?_
    refine ⟨?_, ?_⟩
    · first | rfl | exact congrArg (fun v => some (zi v)) (by omega) | (exfalso; omega)
    · have hk := (zK_x (a := 50) (x := 56) (v := 0) (zK_x (a := 34) (x := 3) (v := 0) (zK_r (k := (kL [] [(34, 3), (50, 56)])) (A := J)) rfl) rfl)
      exact ⟨hR, hG, RelY_k hk (by repeat' constructor) (fun p => by repeat' constructor) hY, RelD_k hk (by repeat' constructor) (fun p => by repeat' constructor) hD, RelP_k hk (by repeat' constructor) (fun p => by repeat' constructor) hP, RelC_k hk (by repeat' constructor) (fun p => by repeat' constructor) hC, ⟨(show J 34 1 = J 50 54 from a1), (show 0 ≤ J 34 1 ∧ J 34 1 ≤ 50 from a2), rfl, (show (0 : Int) ≤ 0 ∧ (0 : Int) ≤ 1000 from by decide), (fun i i1 i2 => a5 i i1 i2), (fun i i1 i2 => absurd (show i < 0 from i2) (by omega))⟩, RelS_k hk (zK_r (k := kM)) (fun x j a b => ⟨kL_38 (by decide) (by decide) x j a b, kM_38 x j a b⟩) (fun p => ⟨rfl, rfl, rfl⟩) rfl hS, RelT_k hk (by repeat' constructor) (fun p => by repeat' constructor) hTp, RelX_k hk (by repeat' constructor) (fun p => by repeat' constructor) hX, RelW_k hk ⟨rfl, rfl⟩ trivial hW⟩
theorem st_act {X : Nat × (Nat → Int32)} {d : Nat} {J M : zA} {R : zR} {b a x : Int} (hr : Rel X J M R) (hb : -2147483648 ≤ b ∧ b < 2147483648) (ha : -2147483648 ≤ a ∧ a < 2147483648) (hx : -2147483648 ≤ x ∧ x < 2147483648) : zW X (d + 20) 134 0 (gEn 134 [(.ref 0), (zi b), (zi a), (zi x)]) [] J M R (stP X (d + 20) 246 [(zi b), (zi a), (zi x)]) := by
  by_cases hb1 : 0 ≤ b ∧ b < J 34 1
  · by_cases ha1 : 0 ≤ a ∧ a < 4
    · have hA : RelA J := hr.2.2.2.2.2.2.1
      have h6 := (hA.2.2.2.2.1 _ hb1.1 hb1.2).2
      have h7 : J 35 b = 0 ∨ J 35 b = 1 ∨ J 35 b = 2 ∨ J 35 b = 3 ∨ J 35 b = 4 ∨ J 35 b = 5 ∨ J 35 b = 6 ∨ J 35 b = 7 := by omega
      have h8 : a = 0 ∨ a = 1 ∨ a = 2 ∨ a = 3 := by omega
      rcases h7 with h7 | h7 | h7 | h7 | h7 | h7 | h7 | h7
      · rcases h8 with rfl | rfl | rfl | rfl
        · exact st_act_00 hr hb hx hb1 h7
        · exact st_act_01 hr hb hx hb1 h7
        · exact st_act_02 hr hb hx hb1 h7
        · exact st_act_03 hr hb hx hb1 h7
      · rcases h8 with rfl | rfl | rfl | rfl
        · exact st_act_10 hr hb hx hb1 h7
        · exact st_act_11 hr hb hx hb1 h7
        · exact st_act_12 hr hb hx hb1 h7
        · exact st_act_13 hr hb hx hb1 h7
      · rcases h8 with rfl | rfl | rfl | rfl
        · exact st_act_20 hr hb hx hb1 h7
        · exact st_act_21 hr hb hx hb1 h7
        · exact st_act_22 hr hb hx hb1 h7
        · exact st_act_23 hr hb hx hb1 h7
      · rcases h8 with rfl | rfl | rfl | rfl
        · exact st_act_30 hr hb hx hb1 h7
        · exact st_act_31 hr hb hx hb1 h7
        · exact st_act_32 hr hb hx hb1 h7
        · exact st_act_33 hr hb hx hb1 h7
      · rcases h8 with rfl | rfl | rfl | rfl
        · exact st_act_40 hr hb hx hb1 h7
        · exact st_act_41 hr hb hx hb1 h7
        · exact st_act_42 hr hb hx hb1 h7
        · exact st_act_43 hr hb hx hb1 h7
      · rcases h8 with rfl | rfl | rfl | rfl
        · exact st_act_50 hr hb hx hb1 h7
        · exact st_act_51 hr hb hx hb1 h7
        · exact st_act_52 hr hb hx hb1 h7
        · exact st_act_53 hr hb hx hb1 h7
      · rcases h8 with rfl | rfl | rfl | rfl
        · exact st_act_60 hr hb hx hb1 h7
        · exact st_act_61 hr hb hx hb1 h7
        · exact st_act_62 hr hb hx hb1 h7
        · exact st_act_63 hr hb hx hb1 h7
      · rcases h8 with rfl | rfl | rfl | rfl
        · exact st_act_70 hr hb hx hb1 h7
        · exact st_act_71 hr hb hx hb1 h7
        · exact st_act_72 hr hb hx hb1 h7
        · exact st_act_73 hr hb hx hb1 h7
    · exact st_act_na hr hb ha hx hb1 ha1
  · exact st_act_nb hr hb ha hx hb1
