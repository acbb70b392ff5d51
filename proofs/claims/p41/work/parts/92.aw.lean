theorem st_stay_n {X : Nat × (Nat → Int32)} {d : Nat} {J M : zA} {R : zR} {s v : Int} (hr : Rel X J M R) (hs : -2147483648 ≤ s ∧ s < 2147483648) (hv : -2147483648 ≤ v ∧ v < 2147483648) (hs6 : ¬ (0 ≤ s ∧ s < 6)) : zW X (d + 20) 113 0 (gEn 113 [(.ref 0), (zi s), (zi v)]) [] J M R (stP X (d + 20) 203 [(zi s), (zi v)]) := by
  have hr0 := hr
  obtain ⟨hR, hG, hY, hD, hP, hC, hAc, hS, hTp, hX, hW⟩ := hr0
  have hRr : zRoR R := zRoR_of hR
  have hY0 := hY
  obtain ⟨y1, y2, y3⟩ := hY0
  have yn := zNn y3
  show zW _ _ _ _ [some (.ref 0), some (zi s), some (zi v), none] _ _ _ _ _
  refine z_iload1 gi_113_0 ?_
  refine z_cS1 gi_113_1 (Nat.le_of_ble_eq_true rfl) gc_143_I ?_
  refine z_iload0 gi_143_0 ?_
  refine z_if_lt gi_143_1 (by omega) (fun h1 => ?_) (fun h1 => ?_)
  · refine z_pushJ gp_143_14 ?_
    refine z_bret0 gi_143_15 gr_143 ?_
    show zW _ _ _ _ _ _ _ _ _ _
    refine z_if_eqT gi_113_4 zr_0 (by decide) ?_
    refine z_pushJ gp_113_17 ?_
    refine z_iret gi_113_18 gr_113 ?_
    refine ⟨_, rfl, ?_⟩
    show zW _ _ _ _ [some (.ref 50), some (zi s), some (zi v), none, none] _ _ _ _ _
    refine z_iload1 gi_203_0 ?_
    refine z_cS1 gi_203_1 (Nat.le_of_ble_eq_true rfl) gc_248_I ?_
    refine z_iload0 gi_248_0 ?_
    refine z_pushJ gp_248_1 ?_
    refine z_pushJ gp_248_2 ?_
    refine z_cS3 gi_248_3 (Nat.le_of_ble_eq_true rfl) gc_148_III ?_
    refine z_iload0 gi_148_0 ?_
    refine z_iload1 gi_148_1 ?_
    refine z_icmp_ltT gi_148_2 (by omega) zr_0 (by omega) ?_
    refine z_pushJ gp_148_14 ?_
    refine z_bret0 gi_148_15 gr_148 ?_
    show zW _ _ _ _ _ _ _ _ _ _
    refine z_bret0 gi_248_6 gr_248 ?_
    show zW _ _ _ _ _ _ _ _ _ _
    refine z_if_eqT gi_203_4 zr_0 (by decide) ?_
    refine z_pushJ gp_203_17 ?_
    refine z_iret gi_203_18 gr_203 ?_
    refine ⟨?_, ?_⟩
    · first | rfl | exact congrArg (fun v => some (zi v)) (by omega) | (exfalso; omega)
    · exact hr
  · refine z_iload0 gi_143_4 ?_
    refine z_pushJ gp_143_5 ?_
    refine z_icmp_geT gi_143_7 (by omega) zr_6 (by omega) ?_
    refine z_pushJ gp_143_14 ?_
    refine z_bret0 gi_143_15 gr_143 ?_
    show zW _ _ _ _ _ _ _ _ _ _
    refine z_if_eqT gi_113_4 zr_0 (by decide) ?_
    refine z_pushJ gp_113_17 ?_
    refine z_iret gi_113_18 gr_113 ?_
    refine ⟨_, rfl, ?_⟩
    show zW _ _ _ _ [some (.ref 50), some (zi s), some (zi v), none, none] _ _ _ _ _
    refine z_iload1 gi_203_0 ?_
    refine z_cS1 gi_203_1 (Nat.le_of_ble_eq_true rfl) gc_248_I ?_
    refine z_iload0 gi_248_0 ?_
    refine z_pushJ gp_248_1 ?_
    refine z_pushJ gp_248_2 ?_
    refine z_cS3 gi_248_3 (Nat.le_of_ble_eq_true rfl) gc_148_III ?_
    refine z_iload0 gi_148_0 ?_
    refine z_iload1 gi_148_1 ?_
    refine z_icmp_ltF gi_148_2 (by omega) zr_0 (by omega) ?_
    refine z_iload0 gi_148_5 ?_
    refine z_iload2 gi_148_6 ?_
    refine z_icmp_gtT gi_148_7 (by omega) zr_5 (by omega) ?_
    refine z_pushJ gp_148_14 ?_
    refine z_bret0 gi_148_15 gr_148 ?_
    show zW _ _ _ _ _ _ _ _ _ _
    refine z_bret0 gi_248_6 gr_248 ?_
    show zW _ _ _ _ _ _ _ _ _ _
    refine z_if_eqT gi_203_4 zr_0 (by decide) ?_
    refine z_pushJ gp_203_17 ?_
    refine z_iret gi_203_18 gr_203 ?_
    refine ⟨?_, ?_⟩
    · first | rfl | exact congrArg (fun v => some (zi v)) (by omega) | (exfalso; omega)
    · exact hr
theorem st_stay_0 {X : Nat × (Nat → Int32)} {d : Nat} {J M : zA} {R : zR} {s v : Int} (hr : Rel X J M R) (hs : -2147483648 ≤ s ∧ s < 2147483648) (hv : -2147483648 ≤ v ∧ v < 2147483648) (hs6 : 0 ≤ s ∧ s < 6) (hh : J (38 + 2 * s.toNat) 0 = 0) : zW X (d + 20) 113 0 (gEn 113 [(.ref 0), (zi s), (zi v)]) [] J M R (stP X (d + 20) 203 [(zi s), (zi v)]) := by
  have hr0 := hr
  obtain ⟨hR, hG, hY, hD, hP, hC, hAc, hS, hTp, hX, hW⟩ := hr0
  have hRr : zRoR R := zRoR_of hR
  have hY0 := hY
  obtain ⟨y1, y2, y3⟩ := hY0
  have yn := zNn y3
  have hA0 := hAc
  obtain ⟨a1, a2, a3, a4, a5, a6⟩ := hA0
  have e83 : J 83 s = -1 := (hS s hs6.1 hs6.2).1.symm.trans (cH_0 hh)
  have s3 : 0 ≤ J (38 + 2 * s.toNat) 2 ∧ J (38 + 2 * s.toNat) 2 ≤ 4 := (hS s hs6.1 hs6.2).2.2.1
  have s4 : 0 ≤ J (38 + 2 * s.toNat) 3 ∧ J (38 + 2 * s.toNat) 3 ≤ 60 := (hS s hs6.1 hs6.2).2.2.2.1
  show zW _ _ _ _ [some (.ref 0), some (zi s), some (zi v), none] _ _ _ _ _
  refine z_iload1 gi_113_0 ?_
  refine z_cS1 gi_113_1 (Nat.le_of_ble_eq_true rfl) gc_143_I ?_
  refine z_iload0 gi_143_0 ?_
  refine z_if_ltF gi_143_1 (by omega) (by omega) ?_
  refine z_iload0 gi_143_4 ?_
  refine z_pushJ gp_143_5 ?_
  refine z_icmp_geF gi_143_7 (by omega) zr_6 (by omega) ?_
  refine z_pushJ gp_143_10 ?_
  refine z_goto gi_143_11 ?_
  refine z_bret1 gi_143_15 gr_143 ?_
  show zW _ _ _ _ _ _ _ _ _ _
  refine z_if_eqF gi_113_4 zr_1 (by decide) ?_
  refine z_iload2 gi_113_7 ?_
  refine z_if_lt gi_113_8 (by omega) (fun h1 => ?_) (fun h1 => ?_)
  · refine z_pushJ gp_113_17 ?_
    refine z_iret gi_113_18 gr_113 ?_
    refine ⟨_, rfl, ?_⟩
    show zW _ _ _ _ [some (.ref 50), some (zi s), some (zi v), none, none] _ _ _ _ _
    refine z_iload1 gi_203_0 ?_
    refine z_cS1 gi_203_1 (Nat.le_of_ble_eq_true rfl) gc_248_I ?_
    refine z_iload0 gi_248_0 ?_
    refine z_pushJ gp_248_1 ?_
    refine z_pushJ gp_248_2 ?_
    refine z_cS3 gi_248_3 (Nat.le_of_ble_eq_true rfl) gc_148_III ?_
    refine z_iload0 gi_148_0 ?_
    refine z_iload1 gi_148_1 ?_
    refine z_icmp_ltF gi_148_2 (by omega) zr_0 (by omega) ?_
    refine z_iload0 gi_148_5 ?_
    refine z_iload2 gi_148_6 ?_
    refine z_icmp_gtF gi_148_7 (by omega) zr_5 (by omega) ?_
    refine z_pushJ gp_148_10 ?_
    refine z_goto gi_148_11 ?_
    refine z_bret1 gi_148_15 gr_148 ?_
    show zW _ _ _ _ _ _ _ _ _ _
    refine z_bret1 gi_248_6 gr_248 ?_
    show zW _ _ _ _ _ _ _ _ _ _
    refine z_if_eqF gi_203_4 zr_1 (by decide) ?_
    refine z_iload2 gi_203_7 ?_
    refine z_pushJ gp_203_8 ?_
    refine z_pushJ gp_203_9 ?_
    refine z_cS3 gi_203_11 (Nat.le_of_ble_eq_true rfl) gc_148_III ?_
    refine z_iload0 gi_148_0 ?_
    refine z_iload1 gi_148_1 ?_
    refine z_icmp_ltT gi_148_2 (by omega) zr_0 (by omega) ?_
    refine z_pushJ gp_148_14 ?_
    refine z_bret0 gi_148_15 gr_148 ?_
    show zW _ _ _ _ _ _ _ _ _ _
    refine z_if_neF gi_203_14 zr_0 (by decide) ?_
    refine z_pushJ gp_203_17 ?_
    refine z_iret gi_203_18 gr_203 ?_
    refine ⟨?_, ?_⟩
    · first | rfl | exact congrArg (fun v => some (zi v)) (by omega) | (exfalso; omega)
    · exact hr
  · refine z_iload2 gi_113_11 ?_
    refine z_pushJ gp_113_12 ?_
    refine z_icmp_lt gi_113_14 (by omega) (by decide) (fun h2 => ?_) (fun h2 => ?_)
    · refine z_aload0 gi_113_19 ?_
      refine z_getR (r := 10) gi_113_20 gk_0 (hR _ rm_0_2) ?_
      refine z_aload0 gi_113_23 ?_
      refine z_getR (r := 37) gi_113_24 gk_0 (hR _ rm_0_11) ?_
      refine z_iload1 gi_113_27 ?_
      refine z_aald (r := 38 + 2 * s.toNat) gi_113_28 rfl (by decide) (by omega) (rr_shelf hR (by omega)) ?_
      refine z_callVi (As := [_]) (le := [some _, some _, none, none, none]) gi_113_29 rfl gk_10 (Nat.le_of_ble_eq_true rfl) (Nat.le_of_ble_eq_true rfl) rfl ?_
      refine z_aload1 gi_78_0 ?_
      refine z_callVi (As := []) (le := [some _]) gi_78_1 rfl (zk_shelf (by omega)) (Nat.le_of_ble_eq_true rfl) (Nat.le_of_ble_eq_true rfl) rfl ?_
      refine z_aload0 gi_69_0 ?_
      refine z_getI (v := 0) gi_69_1 (zk_shelf (by omega)) (hh) ?_
      refine z_if_neF gi_69_4 zr_0 (by decide) ?_
      refine z_pushJ gp_69_7 ?_
      refine z_iret gi_69_9 gr_69 ?_
      show zW _ _ _ _ _ _ _ _ _ _
      refine z_istore (ls1 := [some (.ref 10), some (.ref (38 + 2 * s.toNat)), some (zi (-11)), none, none]) gi_78_4 rfl ?_
      refine z_iload2 gi_78_5 ?_
      refine z_if_geF gi_78_6 zrn_11 (by decide) ?_
      refine z_iload2 gi_78_9 ?_
      refine z_iret gi_78_10 gr_78 ?_
      show zW _ _ _ _ _ _ _ _ _ _
      refine z_istore (ls1 := [some (.ref 0), some (zi s), some (zi v), some (zi (-11))]) gi_113_32 rfl ?_
      refine z_iload3 gi_113_33 ?_
      refine z_if_geF gi_113_34 zrn_11 (by decide) ?_
      refine z_iload3 gi_113_37 ?_
      refine z_iret gi_113_38 gr_113 ?_
      refine ⟨_, rfl, ?_⟩
      show zW _ _ _ _ [some (.ref 50), some (zi s), some (zi v), none, none] _ _ _ _ _
      refine z_iload1 gi_203_0 ?_
      refine z_cS1 gi_203_1 (Nat.le_of_ble_eq_true rfl) gc_248_I ?_
      refine z_iload0 gi_248_0 ?_
      refine z_pushJ gp_248_1 ?_
      refine z_pushJ gp_248_2 ?_
      refine z_cS3 gi_248_3 (Nat.le_of_ble_eq_true rfl) gc_148_III ?_
      refine z_iload0 gi_148_0 ?_
      refine z_iload1 gi_148_1 ?_
      refine z_icmp_ltF gi_148_2 (by omega) zr_0 (by omega) ?_
      refine z_iload0 gi_148_5 ?_
      refine z_iload2 gi_148_6 ?_
      refine z_icmp_gtF gi_148_7 (by omega) zr_5 (by omega) ?_
      refine z_pushJ gp_148_10 ?_
      refine z_goto gi_148_11 ?_
      refine z_bret1 gi_148_15 gr_148 ?_
      show zW _ _ _ _ _ _ _ _ _ _
      refine z_bret1 gi_248_6 gr_248 ?_
      show zW _ _ _ _ _ _ _ _ _ _
      refine z_if_eqF gi_203_4 zr_1 (by decide) ?_
      refine z_iload2 gi_203_7 ?_
      refine z_pushJ gp_203_8 ?_
      refine z_pushJ gp_203_9 ?_
      refine z_cS3 gi_203_11 (Nat.le_of_ble_eq_true rfl) gc_148_III ?_
      refine z_iload0 gi_148_0 ?_
      refine z_iload1 gi_148_1 ?_
      refine z_icmp_ltF gi_148_2 (by omega) zr_0 (by omega) ?_
      refine z_iload0 gi_148_5 ?_
      refine z_iload2 gi_148_6 ?_
      refine z_icmp_gtF gi_148_7 (by omega) (by decide) (by omega) ?_
      refine z_pushJ gp_148_10 ?_
      refine z_goto gi_148_11 ?_
      refine z_bret1 gi_148_15 gr_148 ?_
      show zW _ _ _ _ _ _ _ _ _ _
      refine z_if_neT gi_203_14 zr_1 (by decide) ?_
      refine z_aload0 gi_203_19 ?_
      refine z_iload1 gi_203_20 ?_
      refine z_cV1 gi_203_21 gk_50 go_192 (Nat.le_of_ble_eq_true rfl) gc_192_RI ?_
      refine z_aload0 gi_192_0 ?_
      refine z_getR (r := 83) gi_192_1 gk_50 (hRr _ rm_50_58 (by decide)) ?_
      refine z_iload1 gi_192_4 ?_
      refine z_iald (v := (-1)) gi_192_5 gk_83 (by decide) (by omega) (e83) ?_
      refine z_pushJ gp_192_6 ?_
      refine z_icmp_neF gi_192_7 zrn_1 zrn_1 (by decide) ?_
      refine z_pushJ gp_192_10 ?_
      refine z_goto gi_192_12 ?_
      refine z_iret gi_192_32 gr_192 ?_
      show zW _ _ _ _ _ _ _ _ _ _
      refine z_if_geF gi_203_24 zrn_11 (by decide) ?_
      refine z_aload0 gi_203_27 ?_
      refine z_iload1 gi_203_28 ?_
      refine z_cV1 gi_203_29 gk_50 go_192 (Nat.le_of_ble_eq_true rfl) gc_192_RI ?_
      refine z_aload0 gi_192_0 ?_
      refine z_getR (r := 83) gi_192_1 gk_50 (hRr _ rm_50_58 (by decide)) ?_
      refine z_iload1 gi_192_4 ?_
      refine z_iald (v := (-1)) gi_192_5 gk_83 (by decide) (by omega) (e83) ?_
      refine z_pushJ gp_192_6 ?_
      refine z_icmp_neF gi_192_7 zrn_1 zrn_1 (by decide) ?_
      refine z_pushJ gp_192_10 ?_
      refine z_goto gi_192_12 ?_
      refine z_iret gi_192_32 gr_192 ?_
      show zW _ _ _ _ _ _ _ _ _ _
      refine z_iret gi_203_32 gr_203 ?_
      refine ⟨?_, ?_⟩
      · first | rfl | exact congrArg (fun v => some (zi v)) (by omega) | (exfalso; omega)
      · exact hr
    · refine z_pushJ gp_113_17 ?_
      refine z_iret gi_113_18 gr_113 ?_
      refine ⟨_, rfl, ?_⟩
      show zW _ _ _ _ [some (.ref 50), some (zi s), some (zi v), none, none] _ _ _ _ _
      refine z_iload1 gi_203_0 ?_
      refine z_cS1 gi_203_1 (Nat.le_of_ble_eq_true rfl) gc_248_I ?_
      refine z_iload0 gi_248_0 ?_
      refine z_pushJ gp_248_1 ?_
      refine z_pushJ gp_248_2 ?_
      refine z_cS3 gi_248_3 (Nat.le_of_ble_eq_true rfl) gc_148_III ?_
      refine z_iload0 gi_148_0 ?_
      refine z_iload1 gi_148_1 ?_
      refine z_icmp_ltF gi_148_2 (by omega) zr_0 (by omega) ?_
      refine z_iload0 gi_148_5 ?_
      refine z_iload2 gi_148_6 ?_
      refine z_icmp_gtF gi_148_7 (by omega) zr_5 (by omega) ?_
      refine z_pushJ gp_148_10 ?_
      refine z_goto gi_148_11 ?_
      refine z_bret1 gi_148_15 gr_148 ?_
      show zW _ _ _ _ _ _ _ _ _ _
      refine z_bret1 gi_248_6 gr_248 ?_
      show zW _ _ _ _ _ _ _ _ _ _
      refine z_if_eqF gi_203_4 zr_1 (by decide) ?_
      refine z_iload2 gi_203_7 ?_
      refine z_pushJ gp_203_8 ?_
      refine z_pushJ gp_203_9 ?_
      refine z_cS3 gi_203_11 (Nat.le_of_ble_eq_true rfl) gc_148_III ?_
      refine z_iload0 gi_148_0 ?_
      refine z_iload1 gi_148_1 ?_
      refine z_icmp_ltF gi_148_2 (by omega) zr_0 (by omega) ?_
      refine z_iload0 gi_148_5 ?_
      refine z_iload2 gi_148_6 ?_
      refine z_icmp_gtT gi_148_7 (by omega) (by decide) (by omega) ?_
      refine z_pushJ gp_148_14 ?_
      refine z_bret0 gi_148_15 gr_148 ?_
      show zW _ _ _ _ _ _ _ _ _ _
      refine z_if_neF gi_203_14 zr_0 (by decide) ?_
      refine z_pushJ gp_203_17 ?_
      refine z_iret gi_203_18 gr_203 ?_
      refine ⟨?_, ?_⟩
      · first | rfl | exact congrArg (fun v => some (zi v)) (by omega) | (exfalso; omega)
      · exact hr
theorem st_stay_1 {X : Nat × (Nat → Int32)} {d : Nat} {J M : zA} {R : zR} {s v : Int} (hr : Rel X J M R) (hs : -2147483648 ≤ s ∧ s < 2147483648) (hv : -2147483648 ≤ v ∧ v < 2147483648) (hs6 : 0 ≤ s ∧ s < 6) (hh : J (38 + 2 * s.toNat) 0 = 1) : zW X (d + 20) 113 0 (gEn 113 [(.ref 0), (zi s), (zi v)]) [] J M R (stP X (d + 20) 203 [(zi s), (zi v)]) := by
  have hr0 := hr
  obtain ⟨hR, hG, hY, hD, hP, hC, hAc, hS, hTp, hX, hW⟩ := hr0
  have hRr : zRoR R := zRoR_of hR
  have hY0 := hY
  obtain ⟨y1, y2, y3⟩ := hY0
  have yn := zNn y3
  have hA0 := hAc
  obtain ⟨a1, a2, a3, a4, a5, a6⟩ := hA0
  have e83 : J 83 s = J (38 + 2 * s.toNat) 1 := (hS s hs6.1 hs6.2).1.symm.trans (cH_1 hh)
  have s3 : 0 ≤ J (38 + 2 * s.toNat) 2 ∧ J (38 + 2 * s.toNat) 2 ≤ 4 := (hS s hs6.1 hs6.2).2.2.1
  have s4 : 0 ≤ J (38 + 2 * s.toNat) 3 ∧ J (38 + 2 * s.toNat) 3 ≤ 60 := (hS s hs6.1 hs6.2).2.2.2.1
  have s5 : 0 ≤ J (38 + 2 * s.toNat) 1 ∧ J (38 + 2 * s.toNat) 1 < J 34 1 := (hS s hs6.1 hs6.2).2.2.2.2.1 hh
  show zW _ _ _ _ [some (.ref 0), some (zi s), some (zi v), none] _ _ _ _ _
  refine z_iload1 gi_113_0 ?_
  refine z_cS1 gi_113_1 (Nat.le_of_ble_eq_true rfl) gc_143_I ?_
  refine z_iload0 gi_143_0 ?_
  refine z_if_ltF gi_143_1 (by omega) (by omega) ?_
  refine z_iload0 gi_143_4 ?_
  refine z_pushJ gp_143_5 ?_
  refine z_icmp_geF gi_143_7 (by omega) zr_6 (by omega) ?_
  refine z_pushJ gp_143_10 ?_
  refine z_goto gi_143_11 ?_
  refine z_bret1 gi_143_15 gr_143 ?_
  show zW _ _ _ _ _ _ _ _ _ _
  refine z_if_eqF gi_113_4 zr_1 (by decide) ?_
  refine z_iload2 gi_113_7 ?_
  refine z_if_lt gi_113_8 (by omega) (fun h1 => ?_) (fun h1 => ?_)
  · refine z_pushJ gp_113_17 ?_
    refine z_iret gi_113_18 gr_113 ?_
    refine ⟨_, rfl, ?_⟩
    show zW _ _ _ _ [some (.ref 50), some (zi s), some (zi v), none, none] _ _ _ _ _
    refine z_iload1 gi_203_0 ?_
    refine z_cS1 gi_203_1 (Nat.le_of_ble_eq_true rfl) gc_248_I ?_
    refine z_iload0 gi_248_0 ?_
    refine z_pushJ gp_248_1 ?_
    refine z_pushJ gp_248_2 ?_
    refine z_cS3 gi_248_3 (Nat.le_of_ble_eq_true rfl) gc_148_III ?_
    refine z_iload0 gi_148_0 ?_
    refine z_iload1 gi_148_1 ?_
    refine z_icmp_ltF gi_148_2 (by omega) zr_0 (by omega) ?_
    refine z_iload0 gi_148_5 ?_
    refine z_iload2 gi_148_6 ?_
    refine z_icmp_gtF gi_148_7 (by omega) zr_5 (by omega) ?_
    refine z_pushJ gp_148_10 ?_
    refine z_goto gi_148_11 ?_
    refine z_bret1 gi_148_15 gr_148 ?_
    show zW _ _ _ _ _ _ _ _ _ _
    refine z_bret1 gi_248_6 gr_248 ?_
    show zW _ _ _ _ _ _ _ _ _ _
    refine z_if_eqF gi_203_4 zr_1 (by decide) ?_
    refine z_iload2 gi_203_7 ?_
    refine z_pushJ gp_203_8 ?_
    refine z_pushJ gp_203_9 ?_
    refine z_cS3 gi_203_11 (Nat.le_of_ble_eq_true rfl) gc_148_III ?_
    refine z_iload0 gi_148_0 ?_
    refine z_iload1 gi_148_1 ?_
    refine z_icmp_ltT gi_148_2 (by omega) zr_0 (by omega) ?_
    refine z_pushJ gp_148_14 ?_
    refine z_bret0 gi_148_15 gr_148 ?_
    show zW _ _ _ _ _ _ _ _ _ _
    refine z_if_neF gi_203_14 zr_0 (by decide) ?_
    refine z_pushJ gp_203_17 ?_
    refine z_iret gi_203_18 gr_203 ?_
    refine ⟨?_, ?_⟩
    · first | rfl | exact congrArg (fun v => some (zi v)) (by omega) | (exfalso; omega)
    · exact hr
  · refine z_iload2 gi_113_11 ?_
    refine z_pushJ gp_113_12 ?_
    refine z_icmp_lt gi_113_14 (by omega) (by decide) (fun h2 => ?_) (fun h2 => ?_)
    · refine z_aload0 gi_113_19 ?_
      refine z_getR (r := 10) gi_113_20 gk_0 (hR _ rm_0_2) ?_
      refine z_aload0 gi_113_23 ?_
      refine z_getR (r := 37) gi_113_24 gk_0 (hR _ rm_0_11) ?_
      refine z_iload1 gi_113_27 ?_
      refine z_aald (r := 38 + 2 * s.toNat) gi_113_28 rfl (by decide) (by omega) (rr_shelf hR (by omega)) ?_
      refine z_callVi (As := [_]) (le := [some _, some _, none, none, none]) gi_113_29 rfl gk_10 (Nat.le_of_ble_eq_true rfl) (Nat.le_of_ble_eq_true rfl) rfl ?_
      refine z_aload1 gi_78_0 ?_
      refine z_callVi (As := []) (le := [some _]) gi_78_1 rfl (zk_shelf (by omega)) (Nat.le_of_ble_eq_true rfl) (Nat.le_of_ble_eq_true rfl) rfl ?_
      refine z_aload0 gi_69_0 ?_
      refine z_getI (v := 1) gi_69_1 (zk_shelf (by omega)) (hh) ?_
      refine z_if_neT gi_69_4 zr_1 (by decide) ?_
      refine z_aload0 gi_69_10 ?_
      refine z_callVi (As := []) (le := [some _]) gi_69_11 rfl (zk_shelf (by omega)) (Nat.le_of_ble_eq_true rfl) (Nat.le_of_ble_eq_true rfl) rfl ?_
      refine z_aload0 gi_64_0 ?_
      refine z_getI (v := 1) gi_64_1 (zk_shelf (by omega)) (hh) ?_
      refine z_pushJ gp_64_4 ?_
      refine z_icmp_neT gi_64_5 zr_1 zr_2 (by decide) ?_
      refine z_pushJ gp_64_19 ?_
      refine z_bret0 gi_64_20 gr_64 ?_
      show zW _ _ _ _ _ _ _ _ _ _
      refine z_if_eqT gi_69_14 zr_0 (by decide) ?_
      refine z_pushJ gp_69_21 ?_
      refine z_iret gi_69_23 gr_69 ?_
      show zW _ _ _ _ _ _ _ _ _ _
      refine z_istore (ls1 := [some (.ref 10), some (.ref (38 + 2 * s.toNat)), some (zi (-12)), none, none]) gi_78_4 rfl ?_
      refine z_iload2 gi_78_5 ?_
      refine z_if_geF gi_78_6 zrn_12 (by decide) ?_
      refine z_iload2 gi_78_9 ?_
      refine z_iret gi_78_10 gr_78 ?_
      show zW _ _ _ _ _ _ _ _ _ _
      refine z_istore (ls1 := [some (.ref 0), some (zi s), some (zi v), some (zi (-12))]) gi_113_32 rfl ?_
      refine z_iload3 gi_113_33 ?_
      refine z_if_geF gi_113_34 zrn_12 (by decide) ?_
      refine z_iload3 gi_113_37 ?_
      refine z_iret gi_113_38 gr_113 ?_
      refine ⟨_, rfl, ?_⟩
      show zW _ _ _ _ [some (.ref 50), some (zi s), some (zi v), none, none] _ _ _ _ _
      refine z_iload1 gi_203_0 ?_
      refine z_cS1 gi_203_1 (Nat.le_of_ble_eq_true rfl) gc_248_I ?_
      refine z_iload0 gi_248_0 ?_
      refine z_pushJ gp_248_1 ?_
      refine z_pushJ gp_248_2 ?_
      refine z_cS3 gi_248_3 (Nat.le_of_ble_eq_true rfl) gc_148_III ?_
      refine z_iload0 gi_148_0 ?_
      refine z_iload1 gi_148_1 ?_
      refine z_icmp_ltF gi_148_2 (by omega) zr_0 (by omega) ?_
      refine z_iload0 gi_148_5 ?_
      refine z_iload2 gi_148_6 ?_
      refine z_icmp_gtF gi_148_7 (by omega) zr_5 (by omega) ?_
      refine z_pushJ gp_148_10 ?_
      refine z_goto gi_148_11 ?_
      refine z_bret1 gi_148_15 gr_148 ?_
      show zW _ _ _ _ _ _ _ _ _ _
      refine z_bret1 gi_248_6 gr_248 ?_
      show zW _ _ _ _ _ _ _ _ _ _
      refine z_if_eqF gi_203_4 zr_1 (by decide) ?_
      refine z_iload2 gi_203_7 ?_
      refine z_pushJ gp_203_8 ?_
      refine z_pushJ gp_203_9 ?_
      refine z_cS3 gi_203_11 (Nat.le_of_ble_eq_true rfl) gc_148_III ?_
      refine z_iload0 gi_148_0 ?_
      refine z_iload1 gi_148_1 ?_
      refine z_icmp_ltF gi_148_2 (by omega) zr_0 (by omega) ?_
      refine z_iload0 gi_148_5 ?_
      refine z_iload2 gi_148_6 ?_
      refine z_icmp_gtF gi_148_7 (by omega) (by decide) (by omega) ?_
      refine z_pushJ gp_148_10 ?_
      refine z_goto gi_148_11 ?_
      refine z_bret1 gi_148_15 gr_148 ?_
      show zW _ _ _ _ _ _ _ _ _ _
      refine z_if_neT gi_203_14 zr_1 (by decide) ?_
      refine z_aload0 gi_203_19 ?_
      refine z_iload1 gi_203_20 ?_
      refine z_cV1 gi_203_21 gk_50 go_192 (Nat.le_of_ble_eq_true rfl) gc_192_RI ?_
      refine z_aload0 gi_192_0 ?_
      refine z_getR (r := 83) gi_192_1 gk_50 (hRr _ rm_50_58 (by decide)) ?_
      refine z_iload1 gi_192_4 ?_
      refine z_iald (v := J (38 + 2 * s.toNat) 1) gi_192_5 gk_83 (by decide) (by omega) (e83) ?_
      refine z_pushJ gp_192_6 ?_
      refine z_icmp_ne gi_192_7 (by omega) zrn_1 (fun h3 => ?_) (fun h3 => ?_)
      · refine z_aload0 gi_192_15 ?_
        refine z_getR (r := 83) gi_192_16 gk_50 (hRr _ rm_50_58 (by decide)) ?_
        refine z_iload1 gi_192_19 ?_
        refine z_iald (v := J (38 + 2 * s.toNat) 1) gi_192_20 gk_83 (by decide) (by omega) (e83) ?_
        refine z_pushJ gp_192_21 ?_
        refine z_icmp_ne gi_192_23 (by omega) zrn_2 (fun h4 => ?_) (fun h4 => ?_)
        · refine z_pushJ gp_192_30 ?_
          refine z_iret gi_192_32 gr_192 ?_
          show zW _ _ _ _ _ _ _ _ _ _
          refine z_if_geF gi_203_24 zrn_12 (by decide) ?_
          refine z_aload0 gi_203_27 ?_
          refine z_iload1 gi_203_28 ?_
          refine z_cV1 gi_203_29 gk_50 go_192 (Nat.le_of_ble_eq_true rfl) gc_192_RI ?_
          refine z_aload0 gi_192_0 ?_
          refine z_getR (r := 83) gi_192_1 gk_50 (hRr _ rm_50_58 (by decide)) ?_
          refine z_iload1 gi_192_4 ?_
          refine z_iald (v := J (38 + 2 * s.toNat) 1) gi_192_5 gk_83 (by decide) (by omega) (e83) ?_
          refine z_pushJ gp_192_6 ?_
          refine z_icmp_ne gi_192_7 (by omega) zrn_1 (fun h5 => ?_) (fun h5 => ?_)
          · refine z_aload0 gi_192_15 ?_
            refine z_getR (r := 83) gi_192_16 gk_50 (hRr _ rm_50_58 (by decide)) ?_
            refine z_iload1 gi_192_19 ?_
            refine z_iald (v := J (38 + 2 * s.toNat) 1) gi_192_20 gk_83 (by decide) (by omega) (e83) ?_
            refine z_pushJ gp_192_21 ?_
            refine z_icmp_ne gi_192_23 (by omega) zrn_2 (fun h6 => ?_) (fun h6 => ?_)
            · refine z_pushJ gp_192_30 ?_
              refine z_iret gi_192_32 gr_192 ?_
              show zW _ _ _ _ _ _ _ _ _ _
              refine z_iret gi_203_32 gr_203 ?_
              refine ⟨?_, ?_⟩
              · first | rfl | exact congrArg (fun v => some (zi v)) (by omega) | (exfalso; omega)
              · exact hr
            · refine z_pushJ gp_192_26 ?_
              refine z_goto gi_192_27 ?_
              refine z_iret gi_192_32 gr_192 ?_
              show zW _ _ _ _ _ _ _ _ _ _
              refine z_iret gi_203_32 gr_203 ?_
              refine ⟨?_, ?_⟩
              · first | rfl | exact congrArg (fun v => some (zi v)) (by omega) | (exfalso; omega)
              · exact hr
          · refine z_pushJ gp_192_10 ?_
            refine z_goto gi_192_12 ?_
            refine z_iret gi_192_32 gr_192 ?_
            show zW _ _ _ _ _ _ _ _ _ _
            refine z_iret gi_203_32 gr_203 ?_
            refine ⟨?_, ?_⟩
            · first | rfl | exact congrArg (fun v => some (zi v)) (by omega) | (exfalso; omega)
            · exact hr
        · refine z_pushJ gp_192_26 ?_
          refine z_goto gi_192_27 ?_
          refine z_iret gi_192_32 gr_192 ?_
          show zW _ _ _ _ _ _ _ _ _ _
          refine z_if_geT gi_203_24 zr_0 (by decide) ?_
          refine z_aload0 gi_203_33 ?_
          refine z_iload1 gi_203_34 ?_
          refine z_pushJ gp_203_35 ?_
          exfalso
          omega
      · refine z_pushJ gp_192_10 ?_
        refine z_goto gi_192_12 ?_
        refine z_iret gi_192_32 gr_192 ?_
        show zW _ _ _ _ _ _ _ _ _ _
        refine z_if_geF gi_203_24 zrn_11 (by decide) ?_
        refine z_aload0 gi_203_27 ?_
        refine z_iload1 gi_203_28 ?_
        refine z_cV1 gi_203_29 gk_50 go_192 (Nat.le_of_ble_eq_true rfl) gc_192_RI ?_
        refine z_aload0 gi_192_0 ?_
        refine z_getR (r := 83) gi_192_1 gk_50 (hRr _ rm_50_58 (by decide)) ?_
        refine z_iload1 gi_192_4 ?_
        refine z_iald (v := J (38 + 2 * s.toNat) 1) gi_192_5 gk_83 (by decide) (by omega) (e83) ?_
        refine z_pushJ gp_192_6 ?_
        refine z_icmp_neF gi_192_7 (by omega) zrn_1 (by omega) ?_
        refine z_pushJ gp_192_10 ?_
        refine z_goto gi_192_12 ?_
        refine z_iret gi_192_32 gr_192 ?_
        show zW _ _ _ _ _ _ _ _ _ _
        refine z_iret gi_203_32 gr_203 ?_
        refine ⟨?_, ?_⟩
        · first | rfl | exact congrArg (fun v => some (zi v)) (by omega) | (exfalso; omega)
        · exact hr
    · refine z_pushJ gp_113_17 ?_
      refine z_iret gi_113_18 gr_113 ?_
      refine ⟨_, rfl, ?_⟩
      show zW _ _ _ _ [some (.ref 50), some (zi s), some (zi v), none, none] _ _ _ _ _
      refine z_iload1 gi_203_0 ?_
      refine z_cS1 gi_203_1 (Nat.le_of_ble_eq_true rfl) gc_248_I ?_
      refine z_iload0 gi_248_0 ?_
      refine z_pushJ gp_248_1 ?_
      refine z_pushJ gp_248_2 ?_
      refine z_cS3 gi_248_3 (Nat.le_of_ble_eq_true rfl) gc_148_III ?_
      refine z_iload0 gi_148_0 ?_
      refine z_iload1 gi_148_1 ?_
      refine z_icmp_ltF gi_148_2 (by omega) zr_0 (by omega) ?_
      refine z_iload0 gi_148_5 ?_
      refine z_iload2 gi_148_6 ?_
      refine z_icmp_gtF gi_148_7 (by omega) zr_5 (by omega) ?_
      refine z_pushJ gp_148_10 ?_
      refine z_goto gi_148_11 ?_
      refine z_bret1 gi_148_15 gr_148 ?_
      show zW _ _ _ _ _ _ _ _ _ _
      refine z_bret1 gi_248_6 gr_248 ?_
      show zW _ _ _ _ _ _ _ _ _ _
      refine z_if_eqF gi_203_4 zr_1 (by decide) ?_
      refine z_iload2 gi_203_7 ?_
      refine z_pushJ gp_203_8 ?_
      refine z_pushJ gp_203_9 ?_
      refine z_cS3 gi_203_11 (Nat.le_of_ble_eq_true rfl) gc_148_III ?_
      refine z_iload0 gi_148_0 ?_
      refine z_iload1 gi_148_1 ?_
      refine z_icmp_ltF gi_148_2 (by omega) zr_0 (by omega) ?_
      refine z_iload0 gi_148_5 ?_
      refine z_iload2 gi_148_6 ?_
      refine z_icmp_gtT gi_148_7 (by omega) (by decide) (by omega) ?_
      refine z_pushJ gp_148_14 ?_
      refine z_bret0 gi_148_15 gr_148 ?_
      show zW _ _ _ _ _ _ _ _ _ _
      refine z_if_neF gi_203_14 zr_0 (by decide) ?_
      refine z_pushJ gp_203_17 ?_
      refine z_iret gi_203_18 gr_203 ?_
      refine ⟨?_, ?_⟩
      · first | rfl | exact congrArg (fun v => some (zi v)) (by omega) | (exfalso; omega)
      · exact hr
theorem st_stay_2 {X : Nat × (Nat → Int32)} {d : Nat} {J M : zA} {R : zR} {s v : Int} (hr : Rel X J M R) (hs : -2147483648 ≤ s ∧ s < 2147483648) (hv : -2147483648 ≤ v ∧ v < 2147483648) (hs6 : 0 ≤ s ∧ s < 6) (hh : J (38 + 2 * s.toNat) 0 = 2) (hso : ¬ J (38 + 2 * s.toNat) 2 = 0) : zW X (d + 20) 113 0 (gEn 113 [(.ref 0), (zi s), (zi v)]) [] J M R (stP X (d + 20) 203 [(zi s), (zi v)]) := by
  have hr0 := hr
  obtain ⟨hR, hG, hY, hD, hP, hC, hAc, hS, hTp, hX, hW⟩ := hr0
  have hRr : zRoR R := zRoR_of hR
  have hY0 := hY
  obtain ⟨y1, y2, y3⟩ := hY0
  have yn := zNn y3
  have hA0 := hAc
  obtain ⟨a1, a2, a3, a4, a5, a6⟩ := hA0
  have e83 : J 83 s = -2 - J (38 + 2 * s.toNat) 2 := (hS s hs6.1 hs6.2).1.symm.trans (cH_2 hh)
  have s3 : 0 ≤ J (38 + 2 * s.toNat) 2 ∧ J (38 + 2 * s.toNat) 2 ≤ 4 := (hS s hs6.1 hs6.2).2.2.1
  have s4 : 0 ≤ J (38 + 2 * s.toNat) 3 ∧ J (38 + 2 * s.toNat) 3 ≤ 60 := (hS s hs6.1 hs6.2).2.2.2.1
  have s6 := (hS s hs6.1 hs6.2).2.2.2.2.2 hh
  have s7 : J 84 s = J (38 + 2 * s.toNat) 3 := s6.1.symm
  have s8 : ∀ i, 0 ≤ i → i < J (38 + 2 * s.toNat) 3 → M (39 + 2 * s.toNat) i = M 85 (60 * s + i) := s6.2.1
  show zW _ _ _ _ [some (.ref 0), some (zi s), some (zi v), none] _ _ _ _ _
  refine z_iload1 gi_113_0 ?_
  refine z_cS1 gi_113_1 (Nat.le_of_ble_eq_true rfl) gc_143_I ?_
  refine z_iload0 gi_143_0 ?_
  refine z_if_ltF gi_143_1 (by omega) (by omega) ?_
  refine z_iload0 gi_143_4 ?_
  refine z_pushJ gp_143_5 ?_
  refine z_icmp_geF gi_143_7 (by omega) zr_6 (by omega) ?_
  refine z_pushJ gp_143_10 ?_
  refine z_goto gi_143_11 ?_
  refine z_bret1 gi_143_15 gr_143 ?_
  show zW _ _ _ _ _ _ _ _ _ _
  refine z_if_eqF gi_113_4 zr_1 (by decide) ?_
  refine z_iload2 gi_113_7 ?_
  refine z_if_lt gi_113_8 (by omega) (fun h1 => ?_) (fun h1 => ?_)
  · refine z_pushJ gp_113_17 ?_
    refine z_iret gi_113_18 gr_113 ?_
    refine ⟨_, rfl, ?_⟩
    show zW _ _ _ _ [some (.ref 50), some (zi s), some (zi v), none, none] _ _ _ _ _
    refine z_iload1 gi_203_0 ?_
    refine z_cS1 gi_203_1 (Nat.le_of_ble_eq_true rfl) gc_248_I ?_
    refine z_iload0 gi_248_0 ?_
    refine z_pushJ gp_248_1 ?_
    refine z_pushJ gp_248_2 ?_
    refine z_cS3 gi_248_3 (Nat.le_of_ble_eq_true rfl) gc_148_III ?_
    refine z_iload0 gi_148_0 ?_
    refine z_iload1 gi_148_1 ?_
    refine z_icmp_ltF gi_148_2 (by omega) zr_0 (by omega) ?_
    refine z_iload0 gi_148_5 ?_
    refine z_iload2 gi_148_6 ?_
    refine z_icmp_gtF gi_148_7 (by omega) zr_5 (by omega) ?_
    refine z_pushJ gp_148_10 ?_
    refine z_goto gi_148_11 ?_
    refine z_bret1 gi_148_15 gr_148 ?_
    show zW _ _ _ _ _ _ _ _ _ _
    refine z_bret1 gi_248_6 gr_248 ?_
    show zW _ _ _ _ _ _ _ _ _ _
    refine z_if_eqF gi_203_4 zr_1 (by decide) ?_
    refine z_iload2 gi_203_7 ?_
    refine z_pushJ gp_203_8 ?_
    refine z_pushJ gp_203_9 ?_
    refine z_cS3 gi_203_11 (Nat.le_of_ble_eq_true rfl) gc_148_III ?_
    refine z_iload0 gi_148_0 ?_
    refine z_iload1 gi_148_1 ?_
    refine z_icmp_ltT gi_148_2 (by omega) zr_0 (by omega) ?_
    refine z_pushJ gp_148_14 ?_
    refine z_bret0 gi_148_15 gr_148 ?_
    show zW _ _ _ _ _ _ _ _ _ _
    refine z_if_neF gi_203_14 zr_0 (by decide) ?_
    refine z_pushJ gp_203_17 ?_
    refine z_iret gi_203_18 gr_203 ?_
    refine ⟨?_, ?_⟩
    · first | rfl | exact congrArg (fun v => some (zi v)) (by omega) | (exfalso; omega)
    · exact hr
  · refine z_iload2 gi_113_11 ?_
    refine z_pushJ gp_113_12 ?_
    refine z_icmp_lt gi_113_14 (by omega) (by decide) (fun h2 => ?_) (fun h2 => ?_)
    · refine z_aload0 gi_113_19 ?_
      refine z_getR (r := 10) gi_113_20 gk_0 (hR _ rm_0_2) ?_
      refine z_aload0 gi_113_23 ?_
      refine z_getR (r := 37) gi_113_24 gk_0 (hR _ rm_0_11) ?_
      refine z_iload1 gi_113_27 ?_
      refine z_aald (r := 38 + 2 * s.toNat) gi_113_28 rfl (by decide) (by omega) (rr_shelf hR (by omega)) ?_
      refine z_callVi (As := [_]) (le := [some _, some _, none, none, none]) gi_113_29 rfl gk_10 (Nat.le_of_ble_eq_true rfl) (Nat.le_of_ble_eq_true rfl) rfl ?_
      refine z_aload1 gi_78_0 ?_
      refine z_callVi (As := []) (le := [some _]) gi_78_1 rfl (zk_shelf (by omega)) (Nat.le_of_ble_eq_true rfl) (Nat.le_of_ble_eq_true rfl) rfl ?_
      refine z_aload0 gi_69_0 ?_
      refine z_getI (v := 2) gi_69_1 (zk_shelf (by omega)) (hh) ?_
      refine z_if_neT gi_69_4 zr_2 (by decide) ?_
      refine z_aload0 gi_69_10 ?_
      refine z_callVi (As := []) (le := [some _]) gi_69_11 rfl (zk_shelf (by omega)) (Nat.le_of_ble_eq_true rfl) (Nat.le_of_ble_eq_true rfl) rfl ?_
      refine z_aload0 gi_64_0 ?_
      refine z_getI (v := 2) gi_64_1 (zk_shelf (by omega)) (hh) ?_
      refine z_pushJ gp_64_4 ?_
      refine z_icmp_neF gi_64_5 zr_2 zr_2 (by decide) ?_
      refine z_aload0 gi_64_8 ?_
      refine z_getI (v := J (38 + 2 * s.toNat) 2) gi_64_9 (zk_shelf (by omega)) (rfl) ?_
      refine z_if_neT gi_64_12 (by omega) (by omega) ?_
      refine z_pushJ gp_64_19 ?_
      refine z_bret0 gi_64_20 gr_64 ?_
      show zW _ _ _ _ _ _ _ _ _ _
      refine z_if_eqT gi_69_14 zr_0 (by decide) ?_
      refine z_pushJ gp_69_21 ?_
      refine z_iret gi_69_23 gr_69 ?_
      show zW _ _ _ _ _ _ _ _ _ _
      refine z_istore (ls1 := [some (.ref 10), some (.ref (38 + 2 * s.toNat)), some (zi (-12)), none, none]) gi_78_4 rfl ?_
      refine z_iload2 gi_78_5 ?_
      refine z_if_geF gi_78_6 zrn_12 (by decide) ?_
      refine z_iload2 gi_78_9 ?_
      refine z_iret gi_78_10 gr_78 ?_
      show zW _ _ _ _ _ _ _ _ _ _
      refine z_istore (ls1 := [some (.ref 0), some (zi s), some (zi v), some (zi (-12))]) gi_113_32 rfl ?_
      refine z_iload3 gi_113_33 ?_
      refine z_if_geF gi_113_34 zrn_12 (by decide) ?_
      refine z_iload3 gi_113_37 ?_
      refine z_iret gi_113_38 gr_113 ?_
      refine ⟨_, rfl, ?_⟩
      show zW _ _ _ _ [some (.ref 50), some (zi s), some (zi v), none, none] _ _ _ _ _
      refine z_iload1 gi_203_0 ?_
      refine z_cS1 gi_203_1 (Nat.le_of_ble_eq_true rfl) gc_248_I ?_
      refine z_iload0 gi_248_0 ?_
      refine z_pushJ gp_248_1 ?_
      refine z_pushJ gp_248_2 ?_
      refine z_cS3 gi_248_3 (Nat.le_of_ble_eq_true rfl) gc_148_III ?_
      refine z_iload0 gi_148_0 ?_
      refine z_iload1 gi_148_1 ?_
      refine z_icmp_ltF gi_148_2 (by omega) zr_0 (by omega) ?_
      refine z_iload0 gi_148_5 ?_
      refine z_iload2 gi_148_6 ?_
      refine z_icmp_gtF gi_148_7 (by omega) zr_5 (by omega) ?_
      refine z_pushJ gp_148_10 ?_
      refine z_goto gi_148_11 ?_
      refine z_bret1 gi_148_15 gr_148 ?_
      show zW _ _ _ _ _ _ _ _ _ _
      refine z_bret1 gi_248_6 gr_248 ?_
      show zW _ _ _ _ _ _ _ _ _ _
      refine z_if_eqF gi_203_4 zr_1 (by decide) ?_
      refine z_iload2 gi_203_7 ?_
      refine z_pushJ gp_203_8 ?_
      refine z_pushJ gp_203_9 ?_
      refine z_cS3 gi_203_11 (Nat.le_of_ble_eq_true rfl) gc_148_III ?_
      refine z_iload0 gi_148_0 ?_
      refine z_iload1 gi_148_1 ?_
      refine z_icmp_ltF gi_148_2 (by omega) zr_0 (by omega) ?_
      refine z_iload0 gi_148_5 ?_
      refine z_iload2 gi_148_6 ?_
      refine z_icmp_gtF gi_148_7 (by omega) (by decide) (by omega) ?_
      refine z_pushJ gp_148_10 ?_
      refine z_goto gi_148_11 ?_
      refine z_bret1 gi_148_15 gr_148 ?_
      show zW _ _ _ _ _ _ _ _ _ _
      refine z_if_neT gi_203_14 zr_1 (by decide) ?_
      refine z_aload0 gi_203_19 ?_
      refine z_iload1 gi_203_20 ?_
      refine z_cV1 gi_203_21 gk_50 go_192 (Nat.le_of_ble_eq_true rfl) gc_192_RI ?_
      refine z_aload0 gi_192_0 ?_
      refine z_getR (r := 83) gi_192_1 gk_50 (hRr _ rm_50_58 (by decide)) ?_
      refine z_iload1 gi_192_4 ?_
      refine z_iald (v := (-2) - (J (38 + 2 * s.toNat) 2)) gi_192_5 gk_83 (by decide) (by omega) (e83) ?_
      refine z_pushJ gp_192_6 ?_
      refine z_icmp_neT gi_192_7 (by omega) zrn_1 (by omega) ?_
      refine z_aload0 gi_192_15 ?_
      refine z_getR (r := 83) gi_192_16 gk_50 (hRr _ rm_50_58 (by decide)) ?_
      refine z_iload1 gi_192_19 ?_
      refine z_iald (v := (-2) - (J (38 + 2 * s.toNat) 2)) gi_192_20 gk_83 (by decide) (by omega) (e83) ?_
      refine z_pushJ gp_192_21 ?_
      refine z_icmp_neT gi_192_23 (by omega) zrn_2 (by omega) ?_
      refine z_pushJ gp_192_30 ?_
      refine z_iret gi_192_32 gr_192 ?_
      show zW _ _ _ _ _ _ _ _ _ _
      refine z_if_geF gi_203_24 zrn_12 (by decide) ?_
      refine z_aload0 gi_203_27 ?_
      refine z_iload1 gi_203_28 ?_
      refine z_cV1 gi_203_29 gk_50 go_192 (Nat.le_of_ble_eq_true rfl) gc_192_RI ?_
      refine z_aload0 gi_192_0 ?_
      refine z_getR (r := 83) gi_192_1 gk_50 (hRr _ rm_50_58 (by decide)) ?_
      refine z_iload1 gi_192_4 ?_
      refine z_iald (v := (-2) - (J (38 + 2 * s.toNat) 2)) gi_192_5 gk_83 (by decide) (by omega) (e83) ?_
      refine z_pushJ gp_192_6 ?_
      refine z_icmp_neT gi_192_7 (by omega) zrn_1 (by omega) ?_
      refine z_aload0 gi_192_15 ?_
      refine z_getR (r := 83) gi_192_16 gk_50 (hRr _ rm_50_58 (by decide)) ?_
      refine z_iload1 gi_192_19 ?_
      refine z_iald (v := (-2) - (J (38 + 2 * s.toNat) 2)) gi_192_20 gk_83 (by decide) (by omega) (e83) ?_
      refine z_pushJ gp_192_21 ?_
      refine z_icmp_neT gi_192_23 (by omega) zrn_2 (by omega) ?_
      refine z_pushJ gp_192_30 ?_
      refine z_iret gi_192_32 gr_192 ?_
      show zW _ _ _ _ _ _ _ _ _ _
      refine z_iret gi_203_32 gr_203 ?_
      refine ⟨?_, ?_⟩
      · first | rfl | exact congrArg (fun v => some (zi v)) (by omega) | (exfalso; omega)
      · exact hr
    · refine z_pushJ gp_113_17 ?_
      refine z_iret gi_113_18 gr_113 ?_
      refine ⟨_, rfl, ?_⟩
      show zW _ _ _ _ [some (.ref 50), some (zi s), some (zi v), none, none] _ _ _ _ _
      refine z_iload1 gi_203_0 ?_
      refine z_cS1 gi_203_1 (Nat.le_of_ble_eq_true rfl) gc_248_I ?_
      refine z_iload0 gi_248_0 ?_
      refine z_pushJ gp_248_1 ?_
      refine z_pushJ gp_248_2 ?_
      refine z_cS3 gi_248_3 (Nat.le_of_ble_eq_true rfl) gc_148_III ?_
      refine z_iload0 gi_148_0 ?_
      refine z_iload1 gi_148_1 ?_
      refine z_icmp_ltF gi_148_2 (by omega) zr_0 (by omega) ?_
      refine z_iload0 gi_148_5 ?_
      refine z_iload2 gi_148_6 ?_
      refine z_icmp_gtF gi_148_7 (by omega) zr_5 (by omega) ?_
      refine z_pushJ gp_148_10 ?_
      refine z_goto gi_148_11 ?_
      refine z_bret1 gi_148_15 gr_148 ?_
      show zW _ _ _ _ _ _ _ _ _ _
      refine z_bret1 gi_248_6 gr_248 ?_
      show zW _ _ _ _ _ _ _ _ _ _
      refine z_if_eqF gi_203_4 zr_1 (by decide) ?_
      refine z_iload2 gi_203_7 ?_
      refine z_pushJ gp_203_8 ?_
      refine z_pushJ gp_203_9 ?_
      refine z_cS3 gi_203_11 (Nat.le_of_ble_eq_true rfl) gc_148_III ?_
      refine z_iload0 gi_148_0 ?_
      refine z_iload1 gi_148_1 ?_
      refine z_icmp_ltF gi_148_2 (by omega) zr_0 (by omega) ?_
      refine z_iload0 gi_148_5 ?_
      refine z_iload2 gi_148_6 ?_
      refine z_icmp_gtT gi_148_7 (by omega) (by decide) (by omega) ?_
      refine z_pushJ gp_148_14 ?_
      refine z_bret0 gi_148_15 gr_148 ?_
      show zW _ _ _ _ _ _ _ _ _ _
      refine z_if_neF gi_203_14 zr_0 (by decide) ?_
      refine z_pushJ gp_203_17 ?_
      refine z_iret gi_203_18 gr_203 ?_
      refine ⟨?_, ?_⟩
      · first | rfl | exact congrArg (fun v => some (zi v)) (by omega) | (exfalso; omega)
      · exact hr
theorem st_stay_m {X : Nat × (Nat → Int32)} {d : Nat} {J M : zA} {R : zR} {s v : Int} (hr : Rel X J M R) (hs : -2147483648 ≤ s ∧ s < 2147483648) (hv : -2147483648 ≤ v ∧ v < 2147483648) (hs6 : 0 ≤ s ∧ s < 6) (hh : J (38 + 2 * s.toNat) 0 = 2) (hso : J (38 + 2 * s.toNat) 2 = 0) : zW X (d + 20) 113 0 (gEn 113 [(.ref 0), (zi s), (zi v)]) [] J M R (stP X (d + 20) 203 [(zi s), (zi v)]) := by
  have hr0 := hr
  obtain ⟨hR, hG, hY, hD, hP, hC, hAc, hS, hTp, hX, hW⟩ := hr0
  have hRr : zRoR R := zRoR_of hR
  have hY0 := hY
  obtain ⟨y1, y2, y3⟩ := hY0
  have yn := zNn y3
  have e83 : J 83 s = -2 - J (38 + 2 * s.toNat) 2 := (hS s hs6.1 hs6.2).1.symm.trans (cH_2 hh)
  have s3 : 0 ≤ J (38 + 2 * s.toNat) 2 ∧ J (38 + 2 * s.toNat) 2 ≤ 4 := (hS s hs6.1 hs6.2).2.2.1
  have s4 : 0 ≤ J (38 + 2 * s.toNat) 3 ∧ J (38 + 2 * s.toNat) 3 ≤ 60 := (hS s hs6.1 hs6.2).2.2.2.1
  have s6 := (hS s hs6.1 hs6.2).2.2.2.2.2 hh
  have s7 : J 84 s = J (38 + 2 * s.toNat) 3 := s6.1.symm
  have s8 : ∀ i, 0 ≤ i → i < J (38 + 2 * s.toNat) 3 → M (39 + 2 * s.toNat) i = M 85 (60 * s + i) := s6.2.1
  have e83n : J 83 s = -2 := e83.trans (by omega)
  have hbr := s6.2.2 hso
  have hX0 := hX
  obtain ⟨T, t1, t2, t3⟩ := hX0
  show zW _ _ _ _ [some (.ref 0), some (zi s), some (zi v), none] _ _ _ _ _
  refine z_iload1 gi_113_0 ?_
  refine z_cS1 gi_113_1 (Nat.le_of_ble_eq_true rfl) gc_143_I ?_
  refine z_iload0 gi_143_0 ?_
  refine z_if_ltF gi_143_1 (by omega) (by omega) ?_
  refine z_iload0 gi_143_4 ?_
  refine z_pushJ gp_143_5 ?_
  refine z_icmp_geF gi_143_7 (by omega) zr_6 (by omega) ?_
  refine z_pushJ gp_143_10 ?_
  refine z_goto gi_143_11 ?_
  refine z_bret1 gi_143_15 gr_143 ?_
  show zW _ _ _ _ _ _ _ _ _ _
  refine z_if_eqF gi_113_4 zr_1 (by decide) ?_
  refine z_iload2 gi_113_7 ?_
  refine z_if_lt gi_113_8 (by omega) (fun h1 => ?_) (fun h1 => ?_)
  · refine z_pushJ gp_113_17 ?_
    refine z_iret gi_113_18 gr_113 ?_
    refine ⟨_, rfl, ?_⟩
    show zW _ _ _ _ [some (.ref 50), some (zi s), some (zi v), none, none] _ _ _ _ _
    refine z_iload1 gi_203_0 ?_
    refine z_cS1 gi_203_1 (Nat.le_of_ble_eq_true rfl) gc_248_I ?_
    refine z_iload0 gi_248_0 ?_
    refine z_pushJ gp_248_1 ?_
    refine z_pushJ gp_248_2 ?_
    refine z_cS3 gi_248_3 (Nat.le_of_ble_eq_true rfl) gc_148_III ?_
    refine z_iload0 gi_148_0 ?_
    refine z_iload1 gi_148_1 ?_
    refine z_icmp_ltF gi_148_2 (by omega) zr_0 (by omega) ?_
    refine z_iload0 gi_148_5 ?_
    refine z_iload2 gi_148_6 ?_
    refine z_icmp_gtF gi_148_7 (by omega) zr_5 (by omega) ?_
    refine z_pushJ gp_148_10 ?_
    refine z_goto gi_148_11 ?_
    refine z_bret1 gi_148_15 gr_148 ?_
    show zW _ _ _ _ _ _ _ _ _ _
    refine z_bret1 gi_248_6 gr_248 ?_
    show zW _ _ _ _ _ _ _ _ _ _
    refine z_if_eqF gi_203_4 zr_1 (by decide) ?_
    refine z_iload2 gi_203_7 ?_
    refine z_pushJ gp_203_8 ?_
    refine z_pushJ gp_203_9 ?_
    refine z_cS3 gi_203_11 (Nat.le_of_ble_eq_true rfl) gc_148_III ?_
    refine z_iload0 gi_148_0 ?_
    refine z_iload1 gi_148_1 ?_
    refine z_icmp_ltT gi_148_2 (by omega) zr_0 (by omega) ?_
    refine z_pushJ gp_148_14 ?_
    refine z_bret0 gi_148_15 gr_148 ?_
    show zW _ _ _ _ _ _ _ _ _ _
    refine z_if_neF gi_203_14 zr_0 (by decide) ?_
    refine z_pushJ gp_203_17 ?_
    refine z_iret gi_203_18 gr_203 ?_
    refine ⟨?_, ?_⟩
    · first | rfl | exact congrArg (fun v => some (zi v)) (by omega) | (exfalso; omega)
    · exact hr
  · refine z_iload2 gi_113_11 ?_
    refine z_pushJ gp_113_12 ?_
    refine z_icmp_lt gi_113_14 (by omega) (by decide) (fun h2 => ?_) (fun h2 => ?_)
    · refine z_aload0 gi_113_19 ?_
      refine z_getR (r := 10) gi_113_20 gk_0 (hR _ rm_0_2) ?_
      refine z_aload0 gi_113_23 ?_
      refine z_getR (r := 37) gi_113_24 gk_0 (hR _ rm_0_11) ?_
      refine z_iload1 gi_113_27 ?_
      refine z_aald (r := 38 + 2 * s.toNat) gi_113_28 rfl (by decide) (by omega) (rr_shelf hR (by omega)) ?_
      have hk1 : zK kP J J := zK_r
      refine z_callV (As := [_]) _ gi_113_29 rfl rfl (Nat.le_of_ble_eq_true rfl) (Nat.le_of_ble_eq_true rfl) (follow_k (J := J) (N := (cN J)) (n := J 8 2) (T := T) (s := s) (w := J 10 12) (z := (J (38 + 2 * s.toNat) 3)) (b := (fun i => M (39 + 2 * s.toNat) i)) hR (cN_P hk1) (hk1 8 2 rfl) y3 (LawC_P t2 hk1) t1 hs6 (fun _ _ _ => rfl) hbr (hk1 _ 3 (kP_b (by omega))) s4 ((hk1 _ 0 (kP_b (by omega))).trans hh) ((hk1 _ 2 (kP_b (by omega))).trans hso) rfl hW.1) (fun r J2 M2 R2 hr2 => ?_)
      obtain ⟨rfl, K, hE, hK30, hk3, hc2, hw2, eM, eR⟩ := hr2
      obtain rfl : M = M2 := eM.symm
      obtain rfl : R = R2 := eR.symm
      show zW _ _ _ _ _ (_ :: _) _ _ _ _
      have hk2 := zK_t hk1 hk3
      have hn2 : J2 8 2 = J 8 2 := hk2 8 2 rfl
      have hks : zK kS J J2 := kS_Pw hk3 (hc2.2.2.2.2.1.trans (Eq.symm rfl))
      obtain ⟨S, eS⟩ : ∃ S, S = tS T (cN J) (J 8 2) (fun i => M (39 + 2 * s.toNat) i) (J 10 12) K := ⟨_, rfl⟩
      have hi0 := (tS_r y3 K hE.1).1
      have hz0 := tS_z K hE.1
      rw [← eS] at hc2 hi0 hz0
      have hi := tI_30 hi0 (by omega)
      have qi := hi.2.2
      have hfc : ∀ p, 0 ≤ p → p < 8 → J2 11 p = tsh S p := fun p q1 q2 => hc2.2.2.2.2.2.2.1 p q1 q2
      refine z_istore (ls1 := [some (.ref 0), some (zi s), some (zi v), some (zi 0)]) gi_113_32 rfl ?_
      refine z_iload3 gi_113_33 ?_
      refine z_if_geT gi_113_34 zr_0 (by decide) ?_
      refine z_aload0 rfl ?_
      refine z_getR (r := 10) rfl gk_0 (hR _ rm_0_2) ?_
      refine z_getI (v := tat S) rfl gk_10 (hc2.2.2.2.1) ?_
      refine z_if_ge rfl (by omega) (fun h3 => ?_) (fun h3 => ?_)
      · refine z_aload0 rfl ?_
        refine z_getR (r := 10) rfl gk_0 (hR _ rm_0_2) ?_
        refine z_iload2 rfl ?_
        refine z_callVk (As := [_]) (v := sy T (cN J) (tat S) (tli S (tat S)) (tmi S) v 99 0 (tsh S (tat S))) rfl rfl gk_10 (Nat.le_of_ble_eq_true rfl) (Nat.le_of_ble_eq_true rfl) (stayC_k hR (A := J2) zK_r (cN_P hk2) hn2 y3 (LawC_P t2 hk2) t1 hc2 hi (by omega) (by omega)) (fun J3 hJ3 => ?_)
        have hks2 := zK_t hks (zK_m hJ3 kS_T)
        refine z_iret gi_113_62 gr_113 ?_
        refine ⟨_, rfl, ?_⟩
        show zW _ _ _ _ [some (.ref 50), some (zi s), some (zi v), none, none] _ _ _ _ _
        refine z_iload1 gi_203_0 ?_
        refine z_cS1 gi_203_1 (Nat.le_of_ble_eq_true rfl) gc_248_I ?_
        refine z_iload0 gi_248_0 ?_
        refine z_pushJ gp_248_1 ?_
        refine z_pushJ gp_248_2 ?_
        refine z_cS3 gi_248_3 (Nat.le_of_ble_eq_true rfl) gc_148_III ?_
        refine z_iload0 gi_148_0 ?_
        refine z_iload1 gi_148_1 ?_
        refine z_icmp_ltF gi_148_2 (by omega) zr_0 (by omega) ?_
        refine z_iload0 gi_148_5 ?_
        refine z_iload2 gi_148_6 ?_
        refine z_icmp_gtF gi_148_7 (by omega) zr_5 (by omega) ?_
        refine z_pushJ gp_148_10 ?_
        refine z_goto gi_148_11 ?_
        refine z_bret1 gi_148_15 gr_148 ?_
        show zW _ _ _ _ _ _ _ _ _ _
        refine z_bret1 gi_248_6 gr_248 ?_
        show zW _ _ _ _ _ _ _ _ _ _
        refine z_if_eqF gi_203_4 zr_1 (by decide) ?_
        refine z_iload2 gi_203_7 ?_
        refine z_pushJ gp_203_8 ?_
        refine z_pushJ gp_203_9 ?_
        refine z_cS3 gi_203_11 (Nat.le_of_ble_eq_true rfl) gc_148_III ?_
        refine z_iload0 gi_148_0 ?_
        refine z_iload1 gi_148_1 ?_
        refine z_icmp_ltF gi_148_2 (by omega) zr_0 (by omega) ?_
        refine z_iload0 gi_148_5 ?_
        refine z_iload2 gi_148_6 ?_
        refine z_icmp_gtF gi_148_7 (by omega) (by decide) (by omega) ?_
        refine z_pushJ gp_148_10 ?_
        refine z_goto gi_148_11 ?_
        refine z_bret1 gi_148_15 gr_148 ?_
        show zW _ _ _ _ _ _ _ _ _ _
        refine z_if_neT gi_203_14 zr_1 (by decide) ?_
        refine z_aload0 gi_203_19 ?_
        refine z_iload1 gi_203_20 ?_
        refine z_cV1 gi_203_21 gk_50 go_192 (Nat.le_of_ble_eq_true rfl) gc_192_RI ?_
        refine z_aload0 gi_192_0 ?_
        refine z_getR (r := 83) gi_192_1 gk_50 (hRr _ rm_50_58 (by decide)) ?_
        refine z_iload1 gi_192_4 ?_
        refine z_iald (v := (-2)) gi_192_5 gk_83 (by decide) (by omega) ((hks2 83 _ rfl).trans e83n) ?_
        refine z_pushJ gp_192_6 ?_
        refine z_icmp_neT gi_192_7 zrn_2 zrn_1 (by decide) ?_
        refine z_aload0 gi_192_15 ?_
        refine z_getR (r := 83) gi_192_16 gk_50 (hRr _ rm_50_58 (by decide)) ?_
        refine z_iload1 gi_192_19 ?_
        refine z_iald (v := (-2)) gi_192_20 gk_83 (by decide) (by omega) ((hks2 83 _ rfl).trans e83n) ?_
        refine z_pushJ gp_192_21 ?_
        refine z_icmp_neF gi_192_23 zrn_2 zrn_2 (by decide) ?_
        refine z_pushJ gp_192_26 ?_
        refine z_goto gi_192_27 ?_
        refine z_iret gi_192_32 gr_192 ?_
        show zW _ _ _ _ _ _ _ _ _ _
        refine z_if_geT gi_203_24 zr_0 (by decide) ?_
        refine z_aload0 gi_203_33 ?_
        refine z_iload1 gi_203_34 ?_
        refine z_pushJ gp_203_35 ?_
        have hV := zK_m hks2 kV_S
        refine z_callV (As := [_, _]) _ gi_203_37 rfl rfl (Nat.le_of_ble_eq_true rfl) (Nat.le_of_ble_eq_true rfl) (goRound_k (N := (cN J)) (n := J 8 2) (T := T) (s := s) (z := (J (38 + 2 * s.toNat) 3)) (b := (fun i => M (39 + 2 * s.toNat) i)) (w := 0) (most := 60) hRr ((rN_V hV).trans y1.symm) ((hks2 50 1 rfl).trans y2.symm) y3 (LawR_V t3 hV) t1 hs6 (fun i i1 i2 => (s8 i i1 i2).symm) hbr ((hks2 84 _ rfl).trans s7) s4 (by decide) ((hks2 50 35 rfl).trans hW.2) (by decide)) (fun r J4 M4 R4 hr4 => ?_)
        obtain ⟨K2, rfl, hO, hOr, hK2, hq4, hr4, eM, eR⟩ := hr4
        obtain rfl : M = M4 := eM.symm
        obtain rfl : R = R4 := eR.symm
        show zW _ _ _ _ _ (_ :: _) _ _ _ _
        have eK : K2 = K := tEnd_w ⟨hO, (by rcases hOr with h | h; (exfalso; omega); exact h)⟩ hE
        rw [eK] at hr4
        have hg : rTg J4 (J 8 2) S (sGone (cN J) (J 8 2)) := rT_w eS hr4
        have hs4 := zK_t hks2 (zK_m hq4 kS_Q)
        have hn4 : J4 50 1 = J 8 2 := (hs4 50 1 rfl).trans y2.symm
        have hfr : ∀ p, 0 ≤ p → p < J 8 2 → J4 69 p = tsh S p := fun p q1 q2 => hg.2.2.2.2.1 p q1 q2
        refine z_pop gi_203_40 rfl ?_
        refine z_aload0 gi_203_41 ?_
        refine z_getI (v := tat S) gi_203_42 gk_50 (hg.2.1) ?_
        refine z_if_geT gi_203_45 (by omega) (by omega) ?_
        refine z_pushJ gp_203_51 ?_
        refine z_istore (ls1 := [some (.ref 50), some (zi s), some (zi v), some (zi 0), none]) rfl rfl ?_
        show zW _ _ _ _ [some (.ref 50), some (zi s), some (zi v), some (zi 0), none] [] _ _ _ _
        have hV4 := zK_m hs4 kV_S
        refine stayR_k (d := d + 13) hRr ((rN_V hV4).trans y1.symm) hn4 y3 (LawR_V t3 hV4) t1 hg hi zK_r (by omega) (by omega) (fun JF hF => ⟨?_, ?_⟩)
        · first | rfl | exact congrArg (fun v => some (zi v)) (by omega)
        · exact Rel_S (zK_t hs4 (zK_m hF kS_Q)) zK_r hr
      · refine z_pushJ gp_113_49 ?_
        refine z_goto rfl ?_
        refine z_iret gi_113_62 gr_113 ?_
        refine ⟨_, rfl, ?_⟩
        show zW _ _ _ _ [some (.ref 50), some (zi s), some (zi v), none, none] _ _ _ _ _
        refine z_iload1 gi_203_0 ?_
        refine z_cS1 gi_203_1 (Nat.le_of_ble_eq_true rfl) gc_248_I ?_
        refine z_iload0 gi_248_0 ?_
        refine z_pushJ gp_248_1 ?_
        refine z_pushJ gp_248_2 ?_
        refine z_cS3 gi_248_3 (Nat.le_of_ble_eq_true rfl) gc_148_III ?_
        refine z_iload0 gi_148_0 ?_
        refine z_iload1 gi_148_1 ?_
        refine z_icmp_ltF gi_148_2 (by omega) zr_0 (by omega) ?_
        refine z_iload0 gi_148_5 ?_
        refine z_iload2 gi_148_6 ?_
        refine z_icmp_gtF gi_148_7 (by omega) zr_5 (by omega) ?_
        refine z_pushJ gp_148_10 ?_
        refine z_goto gi_148_11 ?_
        refine z_bret1 gi_148_15 gr_148 ?_
        show zW _ _ _ _ _ _ _ _ _ _
        refine z_bret1 gi_248_6 gr_248 ?_
        show zW _ _ _ _ _ _ _ _ _ _
        refine z_if_eqF gi_203_4 zr_1 (by decide) ?_
        refine z_iload2 gi_203_7 ?_
        refine z_pushJ gp_203_8 ?_
        refine z_pushJ gp_203_9 ?_
        refine z_cS3 gi_203_11 (Nat.le_of_ble_eq_true rfl) gc_148_III ?_
        refine z_iload0 gi_148_0 ?_
        refine z_iload1 gi_148_1 ?_
        refine z_icmp_ltF gi_148_2 (by omega) zr_0 (by omega) ?_
        refine z_iload0 gi_148_5 ?_
        refine z_iload2 gi_148_6 ?_
        refine z_icmp_gtF gi_148_7 (by omega) (by decide) (by omega) ?_
        refine z_pushJ gp_148_10 ?_
        refine z_goto gi_148_11 ?_
        refine z_bret1 gi_148_15 gr_148 ?_
        show zW _ _ _ _ _ _ _ _ _ _
        refine z_if_neT gi_203_14 zr_1 (by decide) ?_
        refine z_aload0 gi_203_19 ?_
        refine z_iload1 gi_203_20 ?_
        refine z_cV1 gi_203_21 gk_50 go_192 (Nat.le_of_ble_eq_true rfl) gc_192_RI ?_
        refine z_aload0 gi_192_0 ?_
        refine z_getR (r := 83) gi_192_1 gk_50 (hRr _ rm_50_58 (by decide)) ?_
        refine z_iload1 gi_192_4 ?_
        refine z_iald (v := (-2)) gi_192_5 gk_83 (by decide) (by omega) ((hks 83 _ rfl).trans e83n) ?_
        refine z_pushJ gp_192_6 ?_
        refine z_icmp_neT gi_192_7 zrn_2 zrn_1 (by decide) ?_
        refine z_aload0 gi_192_15 ?_
        refine z_getR (r := 83) gi_192_16 gk_50 (hRr _ rm_50_58 (by decide)) ?_
        refine z_iload1 gi_192_19 ?_
        refine z_iald (v := (-2)) gi_192_20 gk_83 (by decide) (by omega) ((hks 83 _ rfl).trans e83n) ?_
        refine z_pushJ gp_192_21 ?_
        refine z_icmp_neF gi_192_23 zrn_2 zrn_2 (by decide) ?_
        refine z_pushJ gp_192_26 ?_
        refine z_goto gi_192_27 ?_
        refine z_iret gi_192_32 gr_192 ?_
        show zW _ _ _ _ _ _ _ _ _ _
        refine z_if_geT gi_203_24 zr_0 (by decide) ?_
        refine z_aload0 gi_203_33 ?_
        refine z_iload1 gi_203_34 ?_
        refine z_pushJ gp_203_35 ?_
        have hV := zK_m hks kV_S
        refine z_callV (As := [_, _]) _ gi_203_37 rfl rfl (Nat.le_of_ble_eq_true rfl) (Nat.le_of_ble_eq_true rfl) (goRound_k (N := (cN J)) (n := J 8 2) (T := T) (s := s) (z := (J (38 + 2 * s.toNat) 3)) (b := (fun i => M (39 + 2 * s.toNat) i)) (w := 0) (most := 60) hRr ((rN_V hV).trans y1.symm) ((hks 50 1 rfl).trans y2.symm) y3 (LawR_V t3 hV) t1 hs6 (fun i i1 i2 => (s8 i i1 i2).symm) hbr ((hks 84 _ rfl).trans s7) s4 (by decide) ((hks 50 35 rfl).trans hW.2) (by decide)) (fun r J4 M4 R4 hr4 => ?_)
        obtain ⟨K2, rfl, hO, hOr, hK2, hq4, hr4, eM, eR⟩ := hr4
        obtain rfl : M = M4 := eM.symm
        obtain rfl : R = R4 := eR.symm
        show zW _ _ _ _ _ (_ :: _) _ _ _ _
        have eK : K2 = K := tEnd_w ⟨hO, (by rcases hOr with h | h; (exfalso; omega); exact h)⟩ hE
        rw [eK] at hr4
        have hg : rTg J4 (J 8 2) S (sGone (cN J) (J 8 2)) := rT_w eS hr4
        have hs4 := zK_t hks (zK_m hq4 kS_Q)
        have hn4 : J4 50 1 = J 8 2 := (hs4 50 1 rfl).trans y2.symm
        have hfr : ∀ p, 0 ≤ p → p < J 8 2 → J4 69 p = tsh S p := fun p q1 q2 => hg.2.2.2.2.1 p q1 q2
        refine z_pop gi_203_40 rfl ?_
        refine z_aload0 gi_203_41 ?_
        refine z_getI (v := tat S) gi_203_42 gk_50 (hg.2.1) ?_
        refine z_if_geF gi_203_45 (by omega) (by omega) ?_
        refine z_pushJ gp_203_48 ?_
        refine z_iret rfl gr_203 ?_
        refine ⟨?_, ?_⟩
        · first | rfl | exact congrArg (fun v => some (zi v)) (by omega) | (exfalso; omega)
        · exact Rel_S hs4 zK_r hr
    · refine z_pushJ gp_113_17 ?_
      refine z_iret gi_113_18 gr_113 ?_
      refine ⟨_, rfl, ?_⟩
      show zW _ _ _ _ [some (.ref 50), some (zi s), some (zi v), none, none] _ _ _ _ _
      refine z_iload1 gi_203_0 ?_
      refine z_cS1 gi_203_1 (Nat.le_of_ble_eq_true rfl) gc_248_I ?_
      refine z_iload0 gi_248_0 ?_
      refine z_pushJ gp_248_1 ?_
      refine z_pushJ gp_248_2 ?_
      refine z_cS3 gi_248_3 (Nat.le_of_ble_eq_true rfl) gc_148_III ?_
      refine z_iload0 gi_148_0 ?_
      refine z_iload1 gi_148_1 ?_
      refine z_icmp_ltF gi_148_2 (by omega) zr_0 (by omega) ?_
      refine z_iload0 gi_148_5 ?_
      refine z_iload2 gi_148_6 ?_
      refine z_icmp_gtF gi_148_7 (by omega) zr_5 (by omega) ?_
      refine z_pushJ gp_148_10 ?_
      refine z_goto gi_148_11 ?_
      refine z_bret1 gi_148_15 gr_148 ?_
      show zW _ _ _ _ _ _ _ _ _ _
      refine z_bret1 gi_248_6 gr_248 ?_
      show zW _ _ _ _ _ _ _ _ _ _
      refine z_if_eqF gi_203_4 zr_1 (by decide) ?_
      refine z_iload2 gi_203_7 ?_
      refine z_pushJ gp_203_8 ?_
      refine z_pushJ gp_203_9 ?_
      refine z_cS3 gi_203_11 (Nat.le_of_ble_eq_true rfl) gc_148_III ?_
      refine z_iload0 gi_148_0 ?_
      refine z_iload1 gi_148_1 ?_
      refine z_icmp_ltF gi_148_2 (by omega) zr_0 (by omega) ?_
      refine z_iload0 gi_148_5 ?_
      refine z_iload2 gi_148_6 ?_
      refine z_icmp_gtT gi_148_7 (by omega) (by decide) (by omega) ?_
      refine z_pushJ gp_148_14 ?_
      refine z_bret0 gi_148_15 gr_148 ?_
      show zW _ _ _ _ _ _ _ _ _ _
      refine z_if_neF gi_203_14 zr_0 (by decide) ?_
      refine z_pushJ gp_203_17 ?_
      refine z_iret gi_203_18 gr_203 ?_
      refine ⟨?_, ?_⟩
      · first | rfl | exact congrArg (fun v => some (zi v)) (by omega) | (exfalso; omega)
      · exact hr
theorem st_stay {X : Nat × (Nat → Int32)} {d : Nat} {J M : zA} {R : zR} {s v : Int} (hr : Rel X J M R) (hs : -2147483648 ≤ s ∧ s < 2147483648) (hv : -2147483648 ≤ v ∧ v < 2147483648) : zW X (d + 20) 113 0 (gEn 113 [(.ref 0), (zi s), (zi v)]) [] J M R (stP X (d + 20) 203 [(zi s), (zi v)]) := by
  by_cases hs6 : 0 ≤ s ∧ s < 6
  · have hS : RelS J M := hr.2.2.2.2.2.2.2.1
    have h2 := (hS s hs6.1 hs6.2).2.1
    have h4 : J (38 + 2 * s.toNat) 0 = 0 ∨ J (38 + 2 * s.toNat) 0 = 1 ∨ J (38 + 2 * s.toNat) 0 = 2 := by omega
    rcases h4 with hh | hh | hh
    · exact st_stay_0 hr hs hv hs6 hh
    · exact st_stay_1 hr hs hv hs6 hh
    · by_cases hso : J (38 + 2 * s.toNat) 2 = 0
      · exact st_stay_m hr hs hv hs6 hh hso
      · exact st_stay_2 hr hs hv hs6 hh hso
  · exact st_stay_n hr hs hv hs6
theorem st_next_n {X : Nat × (Nat → Int32)} {d : Nat} {J M : zA} {R : zR} {s q v : Int} (hr : Rel X J M R) (hs : -2147483648 ≤ s ∧ s < 2147483648) (hq : -2147483648 ≤ q ∧ q < 2147483648) (hv : -2147483648 ≤ v ∧ v < 2147483648) (hs6 : ¬ (0 ≤ s ∧ s < 6)) : zW X (d + 20) 112 0 (gEn 112 [(.ref 0), (zi s), (zi q), (zi v)]) [] J M R (stP X (d + 20) 202 [(zi s), (zi q), (zi v)]) := by
  have hr0 := hr
  obtain ⟨hR, hG, hY, hD, hP, hC, hAc, hS, hTp, hX, hW⟩ := hr0
  have hRr : zRoR R := zRoR_of hR
  have hY0 := hY
  obtain ⟨y1, y2, y3⟩ := hY0
  have yn := zNn y3
  show zW _ _ _ _ [some (.ref 0), some (zi s), some (zi q), some (zi v), none, none, none, none, none] _ _ _ _ _
  refine z_iload1 gi_112_0 ?_
  refine z_cS1 gi_112_1 (Nat.le_of_ble_eq_true rfl) gc_143_I ?_
  refine z_iload0 gi_143_0 ?_
  refine z_if_lt gi_143_1 (by omega) (fun h1 => ?_) (fun h1 => ?_)
  · refine z_pushJ gp_143_14 ?_
    refine z_bret0 gi_143_15 gr_143 ?_
    show zW _ _ _ _ _ _ _ _ _ _
    refine z_if_eqT gi_112_4 zr_0 (by decide) ?_
    refine z_pushJ gp_112_21 ?_
    refine z_iret gi_112_22 gr_112 ?_
    refine ⟨_, rfl, ?_⟩
    show zW _ _ _ _ [some (.ref 50), some (zi s), some (zi q), some (zi v), none, none, none, none] _ _ _ _ _
    refine z_iload1 gi_202_0 ?_
    refine z_cS1 gi_202_1 (Nat.le_of_ble_eq_true rfl) gc_248_I ?_
    refine z_iload0 gi_248_0 ?_
    refine z_pushJ gp_248_1 ?_
    refine z_pushJ gp_248_2 ?_
    refine z_cS3 gi_248_3 (Nat.le_of_ble_eq_true rfl) gc_148_III ?_
    refine z_iload0 gi_148_0 ?_
    refine z_iload1 gi_148_1 ?_
    refine z_icmp_ltT gi_148_2 (by omega) zr_0 (by omega) ?_
    refine z_pushJ gp_148_14 ?_
    refine z_bret0 gi_148_15 gr_148 ?_
    show zW _ _ _ _ _ _ _ _ _ _
    refine z_bret0 gi_248_6 gr_248 ?_
    show zW _ _ _ _ _ _ _ _ _ _
    refine z_if_eqT gi_202_4 zr_0 (by decide) ?_
    refine z_pushJ gp_202_26 ?_
    refine z_iret gi_202_27 gr_202 ?_
    refine ⟨?_, ?_⟩
    · first | rfl | exact congrArg (fun v => some (zi v)) (by omega) | (exfalso; omega)
    · exact hr
  · refine z_iload0 gi_143_4 ?_
    refine z_pushJ gp_143_5 ?_
    refine z_icmp_geT gi_143_7 (by omega) zr_6 (by omega) ?_
    refine z_pushJ gp_143_14 ?_
    refine z_bret0 gi_143_15 gr_143 ?_
    show zW _ _ _ _ _ _ _ _ _ _
    refine z_if_eqT gi_112_4 zr_0 (by decide) ?_
    refine z_pushJ gp_112_21 ?_
    refine z_iret gi_112_22 gr_112 ?_
    refine ⟨_, rfl, ?_⟩
    show zW _ _ _ _ [some (.ref 50), some (zi s), some (zi q), some (zi v), none, none, none, none] _ _ _ _ _
    refine z_iload1 gi_202_0 ?_
    refine z_cS1 gi_202_1 (Nat.le_of_ble_eq_true rfl) gc_248_I ?_
    refine z_iload0 gi_248_0 ?_
    refine z_pushJ gp_248_1 ?_
    refine z_pushJ gp_248_2 ?_
    refine z_cS3 gi_248_3 (Nat.le_of_ble_eq_true rfl) gc_148_III ?_
    refine z_iload0 gi_148_0 ?_
    refine z_iload1 gi_148_1 ?_
    refine z_icmp_ltF gi_148_2 (by omega) zr_0 (by omega) ?_
    refine z_iload0 gi_148_5 ?_
    refine z_iload2 gi_148_6 ?_
    refine z_icmp_gtT gi_148_7 (by omega) zr_5 (by omega) ?_
    refine z_pushJ gp_148_14 ?_
    refine z_bret0 gi_148_15 gr_148 ?_
    show zW _ _ _ _ _ _ _ _ _ _
    refine z_bret0 gi_248_6 gr_248 ?_
    show zW _ _ _ _ _ _ _ _ _ _
    refine z_if_eqT gi_202_4 zr_0 (by decide) ?_
    refine z_pushJ gp_202_26 ?_
    refine z_iret gi_202_27 gr_202 ?_
    refine ⟨?_, ?_⟩
    · first | rfl | exact congrArg (fun v => some (zi v)) (by omega) | (exfalso; omega)
    · exact hr
theorem st_next_0 {X : Nat × (Nat → Int32)} {d : Nat} {J M : zA} {R : zR} {s q v : Int} (hr : Rel X J M R) (hs : -2147483648 ≤ s ∧ s < 2147483648) (hq : -2147483648 ≤ q ∧ q < 2147483648) (hv : -2147483648 ≤ v ∧ v < 2147483648) (hs6 : 0 ≤ s ∧ s < 6) (hh : J (38 + 2 * s.toNat) 0 = 0) : zW X (d + 20) 112 0 (gEn 112 [(.ref 0), (zi s), (zi q), (zi v)]) [] J M R (stP X (d + 20) 202 [(zi s), (zi q), (zi v)]) := by
  have hr0 := hr
  obtain ⟨hR, hG, hY, hD, hP, hC, hAc, hS, hTp, hX, hW⟩ := hr0
  have hRr : zRoR R := zRoR_of hR
  have hY0 := hY
  obtain ⟨y1, y2, y3⟩ := hY0
  have yn := zNn y3
  have hA0 := hAc
  obtain ⟨a1, a2, a3, a4, a5, a6⟩ := hA0
  have e83 : J 83 s = -1 := (hS s hs6.1 hs6.2).1.symm.trans (cH_0 hh)
  have s3 : 0 ≤ J (38 + 2 * s.toNat) 2 ∧ J (38 + 2 * s.toNat) 2 ≤ 4 := (hS s hs6.1 hs6.2).2.2.1
  have s4 : 0 ≤ J (38 + 2 * s.toNat) 3 ∧ J (38 + 2 * s.toNat) 3 ≤ 60 := (hS s hs6.1 hs6.2).2.2.2.1
  show zW _ _ _ _ [some (.ref 0), some (zi s), some (zi q), some (zi v), none, none, none, none, none] _ _ _ _ _
  refine z_iload1 gi_112_0 ?_
  refine z_cS1 gi_112_1 (Nat.le_of_ble_eq_true rfl) gc_143_I ?_
  refine z_iload0 gi_143_0 ?_
  refine z_if_ltF gi_143_1 (by omega) (by omega) ?_
  refine z_iload0 gi_143_4 ?_
  refine z_pushJ gp_143_5 ?_
  refine z_icmp_geF gi_143_7 (by omega) zr_6 (by omega) ?_
  refine z_pushJ gp_143_10 ?_
  refine z_goto gi_143_11 ?_
  refine z_bret1 gi_143_15 gr_143 ?_
  show zW _ _ _ _ _ _ _ _ _ _
  refine z_if_eqF gi_112_4 zr_1 (by decide) ?_
  refine z_iload2 gi_112_7 ?_
  refine z_cS1 gi_112_8 (Nat.le_of_ble_eq_true rfl) gc_145_I ?_
  refine z_iload0 gi_145_0 ?_
  refine z_pushJ gp_145_1 ?_
  refine z_icmp_lt gi_145_2 (by omega) zr_1 (fun h1 => ?_) (fun h1 => ?_)
  · refine z_pushJ gp_145_15 ?_
    refine z_bret0 gi_145_16 gr_145 ?_
    show zW _ _ _ _ _ _ _ _ _ _
    refine z_if_eqT gi_112_11 zr_0 (by decide) ?_
    refine z_pushJ gp_112_21 ?_
    refine z_iret gi_112_22 gr_112 ?_
    refine ⟨_, rfl, ?_⟩
    show zW _ _ _ _ [some (.ref 50), some (zi s), some (zi q), some (zi v), none, none, none, none] _ _ _ _ _
    refine z_iload1 gi_202_0 ?_
    refine z_cS1 gi_202_1 (Nat.le_of_ble_eq_true rfl) gc_248_I ?_
    refine z_iload0 gi_248_0 ?_
    refine z_pushJ gp_248_1 ?_
    refine z_pushJ gp_248_2 ?_
    refine z_cS3 gi_248_3 (Nat.le_of_ble_eq_true rfl) gc_148_III ?_
    refine z_iload0 gi_148_0 ?_
    refine z_iload1 gi_148_1 ?_
    refine z_icmp_ltF gi_148_2 (by omega) zr_0 (by omega) ?_
    refine z_iload0 gi_148_5 ?_
    refine z_iload2 gi_148_6 ?_
    refine z_icmp_gtF gi_148_7 (by omega) zr_5 (by omega) ?_
    refine z_pushJ gp_148_10 ?_
    refine z_goto gi_148_11 ?_
    refine z_bret1 gi_148_15 gr_148 ?_
    show zW _ _ _ _ _ _ _ _ _ _
    refine z_bret1 gi_248_6 gr_248 ?_
    show zW _ _ _ _ _ _ _ _ _ _
    refine z_if_eqF gi_202_4 zr_1 (by decide) ?_
    refine z_iload2 gi_202_7 ?_
    refine z_pushJ gp_202_8 ?_
    refine z_pushJ gp_202_9 ?_
    refine z_cS3 gi_202_11 (Nat.le_of_ble_eq_true rfl) gc_148_III ?_
    refine z_iload0 gi_148_0 ?_
    refine z_iload1 gi_148_1 ?_
    refine z_icmp_ltT gi_148_2 (by omega) zr_1 (by omega) ?_
    refine z_pushJ gp_148_14 ?_
    refine z_bret0 gi_148_15 gr_148 ?_
    show zW _ _ _ _ _ _ _ _ _ _
    refine z_if_eqT gi_202_14 zr_0 (by decide) ?_
    refine z_pushJ gp_202_26 ?_
    refine z_iret gi_202_27 gr_202 ?_
    refine ⟨?_, ?_⟩
    · first | rfl | exact congrArg (fun v => some (zi v)) (by omega) | (exfalso; omega)
    · exact hr
  · refine z_iload0 gi_145_5 ?_
    refine z_pushJ gp_145_6 ?_
    refine z_icmp_gt gi_145_8 (by omega) zr_99 (fun h2 => ?_) (fun h2 => ?_)
    · refine z_pushJ gp_145_15 ?_
      refine z_bret0 gi_145_16 gr_145 ?_
      show zW _ _ _ _ _ _ _ _ _ _
      refine z_if_eqT gi_112_11 zr_0 (by decide) ?_
      refine z_pushJ gp_112_21 ?_
      refine z_iret gi_112_22 gr_112 ?_
      refine ⟨_, rfl, ?_⟩
      show zW _ _ _ _ [some (.ref 50), some (zi s), some (zi q), some (zi v), none, none, none, none] _ _ _ _ _
      refine z_iload1 gi_202_0 ?_
      refine z_cS1 gi_202_1 (Nat.le_of_ble_eq_true rfl) gc_248_I ?_
      refine z_iload0 gi_248_0 ?_
      refine z_pushJ gp_248_1 ?_
      refine z_pushJ gp_248_2 ?_
      refine z_cS3 gi_248_3 (Nat.le_of_ble_eq_true rfl) gc_148_III ?_
      refine z_iload0 gi_148_0 ?_
      refine z_iload1 gi_148_1 ?_
      refine z_icmp_ltF gi_148_2 (by omega) zr_0 (by omega) ?_
      refine z_iload0 gi_148_5 ?_
      refine z_iload2 gi_148_6 ?_
      refine z_icmp_gtF gi_148_7 (by omega) zr_5 (by omega) ?_
      refine z_pushJ gp_148_10 ?_
      refine z_goto gi_148_11 ?_
      refine z_bret1 gi_148_15 gr_148 ?_
      show zW _ _ _ _ _ _ _ _ _ _
      refine z_bret1 gi_248_6 gr_248 ?_
      show zW _ _ _ _ _ _ _ _ _ _
      refine z_if_eqF gi_202_4 zr_1 (by decide) ?_
      refine z_iload2 gi_202_7 ?_
      refine z_pushJ gp_202_8 ?_
      refine z_pushJ gp_202_9 ?_
      refine z_cS3 gi_202_11 (Nat.le_of_ble_eq_true rfl) gc_148_III ?_
      refine z_iload0 gi_148_0 ?_
      refine z_iload1 gi_148_1 ?_
      refine z_icmp_ltF gi_148_2 (by omega) zr_1 (by omega) ?_
      refine z_iload0 gi_148_5 ?_
      refine z_iload2 gi_148_6 ?_
      refine z_icmp_gtT gi_148_7 (by omega) zr_99 (by omega) ?_
      refine z_pushJ gp_148_14 ?_
      refine z_bret0 gi_148_15 gr_148 ?_
      show zW _ _ _ _ _ _ _ _ _ _
      refine z_if_eqT gi_202_14 zr_0 (by decide) ?_
      refine z_pushJ gp_202_26 ?_
      refine z_iret gi_202_27 gr_202 ?_
      refine ⟨?_, ?_⟩
      · first | rfl | exact congrArg (fun v => some (zi v)) (by omega) | (exfalso; omega)
      · exact hr
    · refine z_pushJ gp_145_11 ?_
      refine z_goto gi_145_12 ?_
      refine z_bret1 gi_145_16 gr_145 ?_
      show zW _ _ _ _ _ _ _ _ _ _
      refine z_if_eqF gi_112_11 zr_1 (by decide) ?_
      refine z_iload3 gi_112_14 ?_
      refine z_cS1 gi_112_15 (Nat.le_of_ble_eq_true rfl) gc_146_I ?_
      refine z_iload0 gi_146_0 ?_
      refine z_if_eq gi_146_1 (by omega) (fun h3 => ?_) (fun h3 => ?_)
      · refine z_pushJ gp_146_9 ?_
        refine z_goto gi_146_10 ?_
        refine z_bret1 gi_146_14 gr_146 ?_
        show zW _ _ _ _ _ _ _ _ _ _
        refine z_if_neT gi_112_18 zr_1 (by decide) ?_
        refine z_aload0 gi_112_23 ?_
        refine z_getR (r := 10) gi_112_24 gk_0 (hR _ rm_0_2) ?_
        refine z_aload0 gi_112_27 ?_
        refine z_getR (r := 37) gi_112_28 gk_0 (hR _ rm_0_11) ?_
        refine z_iload1 gi_112_31 ?_
        refine z_aald (r := 38 + 2 * s.toNat) gi_112_32 rfl (by decide) (by omega) (rr_shelf hR (by omega)) ?_
        refine z_callVi (As := [_]) (le := [some _, some _, none, none, none]) gi_112_33 rfl gk_10 (Nat.le_of_ble_eq_true rfl) (Nat.le_of_ble_eq_true rfl) rfl ?_
        refine z_aload1 gi_78_0 ?_
        refine z_callVi (As := []) (le := [some _]) gi_78_1 rfl (zk_shelf (by omega)) (Nat.le_of_ble_eq_true rfl) (Nat.le_of_ble_eq_true rfl) rfl ?_
        refine z_aload0 gi_69_0 ?_
        refine z_getI (v := 0) gi_69_1 (zk_shelf (by omega)) (hh) ?_
        refine z_if_neF gi_69_4 zr_0 (by decide) ?_
        refine z_pushJ gp_69_7 ?_
        refine z_iret gi_69_9 gr_69 ?_
        show zW _ _ _ _ _ _ _ _ _ _
        refine z_istore (ls1 := [some (.ref 10), some (.ref (38 + 2 * s.toNat)), some (zi (-11)), none, none]) gi_78_4 rfl ?_
        refine z_iload2 gi_78_5 ?_
        refine z_if_geF gi_78_6 zrn_11 (by decide) ?_
        refine z_iload2 gi_78_9 ?_
        refine z_iret gi_78_10 gr_78 ?_
        show zW _ _ _ _ _ _ _ _ _ _
        refine z_istore (ls1 := [some (.ref 0), some (zi s), some (zi q), some (zi v), some (zi (-11)), none, none, none, none]) gi_112_36 rfl ?_
        refine z_iload4 gi_112_38 ?_
        refine z_if_geF gi_112_40 zrn_11 (by decide) ?_
        refine z_iload4 gi_112_43 ?_
        refine z_iret gi_112_45 gr_112 ?_
        refine ⟨_, rfl, ?_⟩
        show zW _ _ _ _ [some (.ref 50), some (zi s), some (zi q), some (zi v), none, none, none, none] _ _ _ _ _
        refine z_iload1 gi_202_0 ?_
        refine z_cS1 gi_202_1 (Nat.le_of_ble_eq_true rfl) gc_248_I ?_
        refine z_iload0 gi_248_0 ?_
        refine z_pushJ gp_248_1 ?_
        refine z_pushJ gp_248_2 ?_
        refine z_cS3 gi_248_3 (Nat.le_of_ble_eq_true rfl) gc_148_III ?_
        refine z_iload0 gi_148_0 ?_
        refine z_iload1 gi_148_1 ?_
        refine z_icmp_ltF gi_148_2 (by omega) zr_0 (by omega) ?_
        refine z_iload0 gi_148_5 ?_
        refine z_iload2 gi_148_6 ?_
        refine z_icmp_gtF gi_148_7 (by omega) zr_5 (by omega) ?_
        refine z_pushJ gp_148_10 ?_
        refine z_goto gi_148_11 ?_
        refine z_bret1 gi_148_15 gr_148 ?_
        show zW _ _ _ _ _ _ _ _ _ _
        refine z_bret1 gi_248_6 gr_248 ?_
        show zW _ _ _ _ _ _ _ _ _ _
        refine z_if_eqF gi_202_4 zr_1 (by decide) ?_
        refine z_iload2 gi_202_7 ?_
        refine z_pushJ gp_202_8 ?_
        refine z_pushJ gp_202_9 ?_
        refine z_cS3 gi_202_11 (Nat.le_of_ble_eq_true rfl) gc_148_III ?_
        refine z_iload0 gi_148_0 ?_
        refine z_iload1 gi_148_1 ?_
        refine z_icmp_ltF gi_148_2 (by omega) zr_1 (by omega) ?_
        refine z_iload0 gi_148_5 ?_
        refine z_iload2 gi_148_6 ?_
        refine z_icmp_gtF gi_148_7 (by omega) zr_99 (by omega) ?_
        refine z_pushJ gp_148_10 ?_
        refine z_goto gi_148_11 ?_
        refine z_bret1 gi_148_15 gr_148 ?_
        show zW _ _ _ _ _ _ _ _ _ _
        refine z_if_eqF gi_202_14 zr_1 (by decide) ?_
        refine z_iload3 gi_202_17 ?_
        refine z_pushJ gp_202_18 ?_
        refine z_pushJ gp_202_19 ?_
        refine z_cS3 gi_202_20 (Nat.le_of_ble_eq_true rfl) gc_148_III ?_
        refine z_iload0 gi_148_0 ?_
        refine z_iload1 gi_148_1 ?_
        refine z_icmp_ltF gi_148_2 (by omega) zr_0 (by omega) ?_
        refine z_iload0 gi_148_5 ?_
        refine z_iload2 gi_148_6 ?_
        refine z_icmp_gtF gi_148_7 (by omega) zr_1 (by omega) ?_
        refine z_pushJ gp_148_10 ?_
        refine z_goto gi_148_11 ?_
        refine z_bret1 gi_148_15 gr_148 ?_
        show zW _ _ _ _ _ _ _ _ _ _
        refine z_if_neT gi_202_23 zr_1 (by decide) ?_
        refine z_aload0 gi_202_28 ?_
        refine z_iload1 gi_202_29 ?_
        refine z_cV1 gi_202_30 gk_50 go_192 (Nat.le_of_ble_eq_true rfl) gc_192_RI ?_
        refine z_aload0 gi_192_0 ?_
        refine z_getR (r := 83) gi_192_1 gk_50 (hRr _ rm_50_58 (by decide)) ?_
        refine z_iload1 gi_192_4 ?_
        refine z_iald (v := (-1)) gi_192_5 gk_83 (by decide) (by omega) (e83) ?_
        refine z_pushJ gp_192_6 ?_
        refine z_icmp_neF gi_192_7 zrn_1 zrn_1 (by decide) ?_
        refine z_pushJ gp_192_10 ?_
        refine z_goto gi_192_12 ?_
        refine z_iret gi_192_32 gr_192 ?_
        show zW _ _ _ _ _ _ _ _ _ _
        refine z_if_geF gi_202_33 zrn_11 (by decide) ?_
        refine z_aload0 gi_202_36 ?_
        refine z_iload1 gi_202_37 ?_
        refine z_cV1 gi_202_38 gk_50 go_192 (Nat.le_of_ble_eq_true rfl) gc_192_RI ?_
        refine z_aload0 gi_192_0 ?_
        refine z_getR (r := 83) gi_192_1 gk_50 (hRr _ rm_50_58 (by decide)) ?_
        refine z_iload1 gi_192_4 ?_
        refine z_iald (v := (-1)) gi_192_5 gk_83 (by decide) (by omega) (e83) ?_
        refine z_pushJ gp_192_6 ?_
        refine z_icmp_neF gi_192_7 zrn_1 zrn_1 (by decide) ?_
        refine z_pushJ gp_192_10 ?_
        refine z_goto gi_192_12 ?_
        refine z_iret gi_192_32 gr_192 ?_
        show zW _ _ _ _ _ _ _ _ _ _
        refine z_iret gi_202_41 gr_202 ?_
        refine ⟨?_, ?_⟩
        · first | rfl | exact congrArg (fun v => some (zi v)) (by omega) | (exfalso; omega)
        · exact hr
      · refine z_iload0 gi_146_4 ?_
        refine z_pushJ gp_146_5 ?_
        refine z_icmp_ne gi_146_6 (by omega) zr_1 (fun h4 => ?_) (fun h4 => ?_)
        · refine z_pushJ gp_146_13 ?_
          refine z_bret0 gi_146_14 gr_146 ?_
          show zW _ _ _ _ _ _ _ _ _ _
          refine z_if_neF gi_112_18 zr_0 (by decide) ?_
          refine z_pushJ gp_112_21 ?_
          refine z_iret gi_112_22 gr_112 ?_
          refine ⟨_, rfl, ?_⟩
          show zW _ _ _ _ [some (.ref 50), some (zi s), some (zi q), some (zi v), none, none, none, none] _ _ _ _ _
          refine z_iload1 gi_202_0 ?_
          refine z_cS1 gi_202_1 (Nat.le_of_ble_eq_true rfl) gc_248_I ?_
          refine z_iload0 gi_248_0 ?_
          refine z_pushJ gp_248_1 ?_
          refine z_pushJ gp_248_2 ?_
          refine z_cS3 gi_248_3 (Nat.le_of_ble_eq_true rfl) gc_148_III ?_
          refine z_iload0 gi_148_0 ?_
          refine z_iload1 gi_148_1 ?_
          refine z_icmp_ltF gi_148_2 (by omega) zr_0 (by omega) ?_
          refine z_iload0 gi_148_5 ?_
          refine z_iload2 gi_148_6 ?_
          refine z_icmp_gtF gi_148_7 (by omega) zr_5 (by omega) ?_
          refine z_pushJ gp_148_10 ?_
          refine z_goto gi_148_11 ?_
          refine z_bret1 gi_148_15 gr_148 ?_
          show zW _ _ _ _ _ _ _ _ _ _
          refine z_bret1 gi_248_6 gr_248 ?_
          show zW _ _ _ _ _ _ _ _ _ _
          refine z_if_eqF gi_202_4 zr_1 (by decide) ?_
          refine z_iload2 gi_202_7 ?_
          refine z_pushJ gp_202_8 ?_
          refine z_pushJ gp_202_9 ?_
          refine z_cS3 gi_202_11 (Nat.le_of_ble_eq_true rfl) gc_148_III ?_
          refine z_iload0 gi_148_0 ?_
          refine z_iload1 gi_148_1 ?_
          refine z_icmp_ltF gi_148_2 (by omega) zr_1 (by omega) ?_
          refine z_iload0 gi_148_5 ?_
          refine z_iload2 gi_148_6 ?_
          refine z_icmp_gtF gi_148_7 (by omega) zr_99 (by omega) ?_
          refine z_pushJ gp_148_10 ?_
          refine z_goto gi_148_11 ?_
          refine z_bret1 gi_148_15 gr_148 ?_
          show zW _ _ _ _ _ _ _ _ _ _
          refine z_if_eqF gi_202_14 zr_1 (by decide) ?_
          refine z_iload3 gi_202_17 ?_
          refine z_pushJ gp_202_18 ?_
          refine z_pushJ gp_202_19 ?_
          refine z_cS3 gi_202_20 (Nat.le_of_ble_eq_true rfl) gc_148_III ?_
          refine z_iload0 gi_148_0 ?_
          refine z_iload1 gi_148_1 ?_
          refine z_icmp_lt gi_148_2 (by omega) zr_0 (fun h5 => ?_) (fun h5 => ?_)
          · refine z_pushJ gp_148_14 ?_
            refine z_bret0 gi_148_15 gr_148 ?_
            show zW _ _ _ _ _ _ _ _ _ _
            refine z_if_neF gi_202_23 zr_0 (by decide) ?_
            refine z_pushJ gp_202_26 ?_
            refine z_iret gi_202_27 gr_202 ?_
            refine ⟨?_, ?_⟩
            · first | rfl | exact congrArg (fun v => some (zi v)) (by omega) | (exfalso; omega)
            · exact hr
          · refine z_iload0 gi_148_5 ?_
            refine z_iload2 gi_148_6 ?_
            refine z_icmp_gt gi_148_7 (by omega) zr_1 (fun h6 => ?_) (fun h6 => ?_)
            · refine z_pushJ gp_148_14 ?_
              refine z_bret0 gi_148_15 gr_148 ?_
              show zW _ _ _ _ _ _ _ _ _ _
              refine z_if_neF gi_202_23 zr_0 (by decide) ?_
              refine z_pushJ gp_202_26 ?_
              refine z_iret gi_202_27 gr_202 ?_
              refine ⟨?_, ?_⟩
              · first | rfl | exact congrArg (fun v => some (zi v)) (by omega) | (exfalso; omega)
              · exact hr
            · refine z_pushJ gp_148_10 ?_
              refine z_goto gi_148_11 ?_
              refine z_bret1 gi_148_15 gr_148 ?_
              show zW _ _ _ _ _ _ _ _ _ _
              refine z_if_neT gi_202_23 zr_1 (by decide) ?_
              refine z_aload0 gi_202_28 ?_
              refine z_iload1 gi_202_29 ?_
              refine z_cV1 gi_202_30 gk_50 go_192 (Nat.le_of_ble_eq_true rfl) gc_192_RI ?_
              refine z_aload0 gi_192_0 ?_
              refine z_getR (r := 83) gi_192_1 gk_50 (hRr _ rm_50_58 (by decide)) ?_
              refine z_iload1 gi_192_4 ?_
              refine z_iald (v := (-1)) gi_192_5 gk_83 (by decide) (by omega) (e83) ?_
              refine z_pushJ gp_192_6 ?_
              refine z_icmp_neF gi_192_7 zrn_1 zrn_1 (by decide) ?_
              refine z_pushJ gp_192_10 ?_
              refine z_goto gi_192_12 ?_
              refine z_iret gi_192_32 gr_192 ?_
              show zW _ _ _ _ _ _ _ _ _ _
              refine z_if_geF gi_202_33 zrn_11 (by decide) ?_
              refine z_aload0 gi_202_36 ?_
              refine z_iload1 gi_202_37 ?_
              refine z_cV1 gi_202_38 gk_50 go_192 (Nat.le_of_ble_eq_true rfl) gc_192_RI ?_
              refine z_aload0 gi_192_0 ?_
              refine z_getR (r := 83) gi_192_1 gk_50 (hRr _ rm_50_58 (by decide)) ?_
              refine z_iload1 gi_192_4 ?_
              refine z_iald (v := (-1)) gi_192_5 gk_83 (by decide) (by omega) (e83) ?_
              refine z_pushJ gp_192_6 ?_
              refine z_icmp_neF gi_192_7 zrn_1 zrn_1 (by decide) ?_
              refine z_pushJ gp_192_10 ?_
              refine z_goto gi_192_12 ?_
              refine z_iret gi_192_32 gr_192 ?_
              show zW _ _ _ _ _ _ _ _ _ _
              refine z_iret gi_202_41 gr_202 ?_
              refine ⟨?_, ?_⟩
              · first | rfl | exact congrArg (fun v => some (zi v)) (by omega) | (exfalso; omega)
              · exact hr
        · refine z_pushJ gp_146_9 ?_
          refine z_goto gi_146_10 ?_
          refine z_bret1 gi_146_14 gr_146 ?_
          show zW _ _ _ _ _ _ _ _ _ _
          refine z_if_neT gi_112_18 zr_1 (by decide) ?_
          refine z_aload0 gi_112_23 ?_
          refine z_getR (r := 10) gi_112_24 gk_0 (hR _ rm_0_2) ?_
          refine z_aload0 gi_112_27 ?_
          refine z_getR (r := 37) gi_112_28 gk_0 (hR _ rm_0_11) ?_
          refine z_iload1 gi_112_31 ?_
          refine z_aald (r := 38 + 2 * s.toNat) gi_112_32 rfl (by decide) (by omega) (rr_shelf hR (by omega)) ?_
          refine z_callVi (As := [_]) (le := [some _, some _, none, none, none]) gi_112_33 rfl gk_10 (Nat.le_of_ble_eq_true rfl) (Nat.le_of_ble_eq_true rfl) rfl ?_
          refine z_aload1 gi_78_0 ?_
          refine z_callVi (As := []) (le := [some _]) gi_78_1 rfl (zk_shelf (by omega)) (Nat.le_of_ble_eq_true rfl) (Nat.le_of_ble_eq_true rfl) rfl ?_
          refine z_aload0 gi_69_0 ?_
          refine z_getI (v := 0) gi_69_1 (zk_shelf (by omega)) (hh) ?_
          refine z_if_neF gi_69_4 zr_0 (by decide) ?_
          refine z_pushJ gp_69_7 ?_
          refine z_iret gi_69_9 gr_69 ?_
          show zW _ _ _ _ _ _ _ _ _ _
          refine z_istore (ls1 := [some (.ref 10), some (.ref (38 + 2 * s.toNat)), some (zi (-11)), none, none]) gi_78_4 rfl ?_
          refine z_iload2 gi_78_5 ?_
          refine z_if_geF gi_78_6 zrn_11 (by decide) ?_
          refine z_iload2 gi_78_9 ?_
          refine z_iret gi_78_10 gr_78 ?_
          show zW _ _ _ _ _ _ _ _ _ _
          refine z_istore (ls1 := [some (.ref 0), some (zi s), some (zi q), some (zi v), some (zi (-11)), none, none, none, none]) gi_112_36 rfl ?_
          refine z_iload4 gi_112_38 ?_
          refine z_if_geF gi_112_40 zrn_11 (by decide) ?_
          refine z_iload4 gi_112_43 ?_
          refine z_iret gi_112_45 gr_112 ?_
          refine ⟨_, rfl, ?_⟩
          show zW _ _ _ _ [some (.ref 50), some (zi s), some (zi q), some (zi v), none, none, none, none] _ _ _ _ _
          refine z_iload1 gi_202_0 ?_
          refine z_cS1 gi_202_1 (Nat.le_of_ble_eq_true rfl) gc_248_I ?_
          refine z_iload0 gi_248_0 ?_
          refine z_pushJ gp_248_1 ?_
          refine z_pushJ gp_248_2 ?_
          refine z_cS3 gi_248_3 (Nat.le_of_ble_eq_true rfl) gc_148_III ?_
          refine z_iload0 gi_148_0 ?_
          refine z_iload1 gi_148_1 ?_
          refine z_icmp_ltF gi_148_2 (by omega) zr_0 (by omega) ?_
          refine z_iload0 gi_148_5 ?_
          refine z_iload2 gi_148_6 ?_
          refine z_icmp_gtF gi_148_7 (by omega) zr_5 (by omega) ?_
          refine z_pushJ gp_148_10 ?_
          refine z_goto gi_148_11 ?_
          refine z_bret1 gi_148_15 gr_148 ?_
          show zW _ _ _ _ _ _ _ _ _ _
          refine z_bret1 gi_248_6 gr_248 ?_
          show zW _ _ _ _ _ _ _ _ _ _
          refine z_if_eqF gi_202_4 zr_1 (by decide) ?_
          refine z_iload2 gi_202_7 ?_
          refine z_pushJ gp_202_8 ?_
          refine z_pushJ gp_202_9 ?_
          refine z_cS3 gi_202_11 (Nat.le_of_ble_eq_true rfl) gc_148_III ?_
          refine z_iload0 gi_148_0 ?_
          refine z_iload1 gi_148_1 ?_
          refine z_icmp_ltF gi_148_2 (by omega) zr_1 (by omega) ?_
          refine z_iload0 gi_148_5 ?_
          refine z_iload2 gi_148_6 ?_
          refine z_icmp_gtF gi_148_7 (by omega) zr_99 (by omega) ?_
          refine z_pushJ gp_148_10 ?_
          refine z_goto gi_148_11 ?_
          refine z_bret1 gi_148_15 gr_148 ?_
          show zW _ _ _ _ _ _ _ _ _ _
          refine z_if_eqF gi_202_14 zr_1 (by decide) ?_
          refine z_iload3 gi_202_17 ?_
          refine z_pushJ gp_202_18 ?_
          refine z_pushJ gp_202_19 ?_
          refine z_cS3 gi_202_20 (Nat.le_of_ble_eq_true rfl) gc_148_III ?_
          refine z_iload0 gi_148_0 ?_
          refine z_iload1 gi_148_1 ?_
          refine z_icmp_ltF gi_148_2 (by omega) zr_0 (by omega) ?_
          refine z_iload0 gi_148_5 ?_
          refine z_iload2 gi_148_6 ?_
          refine z_icmp_gtF gi_148_7 (by omega) zr_1 (by omega) ?_
          refine z_pushJ gp_148_10 ?_
          refine z_goto gi_148_11 ?_
          refine z_bret1 gi_148_15 gr_148 ?_
          show zW _ _ _ _ _ _ _ _ _ _
          refine z_if_neT gi_202_23 zr_1 (by decide) ?_
          refine z_aload0 gi_202_28 ?_
          refine z_iload1 gi_202_29 ?_
          refine z_cV1 gi_202_30 gk_50 go_192 (Nat.le_of_ble_eq_true rfl) gc_192_RI ?_
          refine z_aload0 gi_192_0 ?_
          refine z_getR (r := 83) gi_192_1 gk_50 (hRr _ rm_50_58 (by decide)) ?_
          refine z_iload1 gi_192_4 ?_
          refine z_iald (v := (-1)) gi_192_5 gk_83 (by decide) (by omega) (e83) ?_
          refine z_pushJ gp_192_6 ?_
          refine z_icmp_neF gi_192_7 zrn_1 zrn_1 (by decide) ?_
          refine z_pushJ gp_192_10 ?_
          refine z_goto gi_192_12 ?_
          refine z_iret gi_192_32 gr_192 ?_
          show zW _ _ _ _ _ _ _ _ _ _
          refine z_if_geF gi_202_33 zrn_11 (by decide) ?_
          refine z_aload0 gi_202_36 ?_
          refine z_iload1 gi_202_37 ?_
          refine z_cV1 gi_202_38 gk_50 go_192 (Nat.le_of_ble_eq_true rfl) gc_192_RI ?_
          refine z_aload0 gi_192_0 ?_
          refine z_getR (r := 83) gi_192_1 gk_50 (hRr _ rm_50_58 (by decide)) ?_
          refine z_iload1 gi_192_4 ?_
          refine z_iald (v := (-1)) gi_192_5 gk_83 (by decide) (by omega) (e83) ?_
          refine z_pushJ gp_192_6 ?_
          refine z_icmp_neF gi_192_7 zrn_1 zrn_1 (by decide) ?_
          refine z_pushJ gp_192_10 ?_
          refine z_goto gi_192_12 ?_
          refine z_iret gi_192_32 gr_192 ?_
          show zW _ _ _ _ _ _ _ _ _ _
          refine z_iret gi_202_41 gr_202 ?_
          refine ⟨?_, ?_⟩
          · first | rfl | exact congrArg (fun v => some (zi v)) (by omega) | (exfalso; omega)
          · exact hr
theorem st_next_1 {X : Nat × (Nat → Int32)} {d : Nat} {J M : zA} {R : zR} {s q v : Int} (hr : Rel X J M R) (hs : -2147483648 ≤ s ∧ s < 2147483648) (hq : -2147483648 ≤ q ∧ q < 2147483648) (hv : -2147483648 ≤ v ∧ v < 2147483648) (hs6 : 0 ≤ s ∧ s < 6) (hh : J (38 + 2 * s.toNat) 0 = 1) : zW X (d + 20) 112 0 (gEn 112 [(.ref 0), (zi s), (zi q), (zi v)]) [] J M R (stP X (d + 20) 202 [(zi s), (zi q), (zi v)]) := by
  have hr0 := hr
  obtain ⟨hR, hG, hY, hD, hP, hC, hAc, hS, hTp, hX, hW⟩ := hr0
  have hRr : zRoR R := zRoR_of hR
  have hY0 := hY
  obtain ⟨y1, y2, y3⟩ := hY0
  have yn := zNn y3
  have hA0 := hAc
  obtain ⟨a1, a2, a3, a4, a5, a6⟩ := hA0
  have e83 : J 83 s = J (38 + 2 * s.toNat) 1 := (hS s hs6.1 hs6.2).1.symm.trans (cH_1 hh)
  have s3 : 0 ≤ J (38 + 2 * s.toNat) 2 ∧ J (38 + 2 * s.toNat) 2 ≤ 4 := (hS s hs6.1 hs6.2).2.2.1
  have s4 : 0 ≤ J (38 + 2 * s.toNat) 3 ∧ J (38 + 2 * s.toNat) 3 ≤ 60 := (hS s hs6.1 hs6.2).2.2.2.1
  have s5 : 0 ≤ J (38 + 2 * s.toNat) 1 ∧ J (38 + 2 * s.toNat) 1 < J 34 1 := (hS s hs6.1 hs6.2).2.2.2.2.1 hh
  show zW _ _ _ _ [some (.ref 0), some (zi s), some (zi q), some (zi v), none, none, none, none, none] _ _ _ _ _
  refine z_iload1 gi_112_0 ?_
  refine z_cS1 gi_112_1 (Nat.le_of_ble_eq_true rfl) gc_143_I ?_
  refine z_iload0 gi_143_0 ?_
  refine z_if_ltF gi_143_1 (by omega) (by omega) ?_
  refine z_iload0 gi_143_4 ?_
  refine z_pushJ gp_143_5 ?_
  refine z_icmp_geF gi_143_7 (by omega) zr_6 (by omega) ?_
  refine z_pushJ gp_143_10 ?_
  refine z_goto gi_143_11 ?_
  refine z_bret1 gi_143_15 gr_143 ?_
  show zW _ _ _ _ _ _ _ _ _ _
  refine z_if_eqF gi_112_4 zr_1 (by decide) ?_
  refine z_iload2 gi_112_7 ?_
  refine z_cS1 gi_112_8 (Nat.le_of_ble_eq_true rfl) gc_145_I ?_
  refine z_iload0 gi_145_0 ?_
  refine z_pushJ gp_145_1 ?_
  refine z_icmp_lt gi_145_2 (by omega) zr_1 (fun h1 => ?_) (fun h1 => ?_)
  · refine z_pushJ gp_145_15 ?_
    refine z_bret0 gi_145_16 gr_145 ?_
    show zW _ _ _ _ _ _ _ _ _ _
    refine z_if_eqT gi_112_11 zr_0 (by decide) ?_
    refine z_pushJ gp_112_21 ?_
    refine z_iret gi_112_22 gr_112 ?_
    refine ⟨_, rfl, ?_⟩
    show zW _ _ _ _ [some (.ref 50), some (zi s), some (zi q), some (zi v), none, none, none, none] _ _ _ _ _
    refine z_iload1 gi_202_0 ?_
    refine z_cS1 gi_202_1 (Nat.le_of_ble_eq_true rfl) gc_248_I ?_
    refine z_iload0 gi_248_0 ?_
    refine z_pushJ gp_248_1 ?_
    refine z_pushJ gp_248_2 ?_
    refine z_cS3 gi_248_3 (Nat.le_of_ble_eq_true rfl) gc_148_III ?_
    refine z_iload0 gi_148_0 ?_
    refine z_iload1 gi_148_1 ?_
    refine z_icmp_ltF gi_148_2 (by omega) zr_0 (by omega) ?_
    refine z_iload0 gi_148_5 ?_
    refine z_iload2 gi_148_6 ?_
    refine z_icmp_gtF gi_148_7 (by omega) zr_5 (by omega) ?_
    refine z_pushJ gp_148_10 ?_
    refine z_goto gi_148_11 ?_
    refine z_bret1 gi_148_15 gr_148 ?_
    show zW _ _ _ _ _ _ _ _ _ _
    refine z_bret1 gi_248_6 gr_248 ?_
    show zW _ _ _ _ _ _ _ _ _ _
    refine z_if_eqF gi_202_4 zr_1 (by decide) ?_
    refine z_iload2 gi_202_7 ?_
    refine z_pushJ gp_202_8 ?_
    refine z_pushJ gp_202_9 ?_
    refine z_cS3 gi_202_11 (Nat.le_of_ble_eq_true rfl) gc_148_III ?_
    refine z_iload0 gi_148_0 ?_
    refine z_iload1 gi_148_1 ?_
    refine z_icmp_ltT gi_148_2 (by omega) zr_1 (by omega) ?_
    refine z_pushJ gp_148_14 ?_
    refine z_bret0 gi_148_15 gr_148 ?_
    show zW _ _ _ _ _ _ _ _ _ _
    refine z_if_eqT gi_202_14 zr_0 (by decide) ?_
    refine z_pushJ gp_202_26 ?_
    refine z_iret gi_202_27 gr_202 ?_
    refine ⟨?_, ?_⟩
    · first | rfl | exact congrArg (fun v => some (zi v)) (by omega) | (exfalso; omega)
    · exact hr
  · refine z_iload0 gi_145_5 ?_
    refine z_pushJ gp_145_6 ?_
    refine z_icmp_gt gi_145_8 (by omega) zr_99 (fun h2 => ?_) (fun h2 => ?_)
    · refine z_pushJ gp_145_15 ?_
      refine z_bret0 gi_145_16 gr_145 ?_
      show zW _ _ _ _ _ _ _ _ _ _
      refine z_if_eqT gi_112_11 zr_0 (by decide) ?_
      refine z_pushJ gp_112_21 ?_
      refine z_iret gi_112_22 gr_112 ?_
      refine ⟨_, rfl, ?_⟩
      show zW _ _ _ _ [some (.ref 50), some (zi s), some (zi q), some (zi v), none, none, none, none] _ _ _ _ _
      refine z_iload1 gi_202_0 ?_
      refine z_cS1 gi_202_1 (Nat.le_of_ble_eq_true rfl) gc_248_I ?_
      refine z_iload0 gi_248_0 ?_
      refine z_pushJ gp_248_1 ?_
      refine z_pushJ gp_248_2 ?_
      refine z_cS3 gi_248_3 (Nat.le_of_ble_eq_true rfl) gc_148_III ?_
      refine z_iload0 gi_148_0 ?_
      refine z_iload1 gi_148_1 ?_
      refine z_icmp_ltF gi_148_2 (by omega) zr_0 (by omega) ?_
      refine z_iload0 gi_148_5 ?_
      refine z_iload2 gi_148_6 ?_
      refine z_icmp_gtF gi_148_7 (by omega) zr_5 (by omega) ?_
      refine z_pushJ gp_148_10 ?_
      refine z_goto gi_148_11 ?_
      refine z_bret1 gi_148_15 gr_148 ?_
      show zW _ _ _ _ _ _ _ _ _ _
      refine z_bret1 gi_248_6 gr_248 ?_
      show zW _ _ _ _ _ _ _ _ _ _
      refine z_if_eqF gi_202_4 zr_1 (by decide) ?_
      refine z_iload2 gi_202_7 ?_
      refine z_pushJ gp_202_8 ?_
      refine z_pushJ gp_202_9 ?_
      refine z_cS3 gi_202_11 (Nat.le_of_ble_eq_true rfl) gc_148_III ?_
      refine z_iload0 gi_148_0 ?_
      refine z_iload1 gi_148_1 ?_
      refine z_icmp_ltF gi_148_2 (by omega) zr_1 (by omega) ?_
      refine z_iload0 gi_148_5 ?_
      refine z_iload2 gi_148_6 ?_
      refine z_icmp_gtT gi_148_7 (by omega) zr_99 (by omega) ?_
      refine z_pushJ gp_148_14 ?_
      refine z_bret0 gi_148_15 gr_148 ?_
      show zW _ _ _ _ _ _ _ _ _ _
      refine z_if_eqT gi_202_14 zr_0 (by decide) ?_
      refine z_pushJ gp_202_26 ?_
      refine z_iret gi_202_27 gr_202 ?_
      refine ⟨?_, ?_⟩
      · first | rfl | exact congrArg (fun v => some (zi v)) (by omega) | (exfalso; omega)
      · exact hr
    · refine z_pushJ gp_145_11 ?_
      refine z_goto gi_145_12 ?_
      refine z_bret1 gi_145_16 gr_145 ?_
      show zW _ _ _ _ _ _ _ _ _ _
      refine z_if_eqF gi_112_11 zr_1 (by decide) ?_
      refine z_iload3 gi_112_14 ?_
      refine z_cS1 gi_112_15 (Nat.le_of_ble_eq_true rfl) gc_146_I ?_
      refine z_iload0 gi_146_0 ?_
      refine z_if_eq gi_146_1 (by omega) (fun h3 => ?_) (fun h3 => ?_)
      · refine z_pushJ gp_146_9 ?_
        refine z_goto gi_146_10 ?_
        refine z_bret1 gi_146_14 gr_146 ?_
        show zW _ _ _ _ _ _ _ _ _ _
        refine z_if_neT gi_112_18 zr_1 (by decide) ?_
        refine z_aload0 gi_112_23 ?_
        refine z_getR (r := 10) gi_112_24 gk_0 (hR _ rm_0_2) ?_
        refine z_aload0 gi_112_27 ?_
        refine z_getR (r := 37) gi_112_28 gk_0 (hR _ rm_0_11) ?_
        refine z_iload1 gi_112_31 ?_
        refine z_aald (r := 38 + 2 * s.toNat) gi_112_32 rfl (by decide) (by omega) (rr_shelf hR (by omega)) ?_
        refine z_callVi (As := [_]) (le := [some _, some _, none, none, none]) gi_112_33 rfl gk_10 (Nat.le_of_ble_eq_true rfl) (Nat.le_of_ble_eq_true rfl) rfl ?_
        refine z_aload1 gi_78_0 ?_
        refine z_callVi (As := []) (le := [some _]) gi_78_1 rfl (zk_shelf (by omega)) (Nat.le_of_ble_eq_true rfl) (Nat.le_of_ble_eq_true rfl) rfl ?_
        refine z_aload0 gi_69_0 ?_
        refine z_getI (v := 1) gi_69_1 (zk_shelf (by omega)) (hh) ?_
        refine z_if_neT gi_69_4 zr_1 (by decide) ?_
        refine z_aload0 gi_69_10 ?_
        refine z_callVi (As := []) (le := [some _]) gi_69_11 rfl (zk_shelf (by omega)) (Nat.le_of_ble_eq_true rfl) (Nat.le_of_ble_eq_true rfl) rfl ?_
        refine z_aload0 gi_64_0 ?_
        refine z_getI (v := 1) gi_64_1 (zk_shelf (by omega)) (hh) ?_
        refine z_pushJ gp_64_4 ?_
        refine z_icmp_neT gi_64_5 zr_1 zr_2 (by decide) ?_
        refine z_pushJ gp_64_19 ?_
        refine z_bret0 gi_64_20 gr_64 ?_
        show zW _ _ _ _ _ _ _ _ _ _
        refine z_if_eqT gi_69_14 zr_0 (by decide) ?_
        refine z_pushJ gp_69_21 ?_
        refine z_iret gi_69_23 gr_69 ?_
        show zW _ _ _ _ _ _ _ _ _ _
        refine z_istore (ls1 := [some (.ref 10), some (.ref (38 + 2 * s.toNat)), some (zi (-12)), none, none]) gi_78_4 rfl ?_
        refine z_iload2 gi_78_5 ?_
        refine z_if_geF gi_78_6 zrn_12 (by decide) ?_
        refine z_iload2 gi_78_9 ?_
        refine z_iret gi_78_10 gr_78 ?_
        show zW _ _ _ _ _ _ _ _ _ _
        refine z_istore (ls1 := [some (.ref 0), some (zi s), some (zi q), some (zi v), some (zi (-12)), none, none, none, none]) gi_112_36 rfl ?_
        refine z_iload4 gi_112_38 ?_
        refine z_if_geF gi_112_40 zrn_12 (by decide) ?_
        refine z_iload4 gi_112_43 ?_
        refine z_iret gi_112_45 gr_112 ?_
        refine ⟨_, rfl, ?_⟩
        show zW _ _ _ _ [some (.ref 50), some (zi s), some (zi q), some (zi v), none, none, none, none] _ _ _ _ _
        refine z_iload1 gi_202_0 ?_
        refine z_cS1 gi_202_1 (Nat.le_of_ble_eq_true rfl) gc_248_I ?_
        refine z_iload0 gi_248_0 ?_
        refine z_pushJ gp_248_1 ?_
        refine z_pushJ gp_248_2 ?_
        refine z_cS3 gi_248_3 (Nat.le_of_ble_eq_true rfl) gc_148_III ?_
        refine z_iload0 gi_148_0 ?_
        refine z_iload1 gi_148_1 ?_
        refine z_icmp_ltF gi_148_2 (by omega) zr_0 (by omega) ?_
        refine z_iload0 gi_148_5 ?_
        refine z_iload2 gi_148_6 ?_
        refine z_icmp_gtF gi_148_7 (by omega) zr_5 (by omega) ?_
        refine z_pushJ gp_148_10 ?_
        refine z_goto gi_148_11 ?_
        refine z_bret1 gi_148_15 gr_148 ?_
        show zW _ _ _ _ _ _ _ _ _ _
        refine z_bret1 gi_248_6 gr_248 ?_
        show zW _ _ _ _ _ _ _ _ _ _
        refine z_if_eqF gi_202_4 zr_1 (by decide) ?_
        refine z_iload2 gi_202_7 ?_
        refine z_pushJ gp_202_8 ?_
        refine z_pushJ gp_202_9 ?_
        refine z_cS3 gi_202_11 (Nat.le_of_ble_eq_true rfl) gc_148_III ?_
        refine z_iload0 gi_148_0 ?_
        refine z_iload1 gi_148_1 ?_
        refine z_icmp_ltF gi_148_2 (by omega) zr_1 (by omega) ?_
        refine z_iload0 gi_148_5 ?_
        refine z_iload2 gi_148_6 ?_
        refine z_icmp_gtF gi_148_7 (by omega) zr_99 (by omega) ?_
        refine z_pushJ gp_148_10 ?_
        refine z_goto gi_148_11 ?_
        refine z_bret1 gi_148_15 gr_148 ?_
        show zW _ _ _ _ _ _ _ _ _ _
        refine z_if_eqF gi_202_14 zr_1 (by decide) ?_
        refine z_iload3 gi_202_17 ?_
        refine z_pushJ gp_202_18 ?_
        refine z_pushJ gp_202_19 ?_
        refine z_cS3 gi_202_20 (Nat.le_of_ble_eq_true rfl) gc_148_III ?_
        refine z_iload0 gi_148_0 ?_
        refine z_iload1 gi_148_1 ?_
        refine z_icmp_ltF gi_148_2 (by omega) zr_0 (by omega) ?_
        refine z_iload0 gi_148_5 ?_
        refine z_iload2 gi_148_6 ?_
        refine z_icmp_gtF gi_148_7 (by omega) zr_1 (by omega) ?_
        refine z_pushJ gp_148_10 ?_
        refine z_goto gi_148_11 ?_
        refine z_bret1 gi_148_15 gr_148 ?_
        show zW _ _ _ _ _ _ _ _ _ _
        refine z_if_neT gi_202_23 zr_1 (by decide) ?_
        refine z_aload0 gi_202_28 ?_
        refine z_iload1 gi_202_29 ?_
        refine z_cV1 gi_202_30 gk_50 go_192 (Nat.le_of_ble_eq_true rfl) gc_192_RI ?_
        refine z_aload0 gi_192_0 ?_
        refine z_getR (r := 83) gi_192_1 gk_50 (hRr _ rm_50_58 (by decide)) ?_
        refine z_iload1 gi_192_4 ?_
        refine z_iald (v := J (38 + 2 * s.toNat) 1) gi_192_5 gk_83 (by decide) (by omega) (e83) ?_
        refine z_pushJ gp_192_6 ?_
        refine z_icmp_ne gi_192_7 (by omega) zrn_1 (fun h4 => ?_) (fun h4 => ?_)
        · refine z_aload0 gi_192_15 ?_
          refine z_getR (r := 83) gi_192_16 gk_50 (hRr _ rm_50_58 (by decide)) ?_
          refine z_iload1 gi_192_19 ?_
          refine z_iald (v := J (38 + 2 * s.toNat) 1) gi_192_20 gk_83 (by decide) (by omega) (e83) ?_
          refine z_pushJ gp_192_21 ?_
          refine z_icmp_ne gi_192_23 (by omega) zrn_2 (fun h5 => ?_) (fun h5 => ?_)
          · refine z_pushJ gp_192_30 ?_
            refine z_iret gi_192_32 gr_192 ?_
            show zW _ _ _ _ _ _ _ _ _ _
            refine z_if_geF gi_202_33 zrn_12 (by decide) ?_
            refine z_aload0 gi_202_36 ?_
            refine z_iload1 gi_202_37 ?_
            refine z_cV1 gi_202_38 gk_50 go_192 (Nat.le_of_ble_eq_true rfl) gc_192_RI ?_
            refine z_aload0 gi_192_0 ?_
            refine z_getR (r := 83) gi_192_1 gk_50 (hRr _ rm_50_58 (by decide)) ?_
            refine z_iload1 gi_192_4 ?_
            refine z_iald (v := J (38 + 2 * s.toNat) 1) gi_192_5 gk_83 (by decide) (by omega) (e83) ?_
            refine z_pushJ gp_192_6 ?_
            refine z_icmp_ne gi_192_7 (by omega) zrn_1 (fun h6 => ?_) (fun h6 => ?_)
            · refine z_aload0 gi_192_15 ?_
              refine z_getR (r := 83) gi_192_16 gk_50 (hRr _ rm_50_58 (by decide)) ?_
              refine z_iload1 gi_192_19 ?_
              refine z_iald (v := J (38 + 2 * s.toNat) 1) gi_192_20 gk_83 (by decide) (by omega) (e83) ?_
              refine z_pushJ gp_192_21 ?_
              refine z_icmp_ne gi_192_23 (by omega) zrn_2 (fun h7 => ?_) (fun h7 => ?_)
              · refine z_pushJ gp_192_30 ?_
                refine z_iret gi_192_32 gr_192 ?_
                show zW _ _ _ _ _ _ _ _ _ _
                refine z_iret gi_202_41 gr_202 ?_
                refine ⟨?_, ?_⟩
                · first | rfl | exact congrArg (fun v => some (zi v)) (by omega) | (exfalso; omega)
                · exact hr
              · refine z_pushJ gp_192_26 ?_
                refine z_goto gi_192_27 ?_
                refine z_iret gi_192_32 gr_192 ?_
                show zW _ _ _ _ _ _ _ _ _ _
                refine z_iret gi_202_41 gr_202 ?_
                refine ⟨?_, ?_⟩
                · first | rfl | exact congrArg (fun v => some (zi v)) (by omega) | (exfalso; omega)
                · exact hr
            · refine z_pushJ gp_192_10 ?_
              refine z_goto gi_192_12 ?_
              refine z_iret gi_192_32 gr_192 ?_
              show zW _ _ _ _ _ _ _ _ _ _
              refine z_iret gi_202_41 gr_202 ?_
              refine ⟨?_, ?_⟩
              · first | rfl | exact congrArg (fun v => some (zi v)) (by omega) | (exfalso; omega)
              · exact hr
          · refine z_pushJ gp_192_26 ?_
            refine z_goto gi_192_27 ?_
            refine z_iret gi_192_32 gr_192 ?_
            show zW _ _ _ _ _ _ _ _ _ _
            refine z_if_geT gi_202_33 zr_0 (by decide) ?_
            refine z_aload0 gi_202_42 ?_
            refine z_iload1 gi_202_43 ?_
            refine z_pushJ gp_202_44 ?_
            exfalso
            omega
        · refine z_pushJ gp_192_10 ?_
          refine z_goto gi_192_12 ?_
          refine z_iret gi_192_32 gr_192 ?_
          show zW _ _ _ _ _ _ _ _ _ _
          refine z_if_geF gi_202_33 zrn_11 (by decide) ?_
          refine z_aload0 gi_202_36 ?_
          refine z_iload1 gi_202_37 ?_
          refine z_cV1 gi_202_38 gk_50 go_192 (Nat.le_of_ble_eq_true rfl) gc_192_RI ?_
          refine z_aload0 gi_192_0 ?_
          refine z_getR (r := 83) gi_192_1 gk_50 (hRr _ rm_50_58 (by decide)) ?_
          refine z_iload1 gi_192_4 ?_
          refine z_iald (v := J (38 + 2 * s.toNat) 1) gi_192_5 gk_83 (by decide) (by omega) (e83) ?_
          refine z_pushJ gp_192_6 ?_
          refine z_icmp_neF gi_192_7 (by omega) zrn_1 (by omega) ?_
          refine z_pushJ gp_192_10 ?_
          refine z_goto gi_192_12 ?_
          refine z_iret gi_192_32 gr_192 ?_
          show zW _ _ _ _ _ _ _ _ _ _
          refine z_iret gi_202_41 gr_202 ?_
          refine ⟨?_, ?_⟩
          · first | rfl | exact congrArg (fun v => some (zi v)) (by omega) | (exfalso; omega)
          · exact hr
      · refine z_iload0 gi_146_4 ?_
        refine z_pushJ gp_146_5 ?_
        refine z_icmp_ne gi_146_6 (by omega) zr_1 (fun h4 => ?_) (fun h4 => ?_)
        · refine z_pushJ gp_146_13 ?_
          refine z_bret0 gi_146_14 gr_146 ?_
          show zW _ _ _ _ _ _ _ _ _ _
          refine z_if_neF gi_112_18 zr_0 (by decide) ?_
          refine z_pushJ gp_112_21 ?_
          refine z_iret gi_112_22 gr_112 ?_
          refine ⟨_, rfl, ?_⟩
          show zW _ _ _ _ [some (.ref 50), some (zi s), some (zi q), some (zi v), none, none, none, none] _ _ _ _ _
          refine z_iload1 gi_202_0 ?_
          refine z_cS1 gi_202_1 (Nat.le_of_ble_eq_true rfl) gc_248_I ?_
          refine z_iload0 gi_248_0 ?_
          refine z_pushJ gp_248_1 ?_
          refine z_pushJ gp_248_2 ?_
          refine z_cS3 gi_248_3 (Nat.le_of_ble_eq_true rfl) gc_148_III ?_
          refine z_iload0 gi_148_0 ?_
          refine z_iload1 gi_148_1 ?_
          refine z_icmp_ltF gi_148_2 (by omega) zr_0 (by omega) ?_
          refine z_iload0 gi_148_5 ?_
          refine z_iload2 gi_148_6 ?_
          refine z_icmp_gtF gi_148_7 (by omega) zr_5 (by omega) ?_
          refine z_pushJ gp_148_10 ?_
          refine z_goto gi_148_11 ?_
          refine z_bret1 gi_148_15 gr_148 ?_
          show zW _ _ _ _ _ _ _ _ _ _
          refine z_bret1 gi_248_6 gr_248 ?_
          show zW _ _ _ _ _ _ _ _ _ _
          refine z_if_eqF gi_202_4 zr_1 (by decide) ?_
          refine z_iload2 gi_202_7 ?_
          refine z_pushJ gp_202_8 ?_
          refine z_pushJ gp_202_9 ?_
          refine z_cS3 gi_202_11 (Nat.le_of_ble_eq_true rfl) gc_148_III ?_
          refine z_iload0 gi_148_0 ?_
          refine z_iload1 gi_148_1 ?_
          refine z_icmp_ltF gi_148_2 (by omega) zr_1 (by omega) ?_
          refine z_iload0 gi_148_5 ?_
          refine z_iload2 gi_148_6 ?_
          refine z_icmp_gtF gi_148_7 (by omega) zr_99 (by omega) ?_
          refine z_pushJ gp_148_10 ?_
          refine z_goto gi_148_11 ?_
          refine z_bret1 gi_148_15 gr_148 ?_
          show zW _ _ _ _ _ _ _ _ _ _
          refine z_if_eqF gi_202_14 zr_1 (by decide) ?_
          refine z_iload3 gi_202_17 ?_
          refine z_pushJ gp_202_18 ?_
          refine z_pushJ gp_202_19 ?_
          refine z_cS3 gi_202_20 (Nat.le_of_ble_eq_true rfl) gc_148_III ?_
          refine z_iload0 gi_148_0 ?_
          refine z_iload1 gi_148_1 ?_
          refine z_icmp_lt gi_148_2 (by omega) zr_0 (fun h5 => ?_) (fun h5 => ?_)
          · refine z_pushJ gp_148_14 ?_
            refine z_bret0 gi_148_15 gr_148 ?_
            show zW _ _ _ _ _ _ _ _ _ _
            refine z_if_neF gi_202_23 zr_0 (by decide) ?_
            refine z_pushJ gp_202_26 ?_
            refine z_iret gi_202_27 gr_202 ?_
            refine ⟨?_, ?_⟩
            · first | rfl | exact congrArg (fun v => some (zi v)) (by omega) | (exfalso; omega)
            · exact hr
          · refine z_iload0 gi_148_5 ?_
            refine z_iload2 gi_148_6 ?_
            refine z_icmp_gt gi_148_7 (by omega) zr_1 (fun h6 => ?_) (fun h6 => ?_)
            · refine z_pushJ gp_148_14 ?_
              refine z_bret0 gi_148_15 gr_148 ?_
              show zW _ _ _ _ _ _ _ _ _ _
              refine z_if_neF gi_202_23 zr_0 (by decide) ?_
              refine z_pushJ gp_202_26 ?_
              refine z_iret gi_202_27 gr_202 ?_
              refine ⟨?_, ?_⟩
              · first | rfl | exact congrArg (fun v => some (zi v)) (by omega) | (exfalso; omega)
              · exact hr
            · refine z_pushJ gp_148_10 ?_
              refine z_goto gi_148_11 ?_
              refine z_bret1 gi_148_15 gr_148 ?_
              show zW _ _ _ _ _ _ _ _ _ _
              refine z_if_neT gi_202_23 zr_1 (by decide) ?_
              refine z_aload0 gi_202_28 ?_
              refine z_iload1 gi_202_29 ?_
              refine z_cV1 gi_202_30 gk_50 go_192 (Nat.le_of_ble_eq_true rfl) gc_192_RI ?_
              refine z_aload0 gi_192_0 ?_
              refine z_getR (r := 83) gi_192_1 gk_50 (hRr _ rm_50_58 (by decide)) ?_
              refine z_iload1 gi_192_4 ?_
              refine z_iald (v := J (38 + 2 * s.toNat) 1) gi_192_5 gk_83 (by decide) (by omega) (e83) ?_
              refine z_pushJ gp_192_6 ?_
              refine z_icmp_ne gi_192_7 (by omega) zrn_1 (fun h7 => ?_) (fun h7 => ?_)
              · refine z_aload0 gi_192_15 ?_
                refine z_getR (r := 83) gi_192_16 gk_50 (hRr _ rm_50_58 (by decide)) ?_
                refine z_iload1 gi_192_19 ?_
                refine z_iald (v := J (38 + 2 * s.toNat) 1) gi_192_20 gk_83 (by decide) (by omega) (e83) ?_
                refine z_pushJ gp_192_21 ?_
                refine z_icmp_ne gi_192_23 (by omega) zrn_2 (fun h8 => ?_) (fun h8 => ?_)
                · refine z_pushJ gp_192_30 ?_
                  refine z_iret gi_192_32 gr_192 ?_
                  show zW _ _ _ _ _ _ _ _ _ _
                  refine z_if_geF gi_202_33 zrn_12 (by decide) ?_
                  refine z_aload0 gi_202_36 ?_
                  refine z_iload1 gi_202_37 ?_
                  refine z_cV1 gi_202_38 gk_50 go_192 (Nat.le_of_ble_eq_true rfl) gc_192_RI ?_
                  refine z_aload0 gi_192_0 ?_
                  refine z_getR (r := 83) gi_192_1 gk_50 (hRr _ rm_50_58 (by decide)) ?_
                  refine z_iload1 gi_192_4 ?_
                  refine z_iald (v := J (38 + 2 * s.toNat) 1) gi_192_5 gk_83 (by decide) (by omega) (e83) ?_
                  refine z_pushJ gp_192_6 ?_
                  refine z_icmp_ne gi_192_7 (by omega) zrn_1 (fun h9 => ?_) (fun h9 => ?_)
                  · refine z_aload0 gi_192_15 ?_
                    refine z_getR (r := 83) gi_192_16 gk_50 (hRr _ rm_50_58 (by decide)) ?_
                    refine z_iload1 gi_192_19 ?_
                    refine z_iald (v := J (38 + 2 * s.toNat) 1) gi_192_20 gk_83 (by decide) (by omega) (e83) ?_
                    refine z_pushJ gp_192_21 ?_
                    refine z_icmp_ne gi_192_23 (by omega) zrn_2 (fun h10 => ?_) (fun h10 => ?_)
                    · refine z_pushJ gp_192_30 ?_
                      refine z_iret gi_192_32 gr_192 ?_
                      show zW _ _ _ _ _ _ _ _ _ _
                      refine z_iret gi_202_41 gr_202 ?_
                      refine ⟨?_, ?_⟩
                      · first | rfl | exact congrArg (fun v => some (zi v)) (by omega) | (exfalso; omega)
                      · exact hr
                    · refine z_pushJ gp_192_26 ?_
                      refine z_goto gi_192_27 ?_
                      refine z_iret gi_192_32 gr_192 ?_
                      show zW _ _ _ _ _ _ _ _ _ _
                      refine z_iret gi_202_41 gr_202 ?_
                      refine ⟨?_, ?_⟩
                      · first | rfl | exact congrArg (fun v => some (zi v)) (by omega) | (exfalso; omega)
                      · exact hr
                  · refine z_pushJ gp_192_10 ?_
                    refine z_goto gi_192_12 ?_
                    refine z_iret gi_192_32 gr_192 ?_
                    show zW _ _ _ _ _ _ _ _ _ _
                    refine z_iret gi_202_41 gr_202 ?_
                    refine ⟨?_, ?_⟩
                    · first | rfl | exact congrArg (fun v => some (zi v)) (by omega) | (exfalso; omega)
                    · exact hr
                · refine z_pushJ gp_192_26 ?_
                  refine z_goto gi_192_27 ?_
                  refine z_iret gi_192_32 gr_192 ?_
                  show zW _ _ _ _ _ _ _ _ _ _
                  refine z_if_geT gi_202_33 zr_0 (by decide) ?_
                  refine z_aload0 gi_202_42 ?_
                  refine z_iload1 gi_202_43 ?_
                  refine z_pushJ gp_202_44 ?_
                  exfalso
                  omega
              · refine z_pushJ gp_192_10 ?_
                refine z_goto gi_192_12 ?_
                refine z_iret gi_192_32 gr_192 ?_
                show zW _ _ _ _ _ _ _ _ _ _
                refine z_if_geF gi_202_33 zrn_11 (by decide) ?_
                refine z_aload0 gi_202_36 ?_
                refine z_iload1 gi_202_37 ?_
                refine z_cV1 gi_202_38 gk_50 go_192 (Nat.le_of_ble_eq_true rfl) gc_192_RI ?_
                refine z_aload0 gi_192_0 ?_
                refine z_getR (r := 83) gi_192_1 gk_50 (hRr _ rm_50_58 (by decide)) ?_
                refine z_iload1 gi_192_4 ?_
                refine z_iald (v := J (38 + 2 * s.toNat) 1) gi_192_5 gk_83 (by decide) (by omega) (e83) ?_
                refine z_pushJ gp_192_6 ?_
                refine z_icmp_neF gi_192_7 (by omega) zrn_1 (by omega) ?_
                refine z_pushJ gp_192_10 ?_
                refine z_goto gi_192_12 ?_
                refine z_iret gi_192_32 gr_192 ?_
                show zW _ _ _ _ _ _ _ _ _ _
                refine z_iret gi_202_41 gr_202 ?_
                refine ⟨?_, ?_⟩
                · first | rfl | exact congrArg (fun v => some (zi v)) (by omega) | (exfalso; omega)
                · exact hr
        · refine z_pushJ gp_146_9 ?_
          refine z_goto gi_146_10 ?_
          refine z_bret1 gi_146_14 gr_146 ?_
          show zW _ _ _ _ _ _ _ _ _ _
          refine z_if_neT gi_112_18 zr_1 (by decide) ?_
          refine z_aload0 gi_112_23 ?_
          refine z_getR (r := 10) gi_112_24 gk_0 (hR _ rm_0_2) ?_
          refine z_aload0 gi_112_27 ?_
          refine z_getR (r := 37) gi_112_28 gk_0 (hR _ rm_0_11) ?_
          refine z_iload1 gi_112_31 ?_
          refine z_aald (r := 38 + 2 * s.toNat) gi_112_32 rfl (by decide) (by omega) (rr_shelf hR (by omega)) ?_
          refine z_callVi (As := [_]) (le := [some _, some _, none, none, none]) gi_112_33 rfl gk_10 (Nat.le_of_ble_eq_true rfl) (Nat.le_of_ble_eq_true rfl) rfl ?_
          refine z_aload1 gi_78_0 ?_
          refine z_callVi (As := []) (le := [some _]) gi_78_1 rfl (zk_shelf (by omega)) (Nat.le_of_ble_eq_true rfl) (Nat.le_of_ble_eq_true rfl) rfl ?_
          refine z_aload0 gi_69_0 ?_
          refine z_getI (v := 1) gi_69_1 (zk_shelf (by omega)) (hh) ?_
          refine z_if_neT gi_69_4 zr_1 (by decide) ?_
          refine z_aload0 gi_69_10 ?_
          refine z_callVi (As := []) (le := [some _]) gi_69_11 rfl (zk_shelf (by omega)) (Nat.le_of_ble_eq_true rfl) (Nat.le_of_ble_eq_true rfl) rfl ?_
          refine z_aload0 gi_64_0 ?_
          refine z_getI (v := 1) gi_64_1 (zk_shelf (by omega)) (hh) ?_
          refine z_pushJ gp_64_4 ?_
          refine z_icmp_neT gi_64_5 zr_1 zr_2 (by decide) ?_
          refine z_pushJ gp_64_19 ?_
          refine z_bret0 gi_64_20 gr_64 ?_
          show zW _ _ _ _ _ _ _ _ _ _
          refine z_if_eqT gi_69_14 zr_0 (by decide) ?_
          refine z_pushJ gp_69_21 ?_
          refine z_iret gi_69_23 gr_69 ?_
          show zW _ _ _ _ _ _ _ _ _ _
          refine z_istore (ls1 := [some (.ref 10), some (.ref (38 + 2 * s.toNat)), some (zi (-12)), none, none]) gi_78_4 rfl ?_
          refine z_iload2 gi_78_5 ?_
          refine z_if_geF gi_78_6 zrn_12 (by decide) ?_
          refine z_iload2 gi_78_9 ?_
          refine z_iret gi_78_10 gr_78 ?_
          show zW _ _ _ _ _ _ _ _ _ _
          refine z_istore (ls1 := [some (.ref 0), some (zi s), some (zi q), some (zi v), some (zi (-12)), none, none, none, none]) gi_112_36 rfl ?_
          refine z_iload4 gi_112_38 ?_
          refine z_if_geF gi_112_40 zrn_12 (by decide) ?_
          refine z_iload4 gi_112_43 ?_
          refine z_iret gi_112_45 gr_112 ?_
          refine ⟨_, rfl, ?_⟩
          show zW _ _ _ _ [some (.ref 50), some (zi s), some (zi q), some (zi v), none, none, none, none] _ _ _ _ _
          refine z_iload1 gi_202_0 ?_
          refine z_cS1 gi_202_1 (Nat.le_of_ble_eq_true rfl) gc_248_I ?_
          refine z_iload0 gi_248_0 ?_
          refine z_pushJ gp_248_1 ?_
          refine z_pushJ gp_248_2 ?_
          refine z_cS3 gi_248_3 (Nat.le_of_ble_eq_true rfl) gc_148_III ?_
          refine z_iload0 gi_148_0 ?_
          refine z_iload1 gi_148_1 ?_
          refine z_icmp_ltF gi_148_2 (by omega) zr_0 (by omega) ?_
          refine z_iload0 gi_148_5 ?_
          refine z_iload2 gi_148_6 ?_
          refine z_icmp_gtF gi_148_7 (by omega) zr_5 (by omega) ?_
          refine z_pushJ gp_148_10 ?_
          refine z_goto gi_148_11 ?_
          refine z_bret1 gi_148_15 gr_148 ?_
          show zW _ _ _ _ _ _ _ _ _ _
          refine z_bret1 gi_248_6 gr_248 ?_
          show zW _ _ _ _ _ _ _ _ _ _
          refine z_if_eqF gi_202_4 zr_1 (by decide) ?_
          refine z_iload2 gi_202_7 ?_
          refine z_pushJ gp_202_8 ?_
          refine z_pushJ gp_202_9 ?_
          refine z_cS3 gi_202_11 (Nat.le_of_ble_eq_true rfl) gc_148_III ?_
          refine z_iload0 gi_148_0 ?_
          refine z_iload1 gi_148_1 ?_
          refine z_icmp_ltF gi_148_2 (by omega) zr_1 (by omega) ?_
          refine z_iload0 gi_148_5 ?_
          refine z_iload2 gi_148_6 ?_
          refine z_icmp_gtF gi_148_7 (by omega) zr_99 (by omega) ?_
          refine z_pushJ gp_148_10 ?_
          refine z_goto gi_148_11 ?_
          refine z_bret1 gi_148_15 gr_148 ?_
          show zW _ _ _ _ _ _ _ _ _ _
          refine z_if_eqF gi_202_14 zr_1 (by decide) ?_
          refine z_iload3 gi_202_17 ?_
          refine z_pushJ gp_202_18 ?_
          refine z_pushJ gp_202_19 ?_
          refine z_cS3 gi_202_20 (Nat.le_of_ble_eq_true rfl) gc_148_III ?_
          refine z_iload0 gi_148_0 ?_
          refine z_iload1 gi_148_1 ?_
          refine z_icmp_ltF gi_148_2 (by omega) zr_0 (by omega) ?_
          refine z_iload0 gi_148_5 ?_
          refine z_iload2 gi_148_6 ?_
          refine z_icmp_gtF gi_148_7 (by omega) zr_1 (by omega) ?_
          refine z_pushJ gp_148_10 ?_
          refine z_goto gi_148_11 ?_
          refine z_bret1 gi_148_15 gr_148 ?_
          show zW _ _ _ _ _ _ _ _ _ _
          refine z_if_neT gi_202_23 zr_1 (by decide) ?_
          refine z_aload0 gi_202_28 ?_
          refine z_iload1 gi_202_29 ?_
          refine z_cV1 gi_202_30 gk_50 go_192 (Nat.le_of_ble_eq_true rfl) gc_192_RI ?_
          refine z_aload0 gi_192_0 ?_
          refine z_getR (r := 83) gi_192_1 gk_50 (hRr _ rm_50_58 (by decide)) ?_
          refine z_iload1 gi_192_4 ?_
          refine z_iald (v := J (38 + 2 * s.toNat) 1) gi_192_5 gk_83 (by decide) (by omega) (e83) ?_
          refine z_pushJ gp_192_6 ?_
          refine z_icmp_ne gi_192_7 (by omega) zrn_1 (fun h5 => ?_) (fun h5 => ?_)
          · refine z_aload0 gi_192_15 ?_
            refine z_getR (r := 83) gi_192_16 gk_50 (hRr _ rm_50_58 (by decide)) ?_
            refine z_iload1 gi_192_19 ?_
            refine z_iald (v := J (38 + 2 * s.toNat) 1) gi_192_20 gk_83 (by decide) (by omega) (e83) ?_
            refine z_pushJ gp_192_21 ?_
            refine z_icmp_ne gi_192_23 (by omega) zrn_2 (fun h6 => ?_) (fun h6 => ?_)
            · refine z_pushJ gp_192_30 ?_
              refine z_iret gi_192_32 gr_192 ?_
              show zW _ _ _ _ _ _ _ _ _ _
              refine z_if_geF gi_202_33 zrn_12 (by decide) ?_
              refine z_aload0 gi_202_36 ?_
              refine z_iload1 gi_202_37 ?_
              refine z_cV1 gi_202_38 gk_50 go_192 (Nat.le_of_ble_eq_true rfl) gc_192_RI ?_
              refine z_aload0 gi_192_0 ?_
              refine z_getR (r := 83) gi_192_1 gk_50 (hRr _ rm_50_58 (by decide)) ?_
              refine z_iload1 gi_192_4 ?_
              refine z_iald (v := J (38 + 2 * s.toNat) 1) gi_192_5 gk_83 (by decide) (by omega) (e83) ?_
              refine z_pushJ gp_192_6 ?_
              refine z_icmp_ne gi_192_7 (by omega) zrn_1 (fun h7 => ?_) (fun h7 => ?_)
              · refine z_aload0 gi_192_15 ?_
                refine z_getR (r := 83) gi_192_16 gk_50 (hRr _ rm_50_58 (by decide)) ?_
                refine z_iload1 gi_192_19 ?_
                refine z_iald (v := J (38 + 2 * s.toNat) 1) gi_192_20 gk_83 (by decide) (by omega) (e83) ?_
                refine z_pushJ gp_192_21 ?_
                refine z_icmp_ne gi_192_23 (by omega) zrn_2 (fun h8 => ?_) (fun h8 => ?_)
                · refine z_pushJ gp_192_30 ?_
                  refine z_iret gi_192_32 gr_192 ?_
                  show zW _ _ _ _ _ _ _ _ _ _
                  refine z_iret gi_202_41 gr_202 ?_
                  refine ⟨?_, ?_⟩
                  · first | rfl | exact congrArg (fun v => some (zi v)) (by omega) | (exfalso; omega)
                  · exact hr
                · refine z_pushJ gp_192_26 ?_
                  refine z_goto gi_192_27 ?_
                  refine z_iret gi_192_32 gr_192 ?_
                  show zW _ _ _ _ _ _ _ _ _ _
                  refine z_iret gi_202_41 gr_202 ?_
                  refine ⟨?_, ?_⟩
                  · first | rfl | exact congrArg (fun v => some (zi v)) (by omega) | (exfalso; omega)
                  · exact hr
              · refine z_pushJ gp_192_10 ?_
                refine z_goto gi_192_12 ?_
                refine z_iret gi_192_32 gr_192 ?_
                show zW _ _ _ _ _ _ _ _ _ _
                refine z_iret gi_202_41 gr_202 ?_
                refine ⟨?_, ?_⟩
                · first | rfl | exact congrArg (fun v => some (zi v)) (by omega) | (exfalso; omega)
                · exact hr
            · refine z_pushJ gp_192_26 ?_
              refine z_goto gi_192_27 ?_
              refine z_iret gi_192_32 gr_192 ?_
              show zW _ _ _ _ _ _ _ _ _ _
              refine z_if_geT gi_202_33 zr_0 (by decide) ?_
              refine z_aload0 gi_202_42 ?_
              refine z_iload1 gi_202_43 ?_
              refine z_pushJ gp_202_44 ?_
              exfalso
              omega
          · refine z_pushJ gp_192_10 ?_
            refine z_goto gi_192_12 ?_
            refine z_iret gi_192_32 gr_192 ?_
            show zW _ _ _ _ _ _ _ _ _ _
            refine z_if_geF gi_202_33 zrn_11 (by decide) ?_
            refine z_aload0 gi_202_36 ?_
            refine z_iload1 gi_202_37 ?_
            refine z_cV1 gi_202_38 gk_50 go_192 (Nat.le_of_ble_eq_true rfl) gc_192_RI ?_
            refine z_aload0 gi_192_0 ?_
            refine z_getR (r := 83) gi_192_1 gk_50 (hRr _ rm_50_58 (by decide)) ?_
            refine z_iload1 gi_192_4 ?_
            refine z_iald (v := J (38 + 2 * s.toNat) 1) gi_192_5 gk_83 (by decide) (by omega) (e83) ?_
            refine z_pushJ gp_192_6 ?_
            refine z_icmp_neF gi_192_7 (by omega) zrn_1 (by omega) ?_
            refine z_pushJ gp_192_10 ?_
            refine z_goto gi_192_12 ?_
            refine z_iret gi_192_32 gr_192 ?_
            show zW _ _ _ _ _ _ _ _ _ _
            refine z_iret gi_202_41 gr_202 ?_
            refine ⟨?_, ?_⟩
            · first | rfl | exact congrArg (fun v => some (zi v)) (by omega) | (exfalso; omega)
            · exact hr
theorem st_next_2 {X : Nat × (Nat → Int32)} {d : Nat} {J M : zA} {R : zR} {s q v : Int} (hr : Rel X J M R) (hs : -2147483648 ≤ s ∧ s < 2147483648) (hq : -2147483648 ≤ q ∧ q < 2147483648) (hv : -2147483648 ≤ v ∧ v < 2147483648) (hs6 : 0 ≤ s ∧ s < 6) (hh : J (38 + 2 * s.toNat) 0 = 2) (hso : ¬ J (38 + 2 * s.toNat) 2 = 0) : zW X (d + 20) 112 0 (gEn 112 [(.ref 0), (zi s), (zi q), (zi v)]) [] J M R (stP X (d + 20) 202 [(zi s), (zi q), (zi v)]) := by
  have hr0 := hr
  obtain ⟨hR, hG, hY, hD, hP, hC, hAc, hS, hTp, hX, hW⟩ := hr0
  have hRr : zRoR R := zRoR_of hR
  have hY0 := hY
  obtain ⟨y1, y2, y3⟩ := hY0
  have yn := zNn y3
  have hA0 := hAc
  obtain ⟨a1, a2, a3, a4, a5, a6⟩ := hA0
  have e83 : J 83 s = -2 - J (38 + 2 * s.toNat) 2 := (hS s hs6.1 hs6.2).1.symm.trans (cH_2 hh)
  have s3 : 0 ≤ J (38 + 2 * s.toNat) 2 ∧ J (38 + 2 * s.toNat) 2 ≤ 4 := (hS s hs6.1 hs6.2).2.2.1
  have s4 : 0 ≤ J (38 + 2 * s.toNat) 3 ∧ J (38 + 2 * s.toNat) 3 ≤ 60 := (hS s hs6.1 hs6.2).2.2.2.1
  have s6 := (hS s hs6.1 hs6.2).2.2.2.2.2 hh
  have s7 : J 84 s = J (38 + 2 * s.toNat) 3 := s6.1.symm
  have s8 : ∀ i, 0 ≤ i → i < J (38 + 2 * s.toNat) 3 → M (39 + 2 * s.toNat) i = M 85 (60 * s + i) := s6.2.1
  show zW _ _ _ _ [some (.ref 0), some (zi s), some (zi q), some (zi v), none, none, none, none, none] _ _ _ _ _
  refine z_iload1 gi_112_0 ?_
  refine z_cS1 gi_112_1 (Nat.le_of_ble_eq_true rfl) gc_143_I ?_
  refine z_iload0 gi_143_0 ?_
  refine z_if_ltF gi_143_1 (by omega) (by omega) ?_
  refine z_iload0 gi_143_4 ?_
  refine z_pushJ gp_143_5 ?_
  refine z_icmp_geF gi_143_7 (by omega) zr_6 (by omega) ?_
  refine z_pushJ gp_143_10 ?_
  refine z_goto gi_143_11 ?_
  refine z_bret1 gi_143_15 gr_143 ?_
  show zW _ _ _ _ _ _ _ _ _ _
  refine z_if_eqF gi_112_4 zr_1 (by decide) ?_
  refine z_iload2 gi_112_7 ?_
  refine z_cS1 gi_112_8 (Nat.le_of_ble_eq_true rfl) gc_145_I ?_
  refine z_iload0 gi_145_0 ?_
  refine z_pushJ gp_145_1 ?_
  refine z_icmp_lt gi_145_2 (by omega) zr_1 (fun h1 => ?_) (fun h1 => ?_)
  · refine z_pushJ gp_145_15 ?_
    refine z_bret0 gi_145_16 gr_145 ?_
    show zW _ _ _ _ _ _ _ _ _ _
    refine z_if_eqT gi_112_11 zr_0 (by decide) ?_
    refine z_pushJ gp_112_21 ?_
    refine z_iret gi_112_22 gr_112 ?_
    refine ⟨_, rfl, ?_⟩
    show zW _ _ _ _ [some (.ref 50), some (zi s), some (zi q), some (zi v), none, none, none, none] _ _ _ _ _
    refine z_iload1 gi_202_0 ?_
    refine z_cS1 gi_202_1 (Nat.le_of_ble_eq_true rfl) gc_248_I ?_
    refine z_iload0 gi_248_0 ?_
    refine z_pushJ gp_248_1 ?_
    refine z_pushJ gp_248_2 ?_
    refine z_cS3 gi_248_3 (Nat.le_of_ble_eq_true rfl) gc_148_III ?_
    refine z_iload0 gi_148_0 ?_
    refine z_iload1 gi_148_1 ?_
    refine z_icmp_ltF gi_148_2 (by omega) zr_0 (by omega) ?_
    refine z_iload0 gi_148_5 ?_
    refine z_iload2 gi_148_6 ?_
    refine z_icmp_gtF gi_148_7 (by omega) zr_5 (by omega) ?_
    refine z_pushJ gp_148_10 ?_
    refine z_goto gi_148_11 ?_
    refine z_bret1 gi_148_15 gr_148 ?_
    show zW _ _ _ _ _ _ _ _ _ _
    refine z_bret1 gi_248_6 gr_248 ?_
    show zW _ _ _ _ _ _ _ _ _ _
    refine z_if_eqF gi_202_4 zr_1 (by decide) ?_
    refine z_iload2 gi_202_7 ?_
    refine z_pushJ gp_202_8 ?_
    refine z_pushJ gp_202_9 ?_
    refine z_cS3 gi_202_11 (Nat.le_of_ble_eq_true rfl) gc_148_III ?_
    refine z_iload0 gi_148_0 ?_
    refine z_iload1 gi_148_1 ?_
    refine z_icmp_ltT gi_148_2 (by omega) zr_1 (by omega) ?_
    refine z_pushJ gp_148_14 ?_
    refine z_bret0 gi_148_15 gr_148 ?_
    show zW _ _ _ _ _ _ _ _ _ _
    refine z_if_eqT gi_202_14 zr_0 (by decide) ?_
    refine z_pushJ gp_202_26 ?_
    refine z_iret gi_202_27 gr_202 ?_
    refine ⟨?_, ?_⟩
    · first | rfl | exact congrArg (fun v => some (zi v)) (by omega) | (exfalso; omega)
    · exact hr
  · refine z_iload0 gi_145_5 ?_
    refine z_pushJ gp_145_6 ?_
    refine z_icmp_gt gi_145_8 (by omega) zr_99 (fun h2 => ?_) (fun h2 => ?_)
    · refine z_pushJ gp_145_15 ?_
      refine z_bret0 gi_145_16 gr_145 ?_
      show zW _ _ _ _ _ _ _ _ _ _
      refine z_if_eqT gi_112_11 zr_0 (by decide) ?_
      refine z_pushJ gp_112_21 ?_
      refine z_iret gi_112_22 gr_112 ?_
      refine ⟨_, rfl, ?_⟩
      show zW _ _ _ _ [some (.ref 50), some (zi s), some (zi q), some (zi v), none, none, none, none] _ _ _ _ _
      refine z_iload1 gi_202_0 ?_
      refine z_cS1 gi_202_1 (Nat.le_of_ble_eq_true rfl) gc_248_I ?_
      refine z_iload0 gi_248_0 ?_
      refine z_pushJ gp_248_1 ?_
      refine z_pushJ gp_248_2 ?_
      refine z_cS3 gi_248_3 (Nat.le_of_ble_eq_true rfl) gc_148_III ?_
      refine z_iload0 gi_148_0 ?_
      refine z_iload1 gi_148_1 ?_
      refine z_icmp_ltF gi_148_2 (by omega) zr_0 (by omega) ?_
      refine z_iload0 gi_148_5 ?_
      refine z_iload2 gi_148_6 ?_
      refine z_icmp_gtF gi_148_7 (by omega) zr_5 (by omega) ?_
      refine z_pushJ gp_148_10 ?_
      refine z_goto gi_148_11 ?_
      refine z_bret1 gi_148_15 gr_148 ?_
      show zW _ _ _ _ _ _ _ _ _ _
      refine z_bret1 gi_248_6 gr_248 ?_
      show zW _ _ _ _ _ _ _ _ _ _
      refine z_if_eqF gi_202_4 zr_1 (by decide) ?_
      refine z_iload2 gi_202_7 ?_
      refine z_pushJ gp_202_8 ?_
      refine z_pushJ gp_202_9 ?_
      refine z_cS3 gi_202_11 (Nat.le_of_ble_eq_true rfl) gc_148_III ?_
      refine z_iload0 gi_148_0 ?_
      refine z_iload1 gi_148_1 ?_
      refine z_icmp_ltF gi_148_2 (by omega) zr_1 (by omega) ?_
      refine z_iload0 gi_148_5 ?_
      refine z_iload2 gi_148_6 ?_
      refine z_icmp_gtT gi_148_7 (by omega) zr_99 (by omega) ?_
      refine z_pushJ gp_148_14 ?_
      refine z_bret0 gi_148_15 gr_148 ?_
      show zW _ _ _ _ _ _ _ _ _ _
      refine z_if_eqT gi_202_14 zr_0 (by decide) ?_
      refine z_pushJ gp_202_26 ?_
      refine z_iret gi_202_27 gr_202 ?_
      refine ⟨?_, ?_⟩
      · first | rfl | exact congrArg (fun v => some (zi v)) (by omega) | (exfalso; omega)
      · exact hr
    · refine z_pushJ gp_145_11 ?_
      refine z_goto gi_145_12 ?_
      refine z_bret1 gi_145_16 gr_145 ?_
      show zW _ _ _ _ _ _ _ _ _ _
      refine z_if_eqF gi_112_11 zr_1 (by decide) ?_
      refine z_iload3 gi_112_14 ?_
      refine z_cS1 gi_112_15 (Nat.le_of_ble_eq_true rfl) gc_146_I ?_
      refine z_iload0 gi_146_0 ?_
      refine z_if_eq gi_146_1 (by omega) (fun h3 => ?_) (fun h3 => ?_)
      · refine z_pushJ gp_146_9 ?_
        refine z_goto gi_146_10 ?_
        refine z_bret1 gi_146_14 gr_146 ?_
        show zW _ _ _ _ _ _ _ _ _ _
        refine z_if_neT gi_112_18 zr_1 (by decide) ?_
        refine z_aload0 gi_112_23 ?_
        refine z_getR (r := 10) gi_112_24 gk_0 (hR _ rm_0_2) ?_
        refine z_aload0 gi_112_27 ?_
        refine z_getR (r := 37) gi_112_28 gk_0 (hR _ rm_0_11) ?_
        refine z_iload1 gi_112_31 ?_
        refine z_aald (r := 38 + 2 * s.toNat) gi_112_32 rfl (by decide) (by omega) (rr_shelf hR (by omega)) ?_
        refine z_callVi (As := [_]) (le := [some _, some _, none, none, none]) gi_112_33 rfl gk_10 (Nat.le_of_ble_eq_true rfl) (Nat.le_of_ble_eq_true rfl) rfl ?_
        refine z_aload1 gi_78_0 ?_
        refine z_callVi (As := []) (le := [some _]) gi_78_1 rfl (zk_shelf (by omega)) (Nat.le_of_ble_eq_true rfl) (Nat.le_of_ble_eq_true rfl) rfl ?_
        refine z_aload0 gi_69_0 ?_
        refine z_getI (v := 2) gi_69_1 (zk_shelf (by omega)) (hh) ?_
        refine z_if_neT gi_69_4 zr_2 (by decide) ?_
        refine z_aload0 gi_69_10 ?_
        refine z_callVi (As := []) (le := [some _]) gi_69_11 rfl (zk_shelf (by omega)) (Nat.le_of_ble_eq_true rfl) (Nat.le_of_ble_eq_true rfl) rfl ?_
        refine z_aload0 gi_64_0 ?_
        refine z_getI (v := 2) gi_64_1 (zk_shelf (by omega)) (hh) ?_
        refine z_pushJ gp_64_4 ?_
        refine z_icmp_neF gi_64_5 zr_2 zr_2 (by decide) ?_
        refine z_aload0 gi_64_8 ?_
        refine z_getI (v := J (38 + 2 * s.toNat) 2) gi_64_9 (zk_shelf (by omega)) (rfl) ?_
        refine z_if_neT gi_64_12 (by omega) (by omega) ?_
        refine z_pushJ gp_64_19 ?_
        refine z_bret0 gi_64_20 gr_64 ?_
        show zW _ _ _ _ _ _ _ _ _ _
        refine z_if_eqT gi_69_14 zr_0 (by decide) ?_
        refine z_pushJ gp_69_21 ?_
        refine z_iret gi_69_23 gr_69 ?_
        show zW _ _ _ _ _ _ _ _ _ _
        refine z_istore (ls1 := [some (.ref 10), some (.ref (38 + 2 * s.toNat)), some (zi (-12)), none, none]) gi_78_4 rfl ?_
        refine z_iload2 gi_78_5 ?_
        refine z_if_geF gi_78_6 zrn_12 (by decide) ?_
        refine z_iload2 gi_78_9 ?_
        refine z_iret gi_78_10 gr_78 ?_
        show zW _ _ _ _ _ _ _ _ _ _
        refine z_istore (ls1 := [some (.ref 0), some (zi s), some (zi q), some (zi v), some (zi (-12)), none, none, none, none]) gi_112_36 rfl ?_
        refine z_iload4 gi_112_38 ?_
        refine z_if_geF gi_112_40 zrn_12 (by decide) ?_
        refine z_iload4 gi_112_43 ?_
        refine z_iret gi_112_45 gr_112 ?_
        refine ⟨_, rfl, ?_⟩
        show zW _ _ _ _ [some (.ref 50), some (zi s), some (zi q), some (zi v), none, none, none, none] _ _ _ _ _
        refine z_iload1 gi_202_0 ?_
        refine z_cS1 gi_202_1 (Nat.le_of_ble_eq_true rfl) gc_248_I ?_
        refine z_iload0 gi_248_0 ?_
        refine z_pushJ gp_248_1 ?_
        refine z_pushJ gp_248_2 ?_
        refine z_cS3 gi_248_3 (Nat.le_of_ble_eq_true rfl) gc_148_III ?_
        refine z_iload0 gi_148_0 ?_
        refine z_iload1 gi_148_1 ?_
        refine z_icmp_ltF gi_148_2 (by omega) zr_0 (by omega) ?_
        refine z_iload0 gi_148_5 ?_
        refine z_iload2 gi_148_6 ?_
        refine z_icmp_gtF gi_148_7 (by omega) zr_5 (by omega) ?_
        refine z_pushJ gp_148_10 ?_
        refine z_goto gi_148_11 ?_
        refine z_bret1 gi_148_15 gr_148 ?_
        show zW _ _ _ _ _ _ _ _ _ _
        refine z_bret1 gi_248_6 gr_248 ?_
        show zW _ _ _ _ _ _ _ _ _ _
        refine z_if_eqF gi_202_4 zr_1 (by decide) ?_
        refine z_iload2 gi_202_7 ?_
        refine z_pushJ gp_202_8 ?_
        refine z_pushJ gp_202_9 ?_
        refine z_cS3 gi_202_11 (Nat.le_of_ble_eq_true rfl) gc_148_III ?_
        refine z_iload0 gi_148_0 ?_
        refine z_iload1 gi_148_1 ?_
        refine z_icmp_ltF gi_148_2 (by omega) zr_1 (by omega) ?_
        refine z_iload0 gi_148_5 ?_
        refine z_iload2 gi_148_6 ?_
        refine z_icmp_gtF gi_148_7 (by omega) zr_99 (by omega) ?_
        refine z_pushJ gp_148_10 ?_
        refine z_goto gi_148_11 ?_
        refine z_bret1 gi_148_15 gr_148 ?_
        show zW _ _ _ _ _ _ _ _ _ _
        refine z_if_eqF gi_202_14 zr_1 (by decide) ?_
        refine z_iload3 gi_202_17 ?_
        refine z_pushJ gp_202_18 ?_
        refine z_pushJ gp_202_19 ?_
        refine z_cS3 gi_202_20 (Nat.le_of_ble_eq_true rfl) gc_148_III ?_
        refine z_iload0 gi_148_0 ?_
        refine z_iload1 gi_148_1 ?_
        refine z_icmp_ltF gi_148_2 (by omega) zr_0 (by omega) ?_
        refine z_iload0 gi_148_5 ?_
        refine z_iload2 gi_148_6 ?_
        refine z_icmp_gtF gi_148_7 (by omega) zr_1 (by omega) ?_
        refine z_pushJ gp_148_10 ?_
        refine z_goto gi_148_11 ?_
        refine z_bret1 gi_148_15 gr_148 ?_
        show zW _ _ _ _ _ _ _ _ _ _
        refine z_if_neT gi_202_23 zr_1 (by decide) ?_
        refine z_aload0 gi_202_28 ?_
        refine z_iload1 gi_202_29 ?_
        refine z_cV1 gi_202_30 gk_50 go_192 (Nat.le_of_ble_eq_true rfl) gc_192_RI ?_
        refine z_aload0 gi_192_0 ?_
        refine z_getR (r := 83) gi_192_1 gk_50 (hRr _ rm_50_58 (by decide)) ?_
        refine z_iload1 gi_192_4 ?_
        refine z_iald (v := (-2) - (J (38 + 2 * s.toNat) 2)) gi_192_5 gk_83 (by decide) (by omega) (e83) ?_
        refine z_pushJ gp_192_6 ?_
        refine z_icmp_neT gi_192_7 (by omega) zrn_1 (by omega) ?_
        refine z_aload0 gi_192_15 ?_
        refine z_getR (r := 83) gi_192_16 gk_50 (hRr _ rm_50_58 (by decide)) ?_
        refine z_iload1 gi_192_19 ?_
        refine z_iald (v := (-2) - (J (38 + 2 * s.toNat) 2)) gi_192_20 gk_83 (by decide) (by omega) (e83) ?_
        refine z_pushJ gp_192_21 ?_
        refine z_icmp_neT gi_192_23 (by omega) zrn_2 (by omega) ?_
        refine z_pushJ gp_192_30 ?_
        refine z_iret gi_192_32 gr_192 ?_
        show zW _ _ _ _ _ _ _ _ _ _
        refine z_if_geF gi_202_33 zrn_12 (by decide) ?_
        refine z_aload0 gi_202_36 ?_
        refine z_iload1 gi_202_37 ?_
        refine z_cV1 gi_202_38 gk_50 go_192 (Nat.le_of_ble_eq_true rfl) gc_192_RI ?_
        refine z_aload0 gi_192_0 ?_
        refine z_getR (r := 83) gi_192_1 gk_50 (hRr _ rm_50_58 (by decide)) ?_
        refine z_iload1 gi_192_4 ?_
        refine z_iald (v := (-2) - (J (38 + 2 * s.toNat) 2)) gi_192_5 gk_83 (by decide) (by omega) (e83) ?_
        refine z_pushJ gp_192_6 ?_
        refine z_icmp_neT gi_192_7 (by omega) zrn_1 (by omega) ?_
        refine z_aload0 gi_192_15 ?_
        refine z_getR (r := 83) gi_192_16 gk_50 (hRr _ rm_50_58 (by decide)) ?_
        refine z_iload1 gi_192_19 ?_
        refine z_iald (v := (-2) - (J (38 + 2 * s.toNat) 2)) gi_192_20 gk_83 (by decide) (by omega) (e83) ?_
        refine z_pushJ gp_192_21 ?_
        refine z_icmp_neT gi_192_23 (by omega) zrn_2 (by omega) ?_
        refine z_pushJ gp_192_30 ?_
        refine z_iret gi_192_32 gr_192 ?_
        show zW _ _ _ _ _ _ _ _ _ _
        refine z_iret gi_202_41 gr_202 ?_
        refine ⟨?_, ?_⟩
        · first | rfl | exact congrArg (fun v => some (zi v)) (by omega) | (exfalso; omega)
        · exact hr
      · refine z_iload0 gi_146_4 ?_
        refine z_pushJ gp_146_5 ?_
        refine z_icmp_ne gi_146_6 (by omega) zr_1 (fun h4 => ?_) (fun h4 => ?_)
        · refine z_pushJ gp_146_13 ?_
          refine z_bret0 gi_146_14 gr_146 ?_
          show zW _ _ _ _ _ _ _ _ _ _
          refine z_if_neF gi_112_18 zr_0 (by decide) ?_
          refine z_pushJ gp_112_21 ?_
          refine z_iret gi_112_22 gr_112 ?_
          refine ⟨_, rfl, ?_⟩
          show zW _ _ _ _ [some (.ref 50), some (zi s), some (zi q), some (zi v), none, none, none, none] _ _ _ _ _
          refine z_iload1 gi_202_0 ?_
          refine z_cS1 gi_202_1 (Nat.le_of_ble_eq_true rfl) gc_248_I ?_
          refine z_iload0 gi_248_0 ?_
          refine z_pushJ gp_248_1 ?_
          refine z_pushJ gp_248_2 ?_
          refine z_cS3 gi_248_3 (Nat.le_of_ble_eq_true rfl) gc_148_III ?_
          refine z_iload0 gi_148_0 ?_
          refine z_iload1 gi_148_1 ?_
          refine z_icmp_ltF gi_148_2 (by omega) zr_0 (by omega) ?_
          refine z_iload0 gi_148_5 ?_
          refine z_iload2 gi_148_6 ?_
          refine z_icmp_gtF gi_148_7 (by omega) zr_5 (by omega) ?_
          refine z_pushJ gp_148_10 ?_
          refine z_goto gi_148_11 ?_
          refine z_bret1 gi_148_15 gr_148 ?_
          show zW _ _ _ _ _ _ _ _ _ _
          refine z_bret1 gi_248_6 gr_248 ?_
          show zW _ _ _ _ _ _ _ _ _ _
          refine z_if_eqF gi_202_4 zr_1 (by decide) ?_
          refine z_iload2 gi_202_7 ?_
          refine z_pushJ gp_202_8 ?_
          refine z_pushJ gp_202_9 ?_
          refine z_cS3 gi_202_11 (Nat.le_of_ble_eq_true rfl) gc_148_III ?_
          refine z_iload0 gi_148_0 ?_
          refine z_iload1 gi_148_1 ?_
          refine z_icmp_ltF gi_148_2 (by omega) zr_1 (by omega) ?_
          refine z_iload0 gi_148_5 ?_
          refine z_iload2 gi_148_6 ?_
          refine z_icmp_gtF gi_148_7 (by omega) zr_99 (by omega) ?_
          refine z_pushJ gp_148_10 ?_
          refine z_goto gi_148_11 ?_
          refine z_bret1 gi_148_15 gr_148 ?_
          show zW _ _ _ _ _ _ _ _ _ _
          refine z_if_eqF gi_202_14 zr_1 (by decide) ?_
          refine z_iload3 gi_202_17 ?_
          refine z_pushJ gp_202_18 ?_
          refine z_pushJ gp_202_19 ?_
          refine z_cS3 gi_202_20 (Nat.le_of_ble_eq_true rfl) gc_148_III ?_
          refine z_iload0 gi_148_0 ?_
          refine z_iload1 gi_148_1 ?_
          refine z_icmp_lt gi_148_2 (by omega) zr_0 (fun h5 => ?_) (fun h5 => ?_)
          · refine z_pushJ gp_148_14 ?_
            refine z_bret0 gi_148_15 gr_148 ?_
            show zW _ _ _ _ _ _ _ _ _ _
            refine z_if_neF gi_202_23 zr_0 (by decide) ?_
            refine z_pushJ gp_202_26 ?_
            refine z_iret gi_202_27 gr_202 ?_
            refine ⟨?_, ?_⟩
            · first | rfl | exact congrArg (fun v => some (zi v)) (by omega) | (exfalso; omega)
            · exact hr
          · refine z_iload0 gi_148_5 ?_
            refine z_iload2 gi_148_6 ?_
            refine z_icmp_gt gi_148_7 (by omega) zr_1 (fun h6 => ?_) (fun h6 => ?_)
            · refine z_pushJ gp_148_14 ?_
              refine z_bret0 gi_148_15 gr_148 ?_
              show zW _ _ _ _ _ _ _ _ _ _
              refine z_if_neF gi_202_23 zr_0 (by decide) ?_
              refine z_pushJ gp_202_26 ?_
              refine z_iret gi_202_27 gr_202 ?_
              refine ⟨?_, ?_⟩
              · first | rfl | exact congrArg (fun v => some (zi v)) (by omega) | (exfalso; omega)
              · exact hr
            · refine z_pushJ gp_148_10 ?_
              refine z_goto gi_148_11 ?_
              refine z_bret1 gi_148_15 gr_148 ?_
              show zW _ _ _ _ _ _ _ _ _ _
              refine z_if_neT gi_202_23 zr_1 (by decide) ?_
              refine z_aload0 gi_202_28 ?_
              refine z_iload1 gi_202_29 ?_
              refine z_cV1 gi_202_30 gk_50 go_192 (Nat.le_of_ble_eq_true rfl) gc_192_RI ?_
              refine z_aload0 gi_192_0 ?_
              refine z_getR (r := 83) gi_192_1 gk_50 (hRr _ rm_50_58 (by decide)) ?_
              refine z_iload1 gi_192_4 ?_
              refine z_iald (v := (-2) - (J (38 + 2 * s.toNat) 2)) gi_192_5 gk_83 (by decide) (by omega) (e83) ?_
              refine z_pushJ gp_192_6 ?_
              refine z_icmp_neT gi_192_7 (by omega) zrn_1 (by omega) ?_
              refine z_aload0 gi_192_15 ?_
              refine z_getR (r := 83) gi_192_16 gk_50 (hRr _ rm_50_58 (by decide)) ?_
              refine z_iload1 gi_192_19 ?_
              refine z_iald (v := (-2) - (J (38 + 2 * s.toNat) 2)) gi_192_20 gk_83 (by decide) (by omega) (e83) ?_
              refine z_pushJ gp_192_21 ?_
              refine z_icmp_neT gi_192_23 (by omega) zrn_2 (by omega) ?_
              refine z_pushJ gp_192_30 ?_
              refine z_iret gi_192_32 gr_192 ?_
              show zW _ _ _ _ _ _ _ _ _ _
              refine z_if_geF gi_202_33 zrn_12 (by decide) ?_
              refine z_aload0 gi_202_36 ?_
              refine z_iload1 gi_202_37 ?_
              refine z_cV1 gi_202_38 gk_50 go_192 (Nat.le_of_ble_eq_true rfl) gc_192_RI ?_
              refine z_aload0 gi_192_0 ?_
              refine z_getR (r := 83) gi_192_1 gk_50 (hRr _ rm_50_58 (by decide)) ?_
              refine z_iload1 gi_192_4 ?_
              refine z_iald (v := (-2) - (J (38 + 2 * s.toNat) 2)) gi_192_5 gk_83 (by decide) (by omega) (e83) ?_
              refine z_pushJ gp_192_6 ?_
              refine z_icmp_neT gi_192_7 (by omega) zrn_1 (by omega) ?_
              refine z_aload0 gi_192_15 ?_
              refine z_getR (r := 83) gi_192_16 gk_50 (hRr _ rm_50_58 (by decide)) ?_
              refine z_iload1 gi_192_19 ?_
              refine z_iald (v := (-2) - (J (38 + 2 * s.toNat) 2)) gi_192_20 gk_83 (by decide) (by omega) (e83) ?_
              refine z_pushJ gp_192_21 ?_
              refine z_icmp_neT gi_192_23 (by omega) zrn_2 (by omega) ?_
              refine z_pushJ gp_192_30 ?_
              refine z_iret gi_192_32 gr_192 ?_
              show zW _ _ _ _ _ _ _ _ _ _
              refine z_iret gi_202_41 gr_202 ?_
              refine ⟨?_, ?_⟩
              · first | rfl | exact congrArg (fun v => some (zi v)) (by omega) | (exfalso; omega)
              · exact hr
        · refine z_pushJ gp_146_9 ?_
          refine z_goto gi_146_10 ?_
          refine z_bret1 gi_146_14 gr_146 ?_
          show zW _ _ _ _ _ _ _ _ _ _
          refine z_if_neT gi_112_18 zr_1 (by decide) ?_
          refine z_aload0 gi_112_23 ?_
          refine z_getR (r := 10) gi_112_24 gk_0 (hR _ rm_0_2) ?_
          refine z_aload0 gi_112_27 ?_
          refine z_getR (r := 37) gi_112_28 gk_0 (hR _ rm_0_11) ?_
          refine z_iload1 gi_112_31 ?_
          refine z_aald (r := 38 + 2 * s.toNat) gi_112_32 rfl (by decide) (by omega) (rr_shelf hR (by omega)) ?_
          refine z_callVi (As := [_]) (le := [some _, some _, none, none, none]) gi_112_33 rfl gk_10 (Nat.le_of_ble_eq_true rfl) (Nat.le_of_ble_eq_true rfl) rfl ?_
          refine z_aload1 gi_78_0 ?_
          refine z_callVi (As := []) (le := [some _]) gi_78_1 rfl (zk_shelf (by omega)) (Nat.le_of_ble_eq_true rfl) (Nat.le_of_ble_eq_true rfl) rfl ?_
          refine z_aload0 gi_69_0 ?_
          refine z_getI (v := 2) gi_69_1 (zk_shelf (by omega)) (hh) ?_
          refine z_if_neT gi_69_4 zr_2 (by decide) ?_
          refine z_aload0 gi_69_10 ?_
          refine z_callVi (As := []) (le := [some _]) gi_69_11 rfl (zk_shelf (by omega)) (Nat.le_of_ble_eq_true rfl) (Nat.le_of_ble_eq_true rfl) rfl ?_
          refine z_aload0 gi_64_0 ?_
          refine z_getI (v := 2) gi_64_1 (zk_shelf (by omega)) (hh) ?_
          refine z_pushJ gp_64_4 ?_
          refine z_icmp_neF gi_64_5 zr_2 zr_2 (by decide) ?_
          refine z_aload0 gi_64_8 ?_
          refine z_getI (v := J (38 + 2 * s.toNat) 2) gi_64_9 (zk_shelf (by omega)) (rfl) ?_
          refine z_if_neT gi_64_12 (by omega) (by omega) ?_
          refine z_pushJ gp_64_19 ?_
          refine z_bret0 gi_64_20 gr_64 ?_
          show zW _ _ _ _ _ _ _ _ _ _
          refine z_if_eqT gi_69_14 zr_0 (by decide) ?_
          refine z_pushJ gp_69_21 ?_
          refine z_iret gi_69_23 gr_69 ?_
          show zW _ _ _ _ _ _ _ _ _ _
          refine z_istore (ls1 := [some (.ref 10), some (.ref (38 + 2 * s.toNat)), some (zi (-12)), none, none]) gi_78_4 rfl ?_
          refine z_iload2 gi_78_5 ?_
          refine z_if_geF gi_78_6 zrn_12 (by decide) ?_
          refine z_iload2 gi_78_9 ?_
          refine z_iret gi_78_10 gr_78 ?_
          show zW _ _ _ _ _ _ _ _ _ _
          refine z_istore (ls1 := [some (.ref 0), some (zi s), some (zi q), some (zi v), some (zi (-12)), none, none, none, none]) gi_112_36 rfl ?_
          refine z_iload4 gi_112_38 ?_
          refine z_if_geF gi_112_40 zrn_12 (by decide) ?_
          refine z_iload4 gi_112_43 ?_
          refine z_iret gi_112_45 gr_112 ?_
          refine ⟨_, rfl, ?_⟩
          show zW _ _ _ _ [some (.ref 50), some (zi s), some (zi q), some (zi v), none, none, none, none] _ _ _ _ _
          refine z_iload1 gi_202_0 ?_
          refine z_cS1 gi_202_1 (Nat.le_of_ble_eq_true rfl) gc_248_I ?_
          refine z_iload0 gi_248_0 ?_
          refine z_pushJ gp_248_1 ?_
          refine z_pushJ gp_248_2 ?_
          refine z_cS3 gi_248_3 (Nat.le_of_ble_eq_true rfl) gc_148_III ?_
          refine z_iload0 gi_148_0 ?_
          refine z_iload1 gi_148_1 ?_
          refine z_icmp_ltF gi_148_2 (by omega) zr_0 (by omega) ?_
          refine z_iload0 gi_148_5 ?_
          refine z_iload2 gi_148_6 ?_
          refine z_icmp_gtF gi_148_7 (by omega) zr_5 (by omega) ?_
          refine z_pushJ gp_148_10 ?_
          refine z_goto gi_148_11 ?_
          refine z_bret1 gi_148_15 gr_148 ?_
          show zW _ _ _ _ _ _ _ _ _ _
          refine z_bret1 gi_248_6 gr_248 ?_
          show zW _ _ _ _ _ _ _ _ _ _
          refine z_if_eqF gi_202_4 zr_1 (by decide) ?_
          refine z_iload2 gi_202_7 ?_
          refine z_pushJ gp_202_8 ?_
          refine z_pushJ gp_202_9 ?_
          refine z_cS3 gi_202_11 (Nat.le_of_ble_eq_true rfl) gc_148_III ?_
          refine z_iload0 gi_148_0 ?_
          refine z_iload1 gi_148_1 ?_
          refine z_icmp_ltF gi_148_2 (by omega) zr_1 (by omega) ?_
          refine z_iload0 gi_148_5 ?_
          refine z_iload2 gi_148_6 ?_
          refine z_icmp_gtF gi_148_7 (by omega) zr_99 (by omega) ?_
          refine z_pushJ gp_148_10 ?_
          refine z_goto gi_148_11 ?_
          refine z_bret1 gi_148_15 gr_148 ?_
          show zW _ _ _ _ _ _ _ _ _ _
          refine z_if_eqF gi_202_14 zr_1 (by decide) ?_
          refine z_iload3 gi_202_17 ?_
          refine z_pushJ gp_202_18 ?_
          refine z_pushJ gp_202_19 ?_
          refine z_cS3 gi_202_20 (Nat.le_of_ble_eq_true rfl) gc_148_III ?_
          refine z_iload0 gi_148_0 ?_
          refine z_iload1 gi_148_1 ?_
          refine z_icmp_ltF gi_148_2 (by omega) zr_0 (by omega) ?_
          refine z_iload0 gi_148_5 ?_
          refine z_iload2 gi_148_6 ?_
          refine z_icmp_gtF gi_148_7 (by omega) zr_1 (by omega) ?_
          refine z_pushJ gp_148_10 ?_
          refine z_goto gi_148_11 ?_
          refine z_bret1 gi_148_15 gr_148 ?_
          show zW _ _ _ _ _ _ _ _ _ _
          refine z_if_neT gi_202_23 zr_1 (by decide) ?_
          refine z_aload0 gi_202_28 ?_
          refine z_iload1 gi_202_29 ?_
          refine z_cV1 gi_202_30 gk_50 go_192 (Nat.le_of_ble_eq_true rfl) gc_192_RI ?_
          refine z_aload0 gi_192_0 ?_
          refine z_getR (r := 83) gi_192_1 gk_50 (hRr _ rm_50_58 (by decide)) ?_
          refine z_iload1 gi_192_4 ?_
          refine z_iald (v := (-2) - (J (38 + 2 * s.toNat) 2)) gi_192_5 gk_83 (by decide) (by omega) (e83) ?_
          refine z_pushJ gp_192_6 ?_
          refine z_icmp_neT gi_192_7 (by omega) zrn_1 (by omega) ?_
          refine z_aload0 gi_192_15 ?_
          refine z_getR (r := 83) gi_192_16 gk_50 (hRr _ rm_50_58 (by decide)) ?_
          refine z_iload1 gi_192_19 ?_
          refine z_iald (v := (-2) - (J (38 + 2 * s.toNat) 2)) gi_192_20 gk_83 (by decide) (by omega) (e83) ?_
          refine z_pushJ gp_192_21 ?_
          refine z_icmp_neT gi_192_23 (by omega) zrn_2 (by omega) ?_
          refine z_pushJ gp_192_30 ?_
          refine z_iret gi_192_32 gr_192 ?_
          show zW _ _ _ _ _ _ _ _ _ _
          refine z_if_geF gi_202_33 zrn_12 (by decide) ?_
          refine z_aload0 gi_202_36 ?_
          refine z_iload1 gi_202_37 ?_
          refine z_cV1 gi_202_38 gk_50 go_192 (Nat.le_of_ble_eq_true rfl) gc_192_RI ?_
          refine z_aload0 gi_192_0 ?_
          refine z_getR (r := 83) gi_192_1 gk_50 (hRr _ rm_50_58 (by decide)) ?_
          refine z_iload1 gi_192_4 ?_
          refine z_iald (v := (-2) - (J (38 + 2 * s.toNat) 2)) gi_192_5 gk_83 (by decide) (by omega) (e83) ?_
          refine z_pushJ gp_192_6 ?_
          refine z_icmp_neT gi_192_7 (by omega) zrn_1 (by omega) ?_
          refine z_aload0 gi_192_15 ?_
          refine z_getR (r := 83) gi_192_16 gk_50 (hRr _ rm_50_58 (by decide)) ?_
          refine z_iload1 gi_192_19 ?_
          refine z_iald (v := (-2) - (J (38 + 2 * s.toNat) 2)) gi_192_20 gk_83 (by decide) (by omega) (e83) ?_
          refine z_pushJ gp_192_21 ?_
          refine z_icmp_neT gi_192_23 (by omega) zrn_2 (by omega) ?_
          refine z_pushJ gp_192_30 ?_
          refine z_iret gi_192_32 gr_192 ?_
          show zW _ _ _ _ _ _ _ _ _ _
          refine z_iret gi_202_41 gr_202 ?_
          refine ⟨?_, ?_⟩
          · first | rfl | exact congrArg (fun v => some (zi v)) (by omega) | (exfalso; omega)
          · exact hr
theorem st_next_m {X : Nat × (Nat → Int32)} {d : Nat} {J M : zA} {R : zR} {s q v : Int} (hr : Rel X J M R) (hs : -2147483648 ≤ s ∧ s < 2147483648) (hq : -2147483648 ≤ q ∧ q < 2147483648) (hv : -2147483648 ≤ v ∧ v < 2147483648) (hs6 : 0 ≤ s ∧ s < 6) (hh : J (38 + 2 * s.toNat) 0 = 2) (hso : J (38 + 2 * s.toNat) 2 = 0) : zW X (d + 20) 112 0 (gEn 112 [(.ref 0), (zi s), (zi q), (zi v)]) [] J M R (stP X (d + 20) 202 [(zi s), (zi q), (zi v)]) := by
  have hr0 := hr
  obtain ⟨hR, hG, hY, hD, hP, hC, hAc, hS, hTp, hX, hW⟩ := hr0
  have hRr : zRoR R := zRoR_of hR
  have hY0 := hY
  obtain ⟨y1, y2, y3⟩ := hY0
  have yn := zNn y3
  have e83 : J 83 s = -2 - J (38 + 2 * s.toNat) 2 := (hS s hs6.1 hs6.2).1.symm.trans (cH_2 hh)
  have s3 : 0 ≤ J (38 + 2 * s.toNat) 2 ∧ J (38 + 2 * s.toNat) 2 ≤ 4 := (hS s hs6.1 hs6.2).2.2.1
  have s4 : 0 ≤ J (38 + 2 * s.toNat) 3 ∧ J (38 + 2 * s.toNat) 3 ≤ 60 := (hS s hs6.1 hs6.2).2.2.2.1
  have s6 := (hS s hs6.1 hs6.2).2.2.2.2.2 hh
  have s7 : J 84 s = J (38 + 2 * s.toNat) 3 := s6.1.symm
  have s8 : ∀ i, 0 ≤ i → i < J (38 + 2 * s.toNat) 3 → M (39 + 2 * s.toNat) i = M 85 (60 * s + i) := s6.2.1
  have e83n : J 83 s = -2 := e83.trans (by omega)
  have hbr := s6.2.2 hso
  have hX0 := hX
  obtain ⟨T, t1, t2, t3⟩ := hX0
  show zW _ _ _ _ [some (.ref 0), some (zi s), some (zi q), some (zi v), none, none, none, none, none] _ _ _ _ _
  refine z_iload1 gi_112_0 ?_
  refine z_cS1 gi_112_1 (Nat.le_of_ble_eq_true rfl) gc_143_I ?_
  refine z_iload0 gi_143_0 ?_
  refine z_if_ltF gi_143_1 (by omega) (by omega) ?_
  refine z_iload0 gi_143_4 ?_
  refine z_pushJ gp_143_5 ?_
  refine z_icmp_geF gi_143_7 (by omega) zr_6 (by omega) ?_
  refine z_pushJ gp_143_10 ?_
  refine z_goto gi_143_11 ?_
  refine z_bret1 gi_143_15 gr_143 ?_
  show zW _ _ _ _ _ _ _ _ _ _
  refine z_if_eqF gi_112_4 zr_1 (by decide) ?_
  refine z_iload2 gi_112_7 ?_
  refine z_cS1 gi_112_8 (Nat.le_of_ble_eq_true rfl) gc_145_I ?_
  refine z_iload0 gi_145_0 ?_
  refine z_pushJ gp_145_1 ?_
  refine z_icmp_lt gi_145_2 (by omega) zr_1 (fun h1 => ?_) (fun h1 => ?_)
  · refine z_pushJ gp_145_15 ?_
    refine z_bret0 gi_145_16 gr_145 ?_
    show zW _ _ _ _ _ _ _ _ _ _
    refine z_if_eqT gi_112_11 zr_0 (by decide) ?_
    refine z_pushJ gp_112_21 ?_
    refine z_iret gi_112_22 gr_112 ?_
    refine ⟨_, rfl, ?_⟩
    show zW _ _ _ _ [some (.ref 50), some (zi s), some (zi q), some (zi v), none, none, none, none] _ _ _ _ _
    refine z_iload1 gi_202_0 ?_
    refine z_cS1 gi_202_1 (Nat.le_of_ble_eq_true rfl) gc_248_I ?_
    refine z_iload0 gi_248_0 ?_
    refine z_pushJ gp_248_1 ?_
    refine z_pushJ gp_248_2 ?_
    refine z_cS3 gi_248_3 (Nat.le_of_ble_eq_true rfl) gc_148_III ?_
    refine z_iload0 gi_148_0 ?_
    refine z_iload1 gi_148_1 ?_
    refine z_icmp_ltF gi_148_2 (by omega) zr_0 (by omega) ?_
    refine z_iload0 gi_148_5 ?_
    refine z_iload2 gi_148_6 ?_
    refine z_icmp_gtF gi_148_7 (by omega) zr_5 (by omega) ?_
    refine z_pushJ gp_148_10 ?_
    refine z_goto gi_148_11 ?_
    refine z_bret1 gi_148_15 gr_148 ?_
    show zW _ _ _ _ _ _ _ _ _ _
    refine z_bret1 gi_248_6 gr_248 ?_
    show zW _ _ _ _ _ _ _ _ _ _
    refine z_if_eqF gi_202_4 zr_1 (by decide) ?_
    refine z_iload2 gi_202_7 ?_
    refine z_pushJ gp_202_8 ?_
    refine z_pushJ gp_202_9 ?_
    refine z_cS3 gi_202_11 (Nat.le_of_ble_eq_true rfl) gc_148_III ?_
    refine z_iload0 gi_148_0 ?_
    refine z_iload1 gi_148_1 ?_
    refine z_icmp_ltT gi_148_2 (by omega) zr_1 (by omega) ?_
    refine z_pushJ gp_148_14 ?_
    refine z_bret0 gi_148_15 gr_148 ?_
    show zW _ _ _ _ _ _ _ _ _ _
    refine z_if_eqT gi_202_14 zr_0 (by decide) ?_
    refine z_pushJ gp_202_26 ?_
    refine z_iret gi_202_27 gr_202 ?_
    refine ⟨?_, ?_⟩
    · first | rfl | exact congrArg (fun v => some (zi v)) (by omega) | (exfalso; omega)
    · exact hr
  · refine z_iload0 gi_145_5 ?_
    refine z_pushJ gp_145_6 ?_
    refine z_icmp_gt gi_145_8 (by omega) zr_99 (fun h2 => ?_) (fun h2 => ?_)
    · refine z_pushJ gp_145_15 ?_
      refine z_bret0 gi_145_16 gr_145 ?_
      show zW _ _ _ _ _ _ _ _ _ _
      refine z_if_eqT gi_112_11 zr_0 (by decide) ?_
      refine z_pushJ gp_112_21 ?_
      refine z_iret gi_112_22 gr_112 ?_
      refine ⟨_, rfl, ?_⟩
      show zW _ _ _ _ [some (.ref 50), some (zi s), some (zi q), some (zi v), none, none, none, none] _ _ _ _ _
      refine z_iload1 gi_202_0 ?_
      refine z_cS1 gi_202_1 (Nat.le_of_ble_eq_true rfl) gc_248_I ?_
      refine z_iload0 gi_248_0 ?_
      refine z_pushJ gp_248_1 ?_
      refine z_pushJ gp_248_2 ?_
      refine z_cS3 gi_248_3 (Nat.le_of_ble_eq_true rfl) gc_148_III ?_
      refine z_iload0 gi_148_0 ?_
      refine z_iload1 gi_148_1 ?_
      refine z_icmp_ltF gi_148_2 (by omega) zr_0 (by omega) ?_
      refine z_iload0 gi_148_5 ?_
      refine z_iload2 gi_148_6 ?_
      refine z_icmp_gtF gi_148_7 (by omega) zr_5 (by omega) ?_
      refine z_pushJ gp_148_10 ?_
      refine z_goto gi_148_11 ?_
      refine z_bret1 gi_148_15 gr_148 ?_
      show zW _ _ _ _ _ _ _ _ _ _
      refine z_bret1 gi_248_6 gr_248 ?_
      show zW _ _ _ _ _ _ _ _ _ _
      refine z_if_eqF gi_202_4 zr_1 (by decide) ?_
      refine z_iload2 gi_202_7 ?_
      refine z_pushJ gp_202_8 ?_
      refine z_pushJ gp_202_9 ?_
      refine z_cS3 gi_202_11 (Nat.le_of_ble_eq_true rfl) gc_148_III ?_
      refine z_iload0 gi_148_0 ?_
      refine z_iload1 gi_148_1 ?_
      refine z_icmp_ltF gi_148_2 (by omega) zr_1 (by omega) ?_
      refine z_iload0 gi_148_5 ?_
      refine z_iload2 gi_148_6 ?_
      refine z_icmp_gtT gi_148_7 (by omega) zr_99 (by omega) ?_
      refine z_pushJ gp_148_14 ?_
      refine z_bret0 gi_148_15 gr_148 ?_
      show zW _ _ _ _ _ _ _ _ _ _
      refine z_if_eqT gi_202_14 zr_0 (by decide) ?_
      refine z_pushJ gp_202_26 ?_
      refine z_iret gi_202_27 gr_202 ?_
      refine ⟨?_, ?_⟩
      · first | rfl | exact congrArg (fun v => some (zi v)) (by omega) | (exfalso; omega)
      · exact hr
    · refine z_pushJ gp_145_11 ?_
      refine z_goto gi_145_12 ?_
      refine z_bret1 gi_145_16 gr_145 ?_
      show zW _ _ _ _ _ _ _ _ _ _
      refine z_if_eqF gi_112_11 zr_1 (by decide) ?_
      refine z_iload3 gi_112_14 ?_
      refine z_cS1 gi_112_15 (Nat.le_of_ble_eq_true rfl) gc_146_I ?_
      refine z_iload0 gi_146_0 ?_
      refine z_if_eq gi_146_1 (by omega) (fun h3 => ?_) (fun h3 => ?_)
      · refine z_pushJ gp_146_9 ?_
        refine z_goto gi_146_10 ?_
        refine z_bret1 gi_146_14 gr_146 ?_
        show zW _ _ _ _ _ _ _ _ _ _
        refine z_if_neT gi_112_18 zr_1 (by decide) ?_
        refine z_aload0 gi_112_23 ?_
        refine z_getR (r := 10) gi_112_24 gk_0 (hR _ rm_0_2) ?_
        refine z_aload0 gi_112_27 ?_
        refine z_getR (r := 37) gi_112_28 gk_0 (hR _ rm_0_11) ?_
        refine z_iload1 gi_112_31 ?_
        refine z_aald (r := 38 + 2 * s.toNat) gi_112_32 rfl (by decide) (by omega) (rr_shelf hR (by omega)) ?_
        have hk1 : zK kP J J := zK_r
        refine z_callV (As := [_]) _ gi_112_33 rfl rfl (Nat.le_of_ble_eq_true rfl) (Nat.le_of_ble_eq_true rfl) (follow_k (J := J) (N := (cN J)) (n := J 8 2) (T := T) (s := s) (w := J 10 12) (z := (J (38 + 2 * s.toNat) 3)) (b := (fun i => M (39 + 2 * s.toNat) i)) hR (cN_P hk1) (hk1 8 2 rfl) y3 (LawC_P t2 hk1) t1 hs6 (fun _ _ _ => rfl) hbr (hk1 _ 3 (kP_b (by omega))) s4 ((hk1 _ 0 (kP_b (by omega))).trans hh) ((hk1 _ 2 (kP_b (by omega))).trans hso) rfl hW.1) (fun r J2 M2 R2 hr2 => ?_)
        obtain ⟨rfl, K, hE, hK30, hk3, hc2, hw2, eM, eR⟩ := hr2
        obtain rfl : M = M2 := eM.symm
        obtain rfl : R = R2 := eR.symm
        show zW _ _ _ _ _ (_ :: _) _ _ _ _
        have hk2 := zK_t hk1 hk3
        have hn2 : J2 8 2 = J 8 2 := hk2 8 2 rfl
        have hks : zK kS J J2 := kS_Pw hk3 (hc2.2.2.2.2.1.trans (Eq.symm rfl))
        obtain ⟨S, eS⟩ : ∃ S, S = tS T (cN J) (J 8 2) (fun i => M (39 + 2 * s.toNat) i) (J 10 12) K := ⟨_, rfl⟩
        have hi0 := (tS_r y3 K hE.1).1
        have hz0 := tS_z K hE.1
        rw [← eS] at hc2 hi0 hz0
        have hi := tI_30 hi0 (by omega)
        have qi := hi.2.2
        have hfc : ∀ p, 0 ≤ p → p < 8 → J2 11 p = tsh S p := fun p q1 q2 => hc2.2.2.2.2.2.2.1 p q1 q2
        refine z_istore (ls1 := [some (.ref 0), some (zi s), some (zi q), some (zi v), some (zi 0), none, none, none, none]) gi_112_36 rfl ?_
        refine z_iload4 gi_112_38 ?_
        refine z_if_geT gi_112_40 zr_0 (by decide) ?_
        refine z_pushJ gp_112_46 ?_
        refine z_istore (ls1 := [some (.ref 0), some (zi s), some (zi q), some (zi v), some (zi 0), some (zi (-2)), none, none, none]) gi_112_48 rfl ?_
        refine z_pushJ gp_112_50 ?_
        refine z_istore (ls1 := [some (.ref 0), some (zi s), some (zi q), some (zi v), some (zi 0), some (zi (-2)), some (zi (-2)), none, none]) gi_112_52 rfl ?_
        refine z_pushJ gp_112_54 ?_
        refine z_istore (ls1 := [some (.ref 0), some (zi s), some (zi q), some (zi v), some (zi 0), some (zi (-2)), some (zi (-2)), some (zi 0), none]) gi_112_55 rfl ?_
        show zW _ _ _ _ [some (.ref 0), some (zi s), some (zi q), some (zi v), some (zi 0), some (zi (-2)), some (zi (-2)), some (zi 0), none] [] _ _ _ _
        refine nextC_z (A := J2) hR (cN_P hk2) hn2 y3 (LawC_P t2 hk2) t1 hc2 hi (by omega) (fun e8 J3 hJ3 => ?_) (J 8 2).toNat 0 none J2 zK_r (by omega)
        have hks2 := zK_t hks (zK_m hJ3 kS_T)
        refine z_iload3 gi_112_102 ?_
        refine z_if_neF gi_112_103 (by omega) (by omega) ?_
        refine z_iload6 rfl ?_
        refine z_goto rfl ?_
        refine z_iret gi_112_113 gr_112 ?_
        refine ⟨_, rfl, ?_⟩
        show zW _ _ _ _ [some (.ref 50), some (zi s), some (zi q), some (zi v), none, none, none, none] _ _ _ _ _
        refine z_iload1 gi_202_0 ?_
        refine z_cS1 gi_202_1 (Nat.le_of_ble_eq_true rfl) gc_248_I ?_
        refine z_iload0 gi_248_0 ?_
        refine z_pushJ gp_248_1 ?_
        refine z_pushJ gp_248_2 ?_
        refine z_cS3 gi_248_3 (Nat.le_of_ble_eq_true rfl) gc_148_III ?_
        refine z_iload0 gi_148_0 ?_
        refine z_iload1 gi_148_1 ?_
        refine z_icmp_ltF gi_148_2 (by omega) zr_0 (by omega) ?_
        refine z_iload0 gi_148_5 ?_
        refine z_iload2 gi_148_6 ?_
        refine z_icmp_gtF gi_148_7 (by omega) zr_5 (by omega) ?_
        refine z_pushJ gp_148_10 ?_
        refine z_goto gi_148_11 ?_
        refine z_bret1 gi_148_15 gr_148 ?_
        show zW _ _ _ _ _ _ _ _ _ _
        refine z_bret1 gi_248_6 gr_248 ?_
        show zW _ _ _ _ _ _ _ _ _ _
        refine z_if_eqF gi_202_4 zr_1 (by decide) ?_
        refine z_iload2 gi_202_7 ?_
        refine z_pushJ gp_202_8 ?_
        refine z_pushJ gp_202_9 ?_
        refine z_cS3 gi_202_11 (Nat.le_of_ble_eq_true rfl) gc_148_III ?_
        refine z_iload0 gi_148_0 ?_
        refine z_iload1 gi_148_1 ?_
        refine z_icmp_ltF gi_148_2 (by omega) zr_1 (by omega) ?_
        refine z_iload0 gi_148_5 ?_
        refine z_iload2 gi_148_6 ?_
        refine z_icmp_gtF gi_148_7 (by omega) zr_99 (by omega) ?_
        refine z_pushJ gp_148_10 ?_
        refine z_goto gi_148_11 ?_
        refine z_bret1 gi_148_15 gr_148 ?_
        show zW _ _ _ _ _ _ _ _ _ _
        refine z_if_eqF gi_202_14 zr_1 (by decide) ?_
        refine z_iload3 gi_202_17 ?_
        refine z_pushJ gp_202_18 ?_
        refine z_pushJ gp_202_19 ?_
        refine z_cS3 gi_202_20 (Nat.le_of_ble_eq_true rfl) gc_148_III ?_
        refine z_iload0 gi_148_0 ?_
        refine z_iload1 gi_148_1 ?_
        refine z_icmp_ltF gi_148_2 (by omega) zr_0 (by omega) ?_
        refine z_iload0 gi_148_5 ?_
        refine z_iload2 gi_148_6 ?_
        refine z_icmp_gtF gi_148_7 (by omega) zr_1 (by omega) ?_
        refine z_pushJ gp_148_10 ?_
        refine z_goto gi_148_11 ?_
        refine z_bret1 gi_148_15 gr_148 ?_
        show zW _ _ _ _ _ _ _ _ _ _
        refine z_if_neT gi_202_23 zr_1 (by decide) ?_
        refine z_aload0 gi_202_28 ?_
        refine z_iload1 gi_202_29 ?_
        refine z_cV1 gi_202_30 gk_50 go_192 (Nat.le_of_ble_eq_true rfl) gc_192_RI ?_
        refine z_aload0 gi_192_0 ?_
        refine z_getR (r := 83) gi_192_1 gk_50 (hRr _ rm_50_58 (by decide)) ?_
        refine z_iload1 gi_192_4 ?_
        refine z_iald (v := (-2)) gi_192_5 gk_83 (by decide) (by omega) ((hks2 83 _ rfl).trans e83n) ?_
        refine z_pushJ gp_192_6 ?_
        refine z_icmp_neT gi_192_7 zrn_2 zrn_1 (by decide) ?_
        refine z_aload0 gi_192_15 ?_
        refine z_getR (r := 83) gi_192_16 gk_50 (hRr _ rm_50_58 (by decide)) ?_
        refine z_iload1 gi_192_19 ?_
        refine z_iald (v := (-2)) gi_192_20 gk_83 (by decide) (by omega) ((hks2 83 _ rfl).trans e83n) ?_
        refine z_pushJ gp_192_21 ?_
        refine z_icmp_neF gi_192_23 zrn_2 zrn_2 (by decide) ?_
        refine z_pushJ gp_192_26 ?_
        refine z_goto gi_192_27 ?_
        refine z_iret gi_192_32 gr_192 ?_
        show zW _ _ _ _ _ _ _ _ _ _
        refine z_if_geT gi_202_33 zr_0 (by decide) ?_
        refine z_aload0 gi_202_42 ?_
        refine z_iload1 gi_202_43 ?_
        refine z_pushJ gp_202_44 ?_
        have hV := zK_m hks2 kV_S
        refine z_callV (As := [_, _]) _ gi_202_46 rfl rfl (Nat.le_of_ble_eq_true rfl) (Nat.le_of_ble_eq_true rfl) (goRound_k (N := (cN J)) (n := J 8 2) (T := T) (s := s) (z := (J (38 + 2 * s.toNat) 3)) (b := (fun i => M (39 + 2 * s.toNat) i)) (w := 0) (most := 60) hRr ((rN_V hV).trans y1.symm) ((hks2 50 1 rfl).trans y2.symm) y3 (LawR_V t3 hV) t1 hs6 (fun i i1 i2 => (s8 i i1 i2).symm) hbr ((hks2 84 _ rfl).trans s7) s4 (by decide) ((hks2 50 35 rfl).trans hW.2) (by decide)) (fun r J4 M4 R4 hr4 => ?_)
        obtain ⟨K2, rfl, hO, hOr, hK2, hq4, hr4, eM, eR⟩ := hr4
        obtain rfl : M = M4 := eM.symm
        obtain rfl : R = R4 := eR.symm
        show zW _ _ _ _ _ (_ :: _) _ _ _ _
        have eK : K2 = K := tEnd_w ⟨hO, (by rcases hOr with h | h; (exfalso; omega); exact h)⟩ hE
        rw [eK] at hr4
        have hg : rTg J4 (J 8 2) S (sGone (cN J) (J 8 2)) := rT_w eS hr4
        have hs4 := zK_t hks2 (zK_m hq4 kS_Q)
        have hn4 : J4 50 1 = J 8 2 := (hs4 50 1 rfl).trans y2.symm
        have hfr : ∀ p, 0 ≤ p → p < J 8 2 → J4 69 p = tsh S p := fun p q1 q2 => hg.2.2.2.2.1 p q1 q2
        refine z_pop gi_202_49 rfl ?_
        refine z_pushJ gp_202_50 ?_
        refine z_istore (ls1 := [some (.ref 50), some (zi s), some (zi q), some (zi v), some (zi (-2)), none, none, none]) gi_202_52 rfl ?_
        refine z_pushJ gp_202_54 ?_
        refine z_istore (ls1 := [some (.ref 50), some (zi s), some (zi q), some (zi v), some (zi (-2)), some (zi (-2)), none, none]) gi_202_56 rfl ?_
        refine z_pushJ gp_202_58 ?_
        refine z_istore (ls1 := [some (.ref 50), some (zi s), some (zi q), some (zi v), some (zi (-2)), some (zi (-2)), some (zi 0), none]) gi_202_59 rfl ?_
        show zW _ _ _ _ [some (.ref 50), some (zi s), some (zi q), some (zi v), some (zi (-2)), some (zi (-2)), some (zi 0), none] [] _ _ _ _
        have hV4 := zK_m hs4 kV_S
        refine nextR_z (A := J4) hRr ((rN_V hV4).trans y1.symm) hn4 y3 (LawR_V t3 hV4) t1 hg hi (by omega) (fun e7 J5 hJ5 => ?_) (J 8 2).toNat 0 none J4 zK_r (by omega)
        have hs5 := zK_t hs4 (zK_m hJ5 kS_T)
        refine z_iload3 gi_202_137 ?_
        refine z_if_neF gi_202_138 (by omega) (by omega) ?_
        refine z_iload4 rfl ?_
        refine z_goto rfl ?_
        refine z_iret gi_202_148 gr_202 ?_
        refine ⟨?_, ?_⟩
        · first | rfl | exact congrArg (fun v => some (zi v)) (by omega) | (exfalso; omega)
        · exact Rel_S hs5 zK_r hr
      · refine z_iload0 gi_146_4 ?_
        refine z_pushJ gp_146_5 ?_
        refine z_icmp_ne gi_146_6 (by omega) zr_1 (fun h4 => ?_) (fun h4 => ?_)
        · refine z_pushJ gp_146_13 ?_
          refine z_bret0 gi_146_14 gr_146 ?_
          show zW _ _ _ _ _ _ _ _ _ _
          refine z_if_neF gi_112_18 zr_0 (by decide) ?_
          refine z_pushJ gp_112_21 ?_
          refine z_iret gi_112_22 gr_112 ?_
          refine ⟨_, rfl, ?_⟩
          show zW _ _ _ _ [some (.ref 50), some (zi s), some (zi q), some (zi v), none, none, none, none] _ _ _ _ _
          refine z_iload1 gi_202_0 ?_
          refine z_cS1 gi_202_1 (Nat.le_of_ble_eq_true rfl) gc_248_I ?_
          refine z_iload0 gi_248_0 ?_
          refine z_pushJ gp_248_1 ?_
          refine z_pushJ gp_248_2 ?_
          refine z_cS3 gi_248_3 (Nat.le_of_ble_eq_true rfl) gc_148_III ?_
          refine z_iload0 gi_148_0 ?_
          refine z_iload1 gi_148_1 ?_
          refine z_icmp_ltF gi_148_2 (by omega) zr_0 (by omega) ?_
          refine z_iload0 gi_148_5 ?_
          refine z_iload2 gi_148_6 ?_
          refine z_icmp_gtF gi_148_7 (by omega) zr_5 (by omega) ?_
          refine z_pushJ gp_148_10 ?_
          refine z_goto gi_148_11 ?_
          refine z_bret1 gi_148_15 gr_148 ?_
          show zW _ _ _ _ _ _ _ _ _ _
          refine z_bret1 gi_248_6 gr_248 ?_
          show zW _ _ _ _ _ _ _ _ _ _
          refine z_if_eqF gi_202_4 zr_1 (by decide) ?_
          refine z_iload2 gi_202_7 ?_
          refine z_pushJ gp_202_8 ?_
          refine z_pushJ gp_202_9 ?_
          refine z_cS3 gi_202_11 (Nat.le_of_ble_eq_true rfl) gc_148_III ?_
          refine z_iload0 gi_148_0 ?_
          refine z_iload1 gi_148_1 ?_
          refine z_icmp_ltF gi_148_2 (by omega) zr_1 (by omega) ?_
          refine z_iload0 gi_148_5 ?_
          refine z_iload2 gi_148_6 ?_
          refine z_icmp_gtF gi_148_7 (by omega) zr_99 (by omega) ?_
          refine z_pushJ gp_148_10 ?_
          refine z_goto gi_148_11 ?_
          refine z_bret1 gi_148_15 gr_148 ?_
          show zW _ _ _ _ _ _ _ _ _ _
          refine z_if_eqF gi_202_14 zr_1 (by decide) ?_
          refine z_iload3 gi_202_17 ?_
          refine z_pushJ gp_202_18 ?_
          refine z_pushJ gp_202_19 ?_
          refine z_cS3 gi_202_20 (Nat.le_of_ble_eq_true rfl) gc_148_III ?_
          refine z_iload0 gi_148_0 ?_
          refine z_iload1 gi_148_1 ?_
          refine z_icmp_lt gi_148_2 (by omega) zr_0 (fun h5 => ?_) (fun h5 => ?_)
          · refine z_pushJ gp_148_14 ?_
            refine z_bret0 gi_148_15 gr_148 ?_
            show zW _ _ _ _ _ _ _ _ _ _
            refine z_if_neF gi_202_23 zr_0 (by decide) ?_
            refine z_pushJ gp_202_26 ?_
            refine z_iret gi_202_27 gr_202 ?_
            refine ⟨?_, ?_⟩
            · first | rfl | exact congrArg (fun v => some (zi v)) (by omega) | (exfalso; omega)
            · exact hr
          · refine z_iload0 gi_148_5 ?_
            refine z_iload2 gi_148_6 ?_
            refine z_icmp_gt gi_148_7 (by omega) zr_1 (fun h6 => ?_) (fun h6 => ?_)
            · refine z_pushJ gp_148_14 ?_
              refine z_bret0 gi_148_15 gr_148 ?_
              show zW _ _ _ _ _ _ _ _ _ _
              refine z_if_neF gi_202_23 zr_0 (by decide) ?_
              refine z_pushJ gp_202_26 ?_
              refine z_iret gi_202_27 gr_202 ?_
              refine ⟨?_, ?_⟩
              · first | rfl | exact congrArg (fun v => some (zi v)) (by omega) | (exfalso; omega)
              · exact hr
            · refine z_pushJ gp_148_10 ?_
              refine z_goto gi_148_11 ?_
              refine z_bret1 gi_148_15 gr_148 ?_
              show zW _ _ _ _ _ _ _ _ _ _
              refine z_if_neT gi_202_23 zr_1 (by decide) ?_
              refine z_aload0 gi_202_28 ?_
              refine z_iload1 gi_202_29 ?_
              refine z_cV1 gi_202_30 gk_50 go_192 (Nat.le_of_ble_eq_true rfl) gc_192_RI ?_
              refine z_aload0 gi_192_0 ?_
              refine z_getR (r := 83) gi_192_1 gk_50 (hRr _ rm_50_58 (by decide)) ?_
              refine z_iload1 gi_192_4 ?_
              refine z_iald (v := (-2)) gi_192_5 gk_83 (by decide) (by omega) (e83n) ?_
              refine z_pushJ gp_192_6 ?_
              refine z_icmp_neT gi_192_7 zrn_2 zrn_1 (by decide) ?_
              refine z_aload0 gi_192_15 ?_
              refine z_getR (r := 83) gi_192_16 gk_50 (hRr _ rm_50_58 (by decide)) ?_
              refine z_iload1 gi_192_19 ?_
              refine z_iald (v := (-2)) gi_192_20 gk_83 (by decide) (by omega) (e83n) ?_
              refine z_pushJ gp_192_21 ?_
              refine z_icmp_neF gi_192_23 zrn_2 zrn_2 (by decide) ?_
              refine z_pushJ gp_192_26 ?_
              refine z_goto gi_192_27 ?_
              refine z_iret gi_192_32 gr_192 ?_
              show zW _ _ _ _ _ _ _ _ _ _
              refine z_if_geT gi_202_33 zr_0 (by decide) ?_
              refine z_aload0 gi_202_42 ?_
              refine z_iload1 gi_202_43 ?_
              refine z_pushJ gp_202_44 ?_
              exfalso
              omega
        · refine z_pushJ gp_146_9 ?_
          refine z_goto gi_146_10 ?_
          refine z_bret1 gi_146_14 gr_146 ?_
          show zW _ _ _ _ _ _ _ _ _ _
          refine z_if_neT gi_112_18 zr_1 (by decide) ?_
          refine z_aload0 gi_112_23 ?_
          refine z_getR (r := 10) gi_112_24 gk_0 (hR _ rm_0_2) ?_
          refine z_aload0 gi_112_27 ?_
          refine z_getR (r := 37) gi_112_28 gk_0 (hR _ rm_0_11) ?_
          refine z_iload1 gi_112_31 ?_
          refine z_aald (r := 38 + 2 * s.toNat) gi_112_32 rfl (by decide) (by omega) (rr_shelf hR (by omega)) ?_
          have hk1 : zK kP J J := zK_r
          refine z_callV (As := [_]) _ gi_112_33 rfl rfl (Nat.le_of_ble_eq_true rfl) (Nat.le_of_ble_eq_true rfl) (follow_k (J := J) (N := (cN J)) (n := J 8 2) (T := T) (s := s) (w := J 10 12) (z := (J (38 + 2 * s.toNat) 3)) (b := (fun i => M (39 + 2 * s.toNat) i)) hR (cN_P hk1) (hk1 8 2 rfl) y3 (LawC_P t2 hk1) t1 hs6 (fun _ _ _ => rfl) hbr (hk1 _ 3 (kP_b (by omega))) s4 ((hk1 _ 0 (kP_b (by omega))).trans hh) ((hk1 _ 2 (kP_b (by omega))).trans hso) rfl hW.1) (fun r J2 M2 R2 hr2 => ?_)
          obtain ⟨rfl, K, hE, hK30, hk3, hc2, hw2, eM, eR⟩ := hr2
          obtain rfl : M = M2 := eM.symm
          obtain rfl : R = R2 := eR.symm
          show zW _ _ _ _ _ (_ :: _) _ _ _ _
          have hk2 := zK_t hk1 hk3
          have hn2 : J2 8 2 = J 8 2 := hk2 8 2 rfl
          have hks : zK kS J J2 := kS_Pw hk3 (hc2.2.2.2.2.1.trans (Eq.symm rfl))
          obtain ⟨S, eS⟩ : ∃ S, S = tS T (cN J) (J 8 2) (fun i => M (39 + 2 * s.toNat) i) (J 10 12) K := ⟨_, rfl⟩
          have hi0 := (tS_r y3 K hE.1).1
          have hz0 := tS_z K hE.1
          rw [← eS] at hc2 hi0 hz0
          have hi := tI_30 hi0 (by omega)
          have qi := hi.2.2
          have hfc : ∀ p, 0 ≤ p → p < 8 → J2 11 p = tsh S p := fun p q1 q2 => hc2.2.2.2.2.2.2.1 p q1 q2
          refine z_istore (ls1 := [some (.ref 0), some (zi s), some (zi q), some (zi v), some (zi 0), none, none, none, none]) gi_112_36 rfl ?_
          refine z_iload4 gi_112_38 ?_
          refine z_if_geT gi_112_40 zr_0 (by decide) ?_
          refine z_pushJ gp_112_46 ?_
          refine z_istore (ls1 := [some (.ref 0), some (zi s), some (zi q), some (zi v), some (zi 0), some (zi (-2)), none, none, none]) gi_112_48 rfl ?_
          refine z_pushJ gp_112_50 ?_
          refine z_istore (ls1 := [some (.ref 0), some (zi s), some (zi q), some (zi v), some (zi 0), some (zi (-2)), some (zi (-2)), none, none]) gi_112_52 rfl ?_
          refine z_pushJ gp_112_54 ?_
          refine z_istore (ls1 := [some (.ref 0), some (zi s), some (zi q), some (zi v), some (zi 0), some (zi (-2)), some (zi (-2)), some (zi 0), none]) gi_112_55 rfl ?_
          show zW _ _ _ _ [some (.ref 0), some (zi s), some (zi q), some (zi v), some (zi 0), some (zi (-2)), some (zi (-2)), some (zi 0), none] [] _ _ _ _
          refine nextC_z (A := J2) hR (cN_P hk2) hn2 y3 (LawC_P t2 hk2) t1 hc2 hi (by omega) (fun e8 J3 hJ3 => ?_) (J 8 2).toNat 0 none J2 zK_r (by omega)
          have hks2 := zK_t hks (zK_m hJ3 kS_T)
          refine z_iload3 gi_112_102 ?_
          refine z_if_neT gi_112_103 (by omega) (by omega) ?_
          refine z_iload5 rfl ?_
          refine z_iret gi_112_113 gr_112 ?_
          refine ⟨_, rfl, ?_⟩
          show zW _ _ _ _ [some (.ref 50), some (zi s), some (zi q), some (zi v), none, none, none, none] _ _ _ _ _
          refine z_iload1 gi_202_0 ?_
          refine z_cS1 gi_202_1 (Nat.le_of_ble_eq_true rfl) gc_248_I ?_
          refine z_iload0 gi_248_0 ?_
          refine z_pushJ gp_248_1 ?_
          refine z_pushJ gp_248_2 ?_
          refine z_cS3 gi_248_3 (Nat.le_of_ble_eq_true rfl) gc_148_III ?_
          refine z_iload0 gi_148_0 ?_
          refine z_iload1 gi_148_1 ?_
          refine z_icmp_ltF gi_148_2 (by omega) zr_0 (by omega) ?_
          refine z_iload0 gi_148_5 ?_
          refine z_iload2 gi_148_6 ?_
          refine z_icmp_gtF gi_148_7 (by omega) zr_5 (by omega) ?_
          refine z_pushJ gp_148_10 ?_
          refine z_goto gi_148_11 ?_
          refine z_bret1 gi_148_15 gr_148 ?_
          show zW _ _ _ _ _ _ _ _ _ _
          refine z_bret1 gi_248_6 gr_248 ?_
          show zW _ _ _ _ _ _ _ _ _ _
          refine z_if_eqF gi_202_4 zr_1 (by decide) ?_
          refine z_iload2 gi_202_7 ?_
          refine z_pushJ gp_202_8 ?_
          refine z_pushJ gp_202_9 ?_
          refine z_cS3 gi_202_11 (Nat.le_of_ble_eq_true rfl) gc_148_III ?_
          refine z_iload0 gi_148_0 ?_
          refine z_iload1 gi_148_1 ?_
          refine z_icmp_ltF gi_148_2 (by omega) zr_1 (by omega) ?_
          refine z_iload0 gi_148_5 ?_
          refine z_iload2 gi_148_6 ?_
          refine z_icmp_gtF gi_148_7 (by omega) zr_99 (by omega) ?_
          refine z_pushJ gp_148_10 ?_
          refine z_goto gi_148_11 ?_
          refine z_bret1 gi_148_15 gr_148 ?_
          show zW _ _ _ _ _ _ _ _ _ _
          refine z_if_eqF gi_202_14 zr_1 (by decide) ?_
          refine z_iload3 gi_202_17 ?_
          refine z_pushJ gp_202_18 ?_
          refine z_pushJ gp_202_19 ?_
          refine z_cS3 gi_202_20 (Nat.le_of_ble_eq_true rfl) gc_148_III ?_
          refine z_iload0 gi_148_0 ?_
          refine z_iload1 gi_148_1 ?_
          refine z_icmp_ltF gi_148_2 (by omega) zr_0 (by omega) ?_
          refine z_iload0 gi_148_5 ?_
          refine z_iload2 gi_148_6 ?_
          refine z_icmp_gtF gi_148_7 (by omega) zr_1 (by omega) ?_
          refine z_pushJ gp_148_10 ?_
          refine z_goto gi_148_11 ?_
          refine z_bret1 gi_148_15 gr_148 ?_
          show zW _ _ _ _ _ _ _ _ _ _
          refine z_if_neT gi_202_23 zr_1 (by decide) ?_
          refine z_aload0 gi_202_28 ?_
          refine z_iload1 gi_202_29 ?_
          refine z_cV1 gi_202_30 gk_50 go_192 (Nat.le_of_ble_eq_true rfl) gc_192_RI ?_
          refine z_aload0 gi_192_0 ?_
          refine z_getR (r := 83) gi_192_1 gk_50 (hRr _ rm_50_58 (by decide)) ?_
          refine z_iload1 gi_192_4 ?_
          refine z_iald (v := (-2)) gi_192_5 gk_83 (by decide) (by omega) ((hks2 83 _ rfl).trans e83n) ?_
          refine z_pushJ gp_192_6 ?_
          refine z_icmp_neT gi_192_7 zrn_2 zrn_1 (by decide) ?_
          refine z_aload0 gi_192_15 ?_
          refine z_getR (r := 83) gi_192_16 gk_50 (hRr _ rm_50_58 (by decide)) ?_
          refine z_iload1 gi_192_19 ?_
          refine z_iald (v := (-2)) gi_192_20 gk_83 (by decide) (by omega) ((hks2 83 _ rfl).trans e83n) ?_
          refine z_pushJ gp_192_21 ?_
          refine z_icmp_neF gi_192_23 zrn_2 zrn_2 (by decide) ?_
          refine z_pushJ gp_192_26 ?_
          refine z_goto gi_192_27 ?_
          refine z_iret gi_192_32 gr_192 ?_
          show zW _ _ _ _ _ _ _ _ _ _
          refine z_if_geT gi_202_33 zr_0 (by decide) ?_
          refine z_aload0 gi_202_42 ?_
          refine z_iload1 gi_202_43 ?_
          refine z_pushJ gp_202_44 ?_
          have hV := zK_m hks2 kV_S
          refine z_callV (As := [_, _]) _ gi_202_46 rfl rfl (Nat.le_of_ble_eq_true rfl) (Nat.le_of_ble_eq_true rfl) (goRound_k (N := (cN J)) (n := J 8 2) (T := T) (s := s) (z := (J (38 + 2 * s.toNat) 3)) (b := (fun i => M (39 + 2 * s.toNat) i)) (w := 0) (most := 60) hRr ((rN_V hV).trans y1.symm) ((hks2 50 1 rfl).trans y2.symm) y3 (LawR_V t3 hV) t1 hs6 (fun i i1 i2 => (s8 i i1 i2).symm) hbr ((hks2 84 _ rfl).trans s7) s4 (by decide) ((hks2 50 35 rfl).trans hW.2) (by decide)) (fun r J4 M4 R4 hr4 => ?_)
          obtain ⟨K2, rfl, hO, hOr, hK2, hq4, hr4, eM, eR⟩ := hr4
          obtain rfl : M = M4 := eM.symm
          obtain rfl : R = R4 := eR.symm
          show zW _ _ _ _ _ (_ :: _) _ _ _ _
          have eK : K2 = K := tEnd_w ⟨hO, (by rcases hOr with h | h; (exfalso; omega); exact h)⟩ hE
          rw [eK] at hr4
          have hg : rTg J4 (J 8 2) S (sGone (cN J) (J 8 2)) := rT_w eS hr4
          have hs4 := zK_t hks2 (zK_m hq4 kS_Q)
          have hn4 : J4 50 1 = J 8 2 := (hs4 50 1 rfl).trans y2.symm
          have hfr : ∀ p, 0 ≤ p → p < J 8 2 → J4 69 p = tsh S p := fun p q1 q2 => hg.2.2.2.2.1 p q1 q2
          refine z_pop gi_202_49 rfl ?_
          refine z_pushJ gp_202_50 ?_
          refine z_istore (ls1 := [some (.ref 50), some (zi s), some (zi q), some (zi v), some (zi (-2)), none, none, none]) gi_202_52 rfl ?_
          refine z_pushJ gp_202_54 ?_
          refine z_istore (ls1 := [some (.ref 50), some (zi s), some (zi q), some (zi v), some (zi (-2)), some (zi (-2)), none, none]) gi_202_56 rfl ?_
          refine z_pushJ gp_202_58 ?_
          refine z_istore (ls1 := [some (.ref 50), some (zi s), some (zi q), some (zi v), some (zi (-2)), some (zi (-2)), some (zi 0), none]) gi_202_59 rfl ?_
          show zW _ _ _ _ [some (.ref 50), some (zi s), some (zi q), some (zi v), some (zi (-2)), some (zi (-2)), some (zi 0), none] [] _ _ _ _
          have hV4 := zK_m hs4 kV_S
          refine nextR_z (A := J4) hRr ((rN_V hV4).trans y1.symm) hn4 y3 (LawR_V t3 hV4) t1 hg hi (by omega) (fun e7 J5 hJ5 => ?_) (J 8 2).toNat 0 none J4 zK_r (by omega)
          have hs5 := zK_t hs4 (zK_m hJ5 kS_T)
          refine z_iload3 gi_202_137 ?_
          refine z_if_neT gi_202_138 (by omega) (by omega) ?_
          refine z_iload5 rfl ?_
          refine z_iret gi_202_148 gr_202 ?_
          refine ⟨?_, ?_⟩
          · first | rfl | exact congrArg (fun v => some (zi v)) (by omega) | (exfalso; omega)
          · exact Rel_S hs5 zK_r hr
theorem st_next {X : Nat × (Nat → Int32)} {d : Nat} {J M : zA} {R : zR} {s q v : Int} (hr : Rel X J M R) (hs : -2147483648 ≤ s ∧ s < 2147483648) (hq : -2147483648 ≤ q ∧ q < 2147483648) (hv : -2147483648 ≤ v ∧ v < 2147483648) : zW X (d + 20) 112 0 (gEn 112 [(.ref 0), (zi s), (zi q), (zi v)]) [] J M R (stP X (d + 20) 202 [(zi s), (zi q), (zi v)]) := by
  by_cases hs6 : 0 ≤ s ∧ s < 6
  · have hS : RelS J M := hr.2.2.2.2.2.2.2.1
    have h2 := (hS s hs6.1 hs6.2).2.1
    have h4 : J (38 + 2 * s.toNat) 0 = 0 ∨ J (38 + 2 * s.toNat) 0 = 1 ∨ J (38 + 2 * s.toNat) 0 = 2 := by omega
    rcases h4 with hh | hh | hh
    · exact st_next_0 hr hs hq hv hs6 hh
    · exact st_next_1 hr hs hq hv hs6 hh
    · by_cases hso : J (38 + 2 * s.toNat) 2 = 0
      · exact st_next_m hr hs hq hv hs6 hh hso
      · exact st_next_2 hr hs hq hv hs6 hh hso
  · exact st_next_n hr hs hq hv hs6
