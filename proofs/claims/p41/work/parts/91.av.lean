theorem tI_30 {n k : Int} {s : tR} (h : tI n s k) (hk : k ≤ 30) : tI n s 30 := by
  obtain ⟨a, b, c, d, e, f⟩ := h
  refine ⟨a, fun p => ?_, c, d, ?_, f⟩
  · have := b p
    omega
  · omega
theorem st_round_n {X : Nat × (Nat → Int32)} {d : Nat} {J M : zA} {R : zR} {s p : Int} (hr : Rel X J M R) (hs : -2147483648 ≤ s ∧ s < 2147483648) (hp : -2147483648 ≤ p ∧ p < 2147483648) (hs6 : ¬ (0 ≤ s ∧ s < 6)) : zW X (d + 20) 109 0 (gEn 109 [(.ref 0), (zi s), (zi p)]) [] J M R (stP X (d + 20) 196 [(zi s), (zi p)]) := by
  have hr0 := hr
  obtain ⟨hR, hG, hY, hD, hP, hC, hAc, hS, hTp, hX, hW⟩ := hr0
  have hRr : zRoR R := zRoR_of hR
  have hY0 := hY
  obtain ⟨y1, y2, y3⟩ := hY0
  have yn := zNn y3
  show zW _ _ _ _ [some (.ref 0), some (zi s), some (zi p), none] _ _ _ _ _
  refine z_iload1 gi_109_0 ?_
  refine z_cS1 gi_109_1 (Nat.le_of_ble_eq_true rfl) gc_143_I ?_
  refine z_iload0 gi_143_0 ?_
  refine z_if_lt gi_143_1 (by omega) (fun h1 => ?_) (fun h1 => ?_)
  · refine z_pushJ gp_143_14 ?_
    refine z_bret0 gi_143_15 gr_143 ?_
    show zW _ _ _ _ _ _ _ _ _ _
    refine z_if_eqT gi_109_4 zr_0 (by decide) ?_
    refine z_pushJ gp_109_24 ?_
    refine z_iret gi_109_25 gr_109 ?_
    refine ⟨_, rfl, ?_⟩
    show zW _ _ _ _ [some (.ref 50), some (zi s), some (zi p), none] _ _ _ _ _
    refine z_iload1 gi_196_0 ?_
    refine z_cS1 gi_196_1 (Nat.le_of_ble_eq_true rfl) gc_248_I ?_
    refine z_iload0 gi_248_0 ?_
    refine z_pushJ gp_248_1 ?_
    refine z_pushJ gp_248_2 ?_
    refine z_cS3 gi_248_3 (Nat.le_of_ble_eq_true rfl) gc_148_III ?_
    refine z_iload0 gi_148_0 ?_
    refine z_iload1 gi_148_1 ?_
    refine z_icmp_ltT gi_148_2 (by omega) zr_0 (by omega) ?_
    refine z_pushJ gp_148_14 ?_
    refine z_bret0 gi_148_15 gr_148 ?_
    show zW _ _ _ _ _ _ _ _ _ _
    refine z_bret0 gi_248_6 gr_248 ?_
    show zW _ _ _ _ _ _ _ _ _ _
    refine z_if_eqT gi_196_4 zr_0 (by decide) ?_
    refine z_pushJ gp_196_22 ?_
    refine z_iret gi_196_23 gr_196 ?_
    refine ⟨?_, ?_⟩
    · first | rfl | exact congrArg (fun v => some (zi v)) (by omega) | (exfalso; omega)
    · exact hr
  · refine z_iload0 gi_143_4 ?_
    refine z_pushJ gp_143_5 ?_
    refine z_icmp_geT gi_143_7 (by omega) zr_6 (by omega) ?_
    refine z_pushJ gp_143_14 ?_
    refine z_bret0 gi_143_15 gr_143 ?_
    show zW _ _ _ _ _ _ _ _ _ _
    refine z_if_eqT gi_109_4 zr_0 (by decide) ?_
    refine z_pushJ gp_109_24 ?_
    refine z_iret gi_109_25 gr_109 ?_
    refine ⟨_, rfl, ?_⟩
    show zW _ _ _ _ [some (.ref 50), some (zi s), some (zi p), none] _ _ _ _ _
    refine z_iload1 gi_196_0 ?_
    refine z_cS1 gi_196_1 (Nat.le_of_ble_eq_true rfl) gc_248_I ?_
    refine z_iload0 gi_248_0 ?_
    refine z_pushJ gp_248_1 ?_
    refine z_pushJ gp_248_2 ?_
    refine z_cS3 gi_248_3 (Nat.le_of_ble_eq_true rfl) gc_148_III ?_
    refine z_iload0 gi_148_0 ?_
    refine z_iload1 gi_148_1 ?_
    refine z_icmp_ltF gi_148_2 (by omega) zr_0 (by omega) ?_
    refine z_iload0 gi_148_5 ?_
    refine z_iload2 gi_148_6 ?_
    refine z_icmp_gtT gi_148_7 (by omega) zr_5 (by omega) ?_
    refine z_pushJ gp_148_14 ?_
    refine z_bret0 gi_148_15 gr_148 ?_
    show zW _ _ _ _ _ _ _ _ _ _
    refine z_bret0 gi_248_6 gr_248 ?_
    show zW _ _ _ _ _ _ _ _ _ _
    refine z_if_eqT gi_196_4 zr_0 (by decide) ?_
    refine z_pushJ gp_196_22 ?_
    refine z_iret gi_196_23 gr_196 ?_
    refine ⟨?_, ?_⟩
    · first | rfl | exact congrArg (fun v => some (zi v)) (by omega) | (exfalso; omega)
    · exact hr
theorem st_round_0 {X : Nat × (Nat → Int32)} {d : Nat} {J M : zA} {R : zR} {s p : Int} (hr : Rel X J M R) (hs : -2147483648 ≤ s ∧ s < 2147483648) (hp : -2147483648 ≤ p ∧ p < 2147483648) (hs6 : 0 ≤ s ∧ s < 6) (hh : J (38 + 2 * s.toNat) 0 = 0) : zW X (d + 20) 109 0 (gEn 109 [(.ref 0), (zi s), (zi p)]) [] J M R (stP X (d + 20) 196 [(zi s), (zi p)]) := by
  have hr0 := hr
  obtain ⟨hR, hG, hY, hD, hP, hC, hAc, hS, hTp, hX, hW⟩ := hr0
  have hRr : zRoR R := zRoR_of hR
  have hY0 := hY
  obtain ⟨y1, y2, y3⟩ := hY0
  have yn := zNn y3
  have hA0 := hAc
  obtain ⟨a1, a2, a3, a4, a5, a6⟩ := hA0
  have e83 : J 83 s = -1 := (hS s hs6.1 hs6.2).1.symm.trans (cH_0 hh)
  have s3 : 0 ≤ J (38 + 2 * s.toNat) 2 ∧ J (38 + 2 * s.toNat) 2 ≤ 4 := (hS s hs6.1 hs6.2).2.2.1
  have s4 : 0 ≤ J (38 + 2 * s.toNat) 3 ∧ J (38 + 2 * s.toNat) 3 ≤ 60 := (hS s hs6.1 hs6.2).2.2.2.1
  show zW _ _ _ _ [some (.ref 0), some (zi s), some (zi p), none] _ _ _ _ _
  refine z_iload1 gi_109_0 ?_
  refine z_cS1 gi_109_1 (Nat.le_of_ble_eq_true rfl) gc_143_I ?_
  refine z_iload0 gi_143_0 ?_
  refine z_if_ltF gi_143_1 (by omega) (by omega) ?_
  refine z_iload0 gi_143_4 ?_
  refine z_pushJ gp_143_5 ?_
  refine z_icmp_geF gi_143_7 (by omega) zr_6 (by omega) ?_
  refine z_pushJ gp_143_10 ?_
  refine z_goto gi_143_11 ?_
  refine z_bret1 gi_143_15 gr_143 ?_
  show zW _ _ _ _ _ _ _ _ _ _
  refine z_if_eqF gi_109_4 zr_1 (by decide) ?_
  refine z_iload2 gi_109_7 ?_
  refine z_pushJ gp_109_8 ?_
  refine z_icmp_lt gi_109_10 (by omega) zrn_3 (fun h1 => ?_) (fun h1 => ?_)
  · refine z_pushJ gp_109_24 ?_
    refine z_iret gi_109_25 gr_109 ?_
    refine ⟨_, rfl, ?_⟩
    show zW _ _ _ _ [some (.ref 50), some (zi s), some (zi p), none] _ _ _ _ _
    refine z_iload1 gi_196_0 ?_
    refine z_cS1 gi_196_1 (Nat.le_of_ble_eq_true rfl) gc_248_I ?_
    refine z_iload0 gi_248_0 ?_
    refine z_pushJ gp_248_1 ?_
    refine z_pushJ gp_248_2 ?_
    refine z_cS3 gi_248_3 (Nat.le_of_ble_eq_true rfl) gc_148_III ?_
    refine z_iload0 gi_148_0 ?_
    refine z_iload1 gi_148_1 ?_
    refine z_icmp_ltF gi_148_2 (by omega) zr_0 (by omega) ?_
    refine z_iload0 gi_148_5 ?_
    refine z_iload2 gi_148_6 ?_
    refine z_icmp_gtF gi_148_7 (by omega) zr_5 (by omega) ?_
    refine z_pushJ gp_148_10 ?_
    refine z_goto gi_148_11 ?_
    refine z_bret1 gi_148_15 gr_148 ?_
    show zW _ _ _ _ _ _ _ _ _ _
    refine z_bret1 gi_248_6 gr_248 ?_
    show zW _ _ _ _ _ _ _ _ _ _
    refine z_if_eqF gi_196_4 zr_1 (by decide) ?_
    refine z_iload2 gi_196_7 ?_
    refine z_pushJ gp_196_8 ?_
    refine z_aload0 gi_196_10 ?_
    refine z_getI (v := J 8 2) gi_196_11 gk_50 (y2.symm) ?_
    refine z_pushJ gp_196_14 ?_
    refine z_isub (e := (J 8 2) - 1) gi_196_15 rfl ?_
    refine z_cS3 gi_196_16 (Nat.le_of_ble_eq_true rfl) gc_148_III ?_
    refine z_iload0 gi_148_0 ?_
    refine z_iload1 gi_148_1 ?_
    refine z_icmp_ltT gi_148_2 (by omega) zrn_3 (by omega) ?_
    refine z_pushJ gp_148_14 ?_
    refine z_bret0 gi_148_15 gr_148 ?_
    show zW _ _ _ _ _ _ _ _ _ _
    refine z_if_neF gi_196_19 zr_0 (by decide) ?_
    refine z_pushJ gp_196_22 ?_
    refine z_iret gi_196_23 gr_196 ?_
    refine ⟨?_, ?_⟩
    · first | rfl | exact congrArg (fun v => some (zi v)) (by omega) | (exfalso; omega)
    · exact hr
  · refine z_iload2 gi_109_13 ?_
    refine z_aload0 gi_109_14 ?_
    refine z_getR (r := 8) gi_109_15 gk_0 (hR _ rm_0_1) ?_
    refine z_getI (v := J 8 2) gi_109_18 gk_8 (rfl) ?_
    refine z_icmp_lt gi_109_21 (by omega) (by omega) (fun h2 => ?_) (fun h2 => ?_)
    · refine z_aload0 gi_109_26 ?_
      refine z_getR (r := 10) gi_109_27 gk_0 (hR _ rm_0_2) ?_
      refine z_aload0 gi_109_30 ?_
      refine z_getR (r := 37) gi_109_31 gk_0 (hR _ rm_0_11) ?_
      refine z_iload1 gi_109_34 ?_
      refine z_aald (r := 38 + 2 * s.toNat) gi_109_35 rfl (by decide) (by omega) (rr_shelf hR (by omega)) ?_
      refine z_callVi (As := [_]) (le := [some _, some _, none, none, none]) gi_109_36 rfl gk_10 (Nat.le_of_ble_eq_true rfl) (Nat.le_of_ble_eq_true rfl) rfl ?_
      refine z_aload1 gi_78_0 ?_
      refine z_callVi (As := []) (le := [some _]) gi_78_1 rfl (zk_shelf (by omega)) (Nat.le_of_ble_eq_true rfl) (Nat.le_of_ble_eq_true rfl) rfl ?_
      refine z_aload0 gi_69_0 ?_
      refine z_getI (v := 0) gi_69_1 (zk_shelf (by omega)) (hh) ?_
      refine z_if_neF gi_69_4 zr_0 (by decide) ?_
      refine z_pushJ gp_69_7 ?_
      refine z_iret gi_69_9 gr_69 ?_
      show zW _ _ _ _ _ _ _ _ _ _
      refine z_istore (ls1 := [some (.ref 10), some (.ref (38 + 2 * s.toNat)), some (zi (-11)), none, none]) gi_78_4 rfl ?_
      refine z_iload2 gi_78_5 ?_
      refine z_if_geF gi_78_6 zrn_11 (by decide) ?_
      refine z_iload2 gi_78_9 ?_
      refine z_iret gi_78_10 gr_78 ?_
      show zW _ _ _ _ _ _ _ _ _ _
      refine z_istore (ls1 := [some (.ref 0), some (zi s), some (zi p), some (zi (-11))]) gi_109_39 rfl ?_
      refine z_iload3 gi_109_40 ?_
      refine z_if_geF gi_109_41 zrn_11 (by decide) ?_
      refine z_iload3 gi_109_44 ?_
      refine z_iret gi_109_45 gr_109 ?_
      refine ⟨_, rfl, ?_⟩
      show zW _ _ _ _ [some (.ref 50), some (zi s), some (zi p), none] _ _ _ _ _
      refine z_iload1 gi_196_0 ?_
      refine z_cS1 gi_196_1 (Nat.le_of_ble_eq_true rfl) gc_248_I ?_
      refine z_iload0 gi_248_0 ?_
      refine z_pushJ gp_248_1 ?_
      refine z_pushJ gp_248_2 ?_
      refine z_cS3 gi_248_3 (Nat.le_of_ble_eq_true rfl) gc_148_III ?_
      refine z_iload0 gi_148_0 ?_
      refine z_iload1 gi_148_1 ?_
      refine z_icmp_ltF gi_148_2 (by omega) zr_0 (by omega) ?_
      refine z_iload0 gi_148_5 ?_
      refine z_iload2 gi_148_6 ?_
      refine z_icmp_gtF gi_148_7 (by omega) zr_5 (by omega) ?_
      refine z_pushJ gp_148_10 ?_
      refine z_goto gi_148_11 ?_
      refine z_bret1 gi_148_15 gr_148 ?_
      show zW _ _ _ _ _ _ _ _ _ _
      refine z_bret1 gi_248_6 gr_248 ?_
      show zW _ _ _ _ _ _ _ _ _ _
      refine z_if_eqF gi_196_4 zr_1 (by decide) ?_
      refine z_iload2 gi_196_7 ?_
      refine z_pushJ gp_196_8 ?_
      refine z_aload0 gi_196_10 ?_
      refine z_getI (v := J 8 2) gi_196_11 gk_50 (y2.symm) ?_
      refine z_pushJ gp_196_14 ?_
      refine z_isub (e := (J 8 2) - 1) gi_196_15 rfl ?_
      refine z_cS3 gi_196_16 (Nat.le_of_ble_eq_true rfl) gc_148_III ?_
      refine z_iload0 gi_148_0 ?_
      refine z_iload1 gi_148_1 ?_
      refine z_icmp_ltF gi_148_2 (by omega) zrn_3 (by omega) ?_
      refine z_iload0 gi_148_5 ?_
      refine z_iload2 gi_148_6 ?_
      refine z_icmp_gtF gi_148_7 (by omega) (by omega) (by omega) ?_
      refine z_pushJ gp_148_10 ?_
      refine z_goto gi_148_11 ?_
      refine z_bret1 gi_148_15 gr_148 ?_
      show zW _ _ _ _ _ _ _ _ _ _
      refine z_if_neT gi_196_19 zr_1 (by decide) ?_
      refine z_aload0 gi_196_24 ?_
      refine z_iload1 gi_196_25 ?_
      refine z_cV1 gi_196_26 gk_50 go_192 (Nat.le_of_ble_eq_true rfl) gc_192_RI ?_
      refine z_aload0 gi_192_0 ?_
      refine z_getR (r := 83) gi_192_1 gk_50 (hRr _ rm_50_58 (by decide)) ?_
      refine z_iload1 gi_192_4 ?_
      refine z_iald (v := (-1)) gi_192_5 gk_83 (by decide) (by omega) (e83) ?_
      refine z_pushJ gp_192_6 ?_
      refine z_icmp_neF gi_192_7 zrn_1 zrn_1 (by decide) ?_
      refine z_pushJ gp_192_10 ?_
      refine z_goto gi_192_12 ?_
      refine z_iret gi_192_32 gr_192 ?_
      show zW _ _ _ _ _ _ _ _ _ _
      refine z_if_geF gi_196_29 zrn_11 (by decide) ?_
      refine z_aload0 gi_196_32 ?_
      refine z_iload1 gi_196_33 ?_
      refine z_cV1 gi_196_34 gk_50 go_192 (Nat.le_of_ble_eq_true rfl) gc_192_RI ?_
      refine z_aload0 gi_192_0 ?_
      refine z_getR (r := 83) gi_192_1 gk_50 (hRr _ rm_50_58 (by decide)) ?_
      refine z_iload1 gi_192_4 ?_
      refine z_iald (v := (-1)) gi_192_5 gk_83 (by decide) (by omega) (e83) ?_
      refine z_pushJ gp_192_6 ?_
      refine z_icmp_neF gi_192_7 zrn_1 zrn_1 (by decide) ?_
      refine z_pushJ gp_192_10 ?_
      refine z_goto gi_192_12 ?_
      refine z_iret gi_192_32 gr_192 ?_
      show zW _ _ _ _ _ _ _ _ _ _
      refine z_iret gi_196_37 gr_196 ?_
      refine ⟨?_, ?_⟩
      · first | rfl | exact congrArg (fun v => some (zi v)) (by omega) | (exfalso; omega)
      · exact hr
    · refine z_pushJ gp_109_24 ?_
      refine z_iret gi_109_25 gr_109 ?_
      refine ⟨_, rfl, ?_⟩
      show zW _ _ _ _ [some (.ref 50), some (zi s), some (zi p), none] _ _ _ _ _
      refine z_iload1 gi_196_0 ?_
      refine z_cS1 gi_196_1 (Nat.le_of_ble_eq_true rfl) gc_248_I ?_
      refine z_iload0 gi_248_0 ?_
      refine z_pushJ gp_248_1 ?_
      refine z_pushJ gp_248_2 ?_
      refine z_cS3 gi_248_3 (Nat.le_of_ble_eq_true rfl) gc_148_III ?_
      refine z_iload0 gi_148_0 ?_
      refine z_iload1 gi_148_1 ?_
      refine z_icmp_ltF gi_148_2 (by omega) zr_0 (by omega) ?_
      refine z_iload0 gi_148_5 ?_
      refine z_iload2 gi_148_6 ?_
      refine z_icmp_gtF gi_148_7 (by omega) zr_5 (by omega) ?_
      refine z_pushJ gp_148_10 ?_
      refine z_goto gi_148_11 ?_
      refine z_bret1 gi_148_15 gr_148 ?_
      show zW _ _ _ _ _ _ _ _ _ _
      refine z_bret1 gi_248_6 gr_248 ?_
      show zW _ _ _ _ _ _ _ _ _ _
      refine z_if_eqF gi_196_4 zr_1 (by decide) ?_
      refine z_iload2 gi_196_7 ?_
      refine z_pushJ gp_196_8 ?_
      refine z_aload0 gi_196_10 ?_
      refine z_getI (v := J 8 2) gi_196_11 gk_50 (y2.symm) ?_
      refine z_pushJ gp_196_14 ?_
      refine z_isub (e := (J 8 2) - 1) gi_196_15 rfl ?_
      refine z_cS3 gi_196_16 (Nat.le_of_ble_eq_true rfl) gc_148_III ?_
      refine z_iload0 gi_148_0 ?_
      refine z_iload1 gi_148_1 ?_
      refine z_icmp_ltF gi_148_2 (by omega) zrn_3 (by omega) ?_
      refine z_iload0 gi_148_5 ?_
      refine z_iload2 gi_148_6 ?_
      refine z_icmp_gtT gi_148_7 (by omega) (by omega) (by omega) ?_
      refine z_pushJ gp_148_14 ?_
      refine z_bret0 gi_148_15 gr_148 ?_
      show zW _ _ _ _ _ _ _ _ _ _
      refine z_if_neF gi_196_19 zr_0 (by decide) ?_
      refine z_pushJ gp_196_22 ?_
      refine z_iret gi_196_23 gr_196 ?_
      refine ⟨?_, ?_⟩
      · first | rfl | exact congrArg (fun v => some (zi v)) (by omega) | (exfalso; omega)
      · exact hr
theorem st_round_1 {X : Nat × (Nat → Int32)} {d : Nat} {J M : zA} {R : zR} {s p : Int} (hr : Rel X J M R) (hs : -2147483648 ≤ s ∧ s < 2147483648) (hp : -2147483648 ≤ p ∧ p < 2147483648) (hs6 : 0 ≤ s ∧ s < 6) (hh : J (38 + 2 * s.toNat) 0 = 1) : zW X (d + 20) 109 0 (gEn 109 [(.ref 0), (zi s), (zi p)]) [] J M R (stP X (d + 20) 196 [(zi s), (zi p)]) := by
  have hr0 := hr
  obtain ⟨hR, hG, hY, hD, hP, hC, hAc, hS, hTp, hX, hW⟩ := hr0
  have hRr : zRoR R := zRoR_of hR
  have hY0 := hY
  obtain ⟨y1, y2, y3⟩ := hY0
  have yn := zNn y3
  have hA0 := hAc
  obtain ⟨a1, a2, a3, a4, a5, a6⟩ := hA0
  have e83 : J 83 s = J (38 + 2 * s.toNat) 1 := (hS s hs6.1 hs6.2).1.symm.trans (cH_1 hh)
  have s3 : 0 ≤ J (38 + 2 * s.toNat) 2 ∧ J (38 + 2 * s.toNat) 2 ≤ 4 := (hS s hs6.1 hs6.2).2.2.1
  have s4 : 0 ≤ J (38 + 2 * s.toNat) 3 ∧ J (38 + 2 * s.toNat) 3 ≤ 60 := (hS s hs6.1 hs6.2).2.2.2.1
  have s5 : 0 ≤ J (38 + 2 * s.toNat) 1 ∧ J (38 + 2 * s.toNat) 1 < J 34 1 := (hS s hs6.1 hs6.2).2.2.2.2.1 hh
  show zW _ _ _ _ [some (.ref 0), some (zi s), some (zi p), none] _ _ _ _ _
  refine z_iload1 gi_109_0 ?_
  refine z_cS1 gi_109_1 (Nat.le_of_ble_eq_true rfl) gc_143_I ?_
  refine z_iload0 gi_143_0 ?_
  refine z_if_ltF gi_143_1 (by omega) (by omega) ?_
  refine z_iload0 gi_143_4 ?_
  refine z_pushJ gp_143_5 ?_
  refine z_icmp_geF gi_143_7 (by omega) zr_6 (by omega) ?_
  refine z_pushJ gp_143_10 ?_
  refine z_goto gi_143_11 ?_
  refine z_bret1 gi_143_15 gr_143 ?_
  show zW _ _ _ _ _ _ _ _ _ _
  refine z_if_eqF gi_109_4 zr_1 (by decide) ?_
  refine z_iload2 gi_109_7 ?_
  refine z_pushJ gp_109_8 ?_
  refine z_icmp_lt gi_109_10 (by omega) zrn_3 (fun h1 => ?_) (fun h1 => ?_)
  · refine z_pushJ gp_109_24 ?_
    refine z_iret gi_109_25 gr_109 ?_
    refine ⟨_, rfl, ?_⟩
    show zW _ _ _ _ [some (.ref 50), some (zi s), some (zi p), none] _ _ _ _ _
    refine z_iload1 gi_196_0 ?_
    refine z_cS1 gi_196_1 (Nat.le_of_ble_eq_true rfl) gc_248_I ?_
    refine z_iload0 gi_248_0 ?_
    refine z_pushJ gp_248_1 ?_
    refine z_pushJ gp_248_2 ?_
    refine z_cS3 gi_248_3 (Nat.le_of_ble_eq_true rfl) gc_148_III ?_
    refine z_iload0 gi_148_0 ?_
    refine z_iload1 gi_148_1 ?_
    refine z_icmp_ltF gi_148_2 (by omega) zr_0 (by omega) ?_
    refine z_iload0 gi_148_5 ?_
    refine z_iload2 gi_148_6 ?_
    refine z_icmp_gtF gi_148_7 (by omega) zr_5 (by omega) ?_
    refine z_pushJ gp_148_10 ?_
    refine z_goto gi_148_11 ?_
    refine z_bret1 gi_148_15 gr_148 ?_
    show zW _ _ _ _ _ _ _ _ _ _
    refine z_bret1 gi_248_6 gr_248 ?_
    show zW _ _ _ _ _ _ _ _ _ _
    refine z_if_eqF gi_196_4 zr_1 (by decide) ?_
    refine z_iload2 gi_196_7 ?_
    refine z_pushJ gp_196_8 ?_
    refine z_aload0 gi_196_10 ?_
    refine z_getI (v := J 8 2) gi_196_11 gk_50 (y2.symm) ?_
    refine z_pushJ gp_196_14 ?_
    refine z_isub (e := (J 8 2) - 1) gi_196_15 rfl ?_
    refine z_cS3 gi_196_16 (Nat.le_of_ble_eq_true rfl) gc_148_III ?_
    refine z_iload0 gi_148_0 ?_
    refine z_iload1 gi_148_1 ?_
    refine z_icmp_ltT gi_148_2 (by omega) zrn_3 (by omega) ?_
    refine z_pushJ gp_148_14 ?_
    refine z_bret0 gi_148_15 gr_148 ?_
    show zW _ _ _ _ _ _ _ _ _ _
    refine z_if_neF gi_196_19 zr_0 (by decide) ?_
    refine z_pushJ gp_196_22 ?_
    refine z_iret gi_196_23 gr_196 ?_
    refine ⟨?_, ?_⟩
    · first | rfl | exact congrArg (fun v => some (zi v)) (by omega) | (exfalso; omega)
    · exact hr
  · refine z_iload2 gi_109_13 ?_
    refine z_aload0 gi_109_14 ?_
    refine z_getR (r := 8) gi_109_15 gk_0 (hR _ rm_0_1) ?_
    refine z_getI (v := J 8 2) gi_109_18 gk_8 (rfl) ?_
    refine z_icmp_lt gi_109_21 (by omega) (by omega) (fun h2 => ?_) (fun h2 => ?_)
    · refine z_aload0 gi_109_26 ?_
      refine z_getR (r := 10) gi_109_27 gk_0 (hR _ rm_0_2) ?_
      refine z_aload0 gi_109_30 ?_
      refine z_getR (r := 37) gi_109_31 gk_0 (hR _ rm_0_11) ?_
      refine z_iload1 gi_109_34 ?_
      refine z_aald (r := 38 + 2 * s.toNat) gi_109_35 rfl (by decide) (by omega) (rr_shelf hR (by omega)) ?_
      refine z_callVi (As := [_]) (le := [some _, some _, none, none, none]) gi_109_36 rfl gk_10 (Nat.le_of_ble_eq_true rfl) (Nat.le_of_ble_eq_true rfl) rfl ?_
      refine z_aload1 gi_78_0 ?_
      refine z_callVi (As := []) (le := [some _]) gi_78_1 rfl (zk_shelf (by omega)) (Nat.le_of_ble_eq_true rfl) (Nat.le_of_ble_eq_true rfl) rfl ?_
      refine z_aload0 gi_69_0 ?_
      refine z_getI (v := 1) gi_69_1 (zk_shelf (by omega)) (hh) ?_
      refine z_if_neT gi_69_4 zr_1 (by decide) ?_
      refine z_aload0 gi_69_10 ?_
      refine z_callVi (As := []) (le := [some _]) gi_69_11 rfl (zk_shelf (by omega)) (Nat.le_of_ble_eq_true rfl) (Nat.le_of_ble_eq_true rfl) rfl ?_
      refine z_aload0 gi_64_0 ?_
      refine z_getI (v := 1) gi_64_1 (zk_shelf (by omega)) (hh) ?_
      refine z_pushJ gp_64_4 ?_
      refine z_icmp_neT gi_64_5 zr_1 zr_2 (by decide) ?_
      refine z_pushJ gp_64_19 ?_
      refine z_bret0 gi_64_20 gr_64 ?_
      show zW _ _ _ _ _ _ _ _ _ _
      refine z_if_eqT gi_69_14 zr_0 (by decide) ?_
      refine z_pushJ gp_69_21 ?_
      refine z_iret gi_69_23 gr_69 ?_
      show zW _ _ _ _ _ _ _ _ _ _
      refine z_istore (ls1 := [some (.ref 10), some (.ref (38 + 2 * s.toNat)), some (zi (-12)), none, none]) gi_78_4 rfl ?_
      refine z_iload2 gi_78_5 ?_
      refine z_if_geF gi_78_6 zrn_12 (by decide) ?_
      refine z_iload2 gi_78_9 ?_
      refine z_iret gi_78_10 gr_78 ?_
      show zW _ _ _ _ _ _ _ _ _ _
      refine z_istore (ls1 := [some (.ref 0), some (zi s), some (zi p), some (zi (-12))]) gi_109_39 rfl ?_
      refine z_iload3 gi_109_40 ?_
      refine z_if_geF gi_109_41 zrn_12 (by decide) ?_
      refine z_iload3 gi_109_44 ?_
      refine z_iret gi_109_45 gr_109 ?_
      refine ⟨_, rfl, ?_⟩
      show zW _ _ _ _ [some (.ref 50), some (zi s), some (zi p), none] _ _ _ _ _
      refine z_iload1 gi_196_0 ?_
      refine z_cS1 gi_196_1 (Nat.le_of_ble_eq_true rfl) gc_248_I ?_
      refine z_iload0 gi_248_0 ?_
      refine z_pushJ gp_248_1 ?_
      refine z_pushJ gp_248_2 ?_
      refine z_cS3 gi_248_3 (Nat.le_of_ble_eq_true rfl) gc_148_III ?_
      refine z_iload0 gi_148_0 ?_
      refine z_iload1 gi_148_1 ?_
      refine z_icmp_ltF gi_148_2 (by omega) zr_0 (by omega) ?_
      refine z_iload0 gi_148_5 ?_
      refine z_iload2 gi_148_6 ?_
      refine z_icmp_gtF gi_148_7 (by omega) zr_5 (by omega) ?_
      refine z_pushJ gp_148_10 ?_
      refine z_goto gi_148_11 ?_
      refine z_bret1 gi_148_15 gr_148 ?_
      show zW _ _ _ _ _ _ _ _ _ _
      refine z_bret1 gi_248_6 gr_248 ?_
      show zW _ _ _ _ _ _ _ _ _ _
      refine z_if_eqF gi_196_4 zr_1 (by decide) ?_
      refine z_iload2 gi_196_7 ?_
      refine z_pushJ gp_196_8 ?_
      refine z_aload0 gi_196_10 ?_
      refine z_getI (v := J 8 2) gi_196_11 gk_50 (y2.symm) ?_
      refine z_pushJ gp_196_14 ?_
      refine z_isub (e := (J 8 2) - 1) gi_196_15 rfl ?_
      refine z_cS3 gi_196_16 (Nat.le_of_ble_eq_true rfl) gc_148_III ?_
      refine z_iload0 gi_148_0 ?_
      refine z_iload1 gi_148_1 ?_
      refine z_icmp_ltF gi_148_2 (by omega) zrn_3 (by omega) ?_
      refine z_iload0 gi_148_5 ?_
      refine z_iload2 gi_148_6 ?_
      refine z_icmp_gtF gi_148_7 (by omega) (by omega) (by omega) ?_
      refine z_pushJ gp_148_10 ?_
      refine z_goto gi_148_11 ?_
      refine z_bret1 gi_148_15 gr_148 ?_
      show zW _ _ _ _ _ _ _ _ _ _
      refine z_if_neT gi_196_19 zr_1 (by decide) ?_
      refine z_aload0 gi_196_24 ?_
      refine z_iload1 gi_196_25 ?_
      refine z_cV1 gi_196_26 gk_50 go_192 (Nat.le_of_ble_eq_true rfl) gc_192_RI ?_
      refine z_aload0 gi_192_0 ?_
      refine z_getR (r := 83) gi_192_1 gk_50 (hRr _ rm_50_58 (by decide)) ?_
      refine z_iload1 gi_192_4 ?_
      refine z_iald (v := J (38 + 2 * s.toNat) 1) gi_192_5 gk_83 (by decide) (by omega) (e83) ?_
      refine z_pushJ gp_192_6 ?_
      refine z_icmp_ne gi_192_7 (by omega) zrn_1 (fun h3 => ?_) (fun h3 => ?_)
      · refine z_aload0 gi_192_15 ?_
        refine z_getR (r := 83) gi_192_16 gk_50 (hRr _ rm_50_58 (by decide)) ?_
        refine z_iload1 gi_192_19 ?_
        refine z_iald (v := J (38 + 2 * s.toNat) 1) gi_192_20 gk_83 (by decide) (by omega) (e83) ?_
        refine z_pushJ gp_192_21 ?_
        refine z_icmp_ne gi_192_23 (by omega) zrn_2 (fun h4 => ?_) (fun h4 => ?_)
        · refine z_pushJ gp_192_30 ?_
          refine z_iret gi_192_32 gr_192 ?_
          show zW _ _ _ _ _ _ _ _ _ _
          refine z_if_geF gi_196_29 zrn_12 (by decide) ?_
          refine z_aload0 gi_196_32 ?_
          refine z_iload1 gi_196_33 ?_
          refine z_cV1 gi_196_34 gk_50 go_192 (Nat.le_of_ble_eq_true rfl) gc_192_RI ?_
          refine z_aload0 gi_192_0 ?_
          refine z_getR (r := 83) gi_192_1 gk_50 (hRr _ rm_50_58 (by decide)) ?_
          refine z_iload1 gi_192_4 ?_
          refine z_iald (v := J (38 + 2 * s.toNat) 1) gi_192_5 gk_83 (by decide) (by omega) (e83) ?_
          refine z_pushJ gp_192_6 ?_
          refine z_icmp_ne gi_192_7 (by omega) zrn_1 (fun h5 => ?_) (fun h5 => ?_)
          · refine z_aload0 gi_192_15 ?_
            refine z_getR (r := 83) gi_192_16 gk_50 (hRr _ rm_50_58 (by decide)) ?_
            refine z_iload1 gi_192_19 ?_
            refine z_iald (v := J (38 + 2 * s.toNat) 1) gi_192_20 gk_83 (by decide) (by omega) (e83) ?_
            refine z_pushJ gp_192_21 ?_
            refine z_icmp_ne gi_192_23 (by omega) zrn_2 (fun h6 => ?_) (fun h6 => ?_)
            · refine z_pushJ gp_192_30 ?_
              refine z_iret gi_192_32 gr_192 ?_
              show zW _ _ _ _ _ _ _ _ _ _
              refine z_iret gi_196_37 gr_196 ?_
              refine ⟨?_, ?_⟩
              · first | rfl | exact congrArg (fun v => some (zi v)) (by omega) | (exfalso; omega)
              · exact hr
            · refine z_pushJ gp_192_26 ?_
              refine z_goto gi_192_27 ?_
              refine z_iret gi_192_32 gr_192 ?_
              show zW _ _ _ _ _ _ _ _ _ _
              refine z_iret gi_196_37 gr_196 ?_
              refine ⟨?_, ?_⟩
              · first | rfl | exact congrArg (fun v => some (zi v)) (by omega) | (exfalso; omega)
              · exact hr
          · refine z_pushJ gp_192_10 ?_
            refine z_goto gi_192_12 ?_
            refine z_iret gi_192_32 gr_192 ?_
            show zW _ _ _ _ _ _ _ _ _ _
            refine z_iret gi_196_37 gr_196 ?_
            refine ⟨?_, ?_⟩
            · first | rfl | exact congrArg (fun v => some (zi v)) (by omega) | (exfalso; omega)
            · exact hr
        · refine z_pushJ gp_192_26 ?_
          refine z_goto gi_192_27 ?_
          refine z_iret gi_192_32 gr_192 ?_
          show zW _ _ _ _ _ _ _ _ _ _
          refine z_if_geT gi_196_29 zr_0 (by decide) ?_
          refine z_aload0 gi_196_38 ?_
          refine z_iload1 gi_196_39 ?_
          refine z_pushJ gp_196_40 ?_
          exfalso
          omega
      · refine z_pushJ gp_192_10 ?_
        refine z_goto gi_192_12 ?_
        refine z_iret gi_192_32 gr_192 ?_
        show zW _ _ _ _ _ _ _ _ _ _
        refine z_if_geF gi_196_29 zrn_11 (by decide) ?_
        refine z_aload0 gi_196_32 ?_
        refine z_iload1 gi_196_33 ?_
        refine z_cV1 gi_196_34 gk_50 go_192 (Nat.le_of_ble_eq_true rfl) gc_192_RI ?_
        refine z_aload0 gi_192_0 ?_
        refine z_getR (r := 83) gi_192_1 gk_50 (hRr _ rm_50_58 (by decide)) ?_
        refine z_iload1 gi_192_4 ?_
        refine z_iald (v := J (38 + 2 * s.toNat) 1) gi_192_5 gk_83 (by decide) (by omega) (e83) ?_
        refine z_pushJ gp_192_6 ?_
        refine z_icmp_neF gi_192_7 (by omega) zrn_1 (by omega) ?_
        refine z_pushJ gp_192_10 ?_
        refine z_goto gi_192_12 ?_
        refine z_iret gi_192_32 gr_192 ?_
        show zW _ _ _ _ _ _ _ _ _ _
        refine z_iret gi_196_37 gr_196 ?_
        refine ⟨?_, ?_⟩
        · first | rfl | exact congrArg (fun v => some (zi v)) (by omega) | (exfalso; omega)
        · exact hr
    · refine z_pushJ gp_109_24 ?_
      refine z_iret gi_109_25 gr_109 ?_
      refine ⟨_, rfl, ?_⟩
      show zW _ _ _ _ [some (.ref 50), some (zi s), some (zi p), none] _ _ _ _ _
      refine z_iload1 gi_196_0 ?_
      refine z_cS1 gi_196_1 (Nat.le_of_ble_eq_true rfl) gc_248_I ?_
      refine z_iload0 gi_248_0 ?_
      refine z_pushJ gp_248_1 ?_
      refine z_pushJ gp_248_2 ?_
      refine z_cS3 gi_248_3 (Nat.le_of_ble_eq_true rfl) gc_148_III ?_
      refine z_iload0 gi_148_0 ?_
      refine z_iload1 gi_148_1 ?_
      refine z_icmp_ltF gi_148_2 (by omega) zr_0 (by omega) ?_
      refine z_iload0 gi_148_5 ?_
      refine z_iload2 gi_148_6 ?_
      refine z_icmp_gtF gi_148_7 (by omega) zr_5 (by omega) ?_
      refine z_pushJ gp_148_10 ?_
      refine z_goto gi_148_11 ?_
      refine z_bret1 gi_148_15 gr_148 ?_
      show zW _ _ _ _ _ _ _ _ _ _
      refine z_bret1 gi_248_6 gr_248 ?_
      show zW _ _ _ _ _ _ _ _ _ _
      refine z_if_eqF gi_196_4 zr_1 (by decide) ?_
      refine z_iload2 gi_196_7 ?_
      refine z_pushJ gp_196_8 ?_
      refine z_aload0 gi_196_10 ?_
      refine z_getI (v := J 8 2) gi_196_11 gk_50 (y2.symm) ?_
      refine z_pushJ gp_196_14 ?_
      refine z_isub (e := (J 8 2) - 1) gi_196_15 rfl ?_
      refine z_cS3 gi_196_16 (Nat.le_of_ble_eq_true rfl) gc_148_III ?_
      refine z_iload0 gi_148_0 ?_
      refine z_iload1 gi_148_1 ?_
      refine z_icmp_ltF gi_148_2 (by omega) zrn_3 (by omega) ?_
      refine z_iload0 gi_148_5 ?_
      refine z_iload2 gi_148_6 ?_
      refine z_icmp_gtT gi_148_7 (by omega) (by omega) (by omega) ?_
      refine z_pushJ gp_148_14 ?_
      refine z_bret0 gi_148_15 gr_148 ?_
      show zW _ _ _ _ _ _ _ _ _ _
      refine z_if_neF gi_196_19 zr_0 (by decide) ?_
      refine z_pushJ gp_196_22 ?_
      refine z_iret gi_196_23 gr_196 ?_
      refine ⟨?_, ?_⟩
      · first | rfl | exact congrArg (fun v => some (zi v)) (by omega) | (exfalso; omega)
      · exact hr
theorem st_round_2 {X : Nat × (Nat → Int32)} {d : Nat} {J M : zA} {R : zR} {s p : Int} (hr : Rel X J M R) (hs : -2147483648 ≤ s ∧ s < 2147483648) (hp : -2147483648 ≤ p ∧ p < 2147483648) (hs6 : 0 ≤ s ∧ s < 6) (hh : J (38 + 2 * s.toNat) 0 = 2) (hso : ¬ J (38 + 2 * s.toNat) 2 = 0) : zW X (d + 20) 109 0 (gEn 109 [(.ref 0), (zi s), (zi p)]) [] J M R (stP X (d + 20) 196 [(zi s), (zi p)]) := by
  have hr0 := hr
  obtain ⟨hR, hG, hY, hD, hP, hC, hAc, hS, hTp, hX, hW⟩ := hr0
  have hRr : zRoR R := zRoR_of hR
  have hY0 := hY
  obtain ⟨y1, y2, y3⟩ := hY0
  have yn := zNn y3
  have hA0 := hAc
  obtain ⟨a1, a2, a3, a4, a5, a6⟩ := hA0
  have e83 : J 83 s = -2 - J (38 + 2 * s.toNat) 2 := (hS s hs6.1 hs6.2).1.symm.trans (cH_2 hh)
  have s3 : 0 ≤ J (38 + 2 * s.toNat) 2 ∧ J (38 + 2 * s.toNat) 2 ≤ 4 := (hS s hs6.1 hs6.2).2.2.1
  have s4 : 0 ≤ J (38 + 2 * s.toNat) 3 ∧ J (38 + 2 * s.toNat) 3 ≤ 60 := (hS s hs6.1 hs6.2).2.2.2.1
  have s6 := (hS s hs6.1 hs6.2).2.2.2.2.2 hh
  have s7 : J 84 s = J (38 + 2 * s.toNat) 3 := s6.1.symm
  have s8 : ∀ i, 0 ≤ i → i < J (38 + 2 * s.toNat) 3 → M (39 + 2 * s.toNat) i = M 85 (60 * s + i) := s6.2.1
  show zW _ _ _ _ [some (.ref 0), some (zi s), some (zi p), none] _ _ _ _ _
  refine z_iload1 gi_109_0 ?_
  refine z_cS1 gi_109_1 (Nat.le_of_ble_eq_true rfl) gc_143_I ?_
  refine z_iload0 gi_143_0 ?_
  refine z_if_ltF gi_143_1 (by omega) (by omega) ?_
  refine z_iload0 gi_143_4 ?_
  refine z_pushJ gp_143_5 ?_
  refine z_icmp_geF gi_143_7 (by omega) zr_6 (by omega) ?_
  refine z_pushJ gp_143_10 ?_
  refine z_goto gi_143_11 ?_
  refine z_bret1 gi_143_15 gr_143 ?_
  show zW _ _ _ _ _ _ _ _ _ _
  refine z_if_eqF gi_109_4 zr_1 (by decide) ?_
  refine z_iload2 gi_109_7 ?_
  refine z_pushJ gp_109_8 ?_
  refine z_icmp_lt gi_109_10 (by omega) zrn_3 (fun h1 => ?_) (fun h1 => ?_)
  · refine z_pushJ gp_109_24 ?_
    refine z_iret gi_109_25 gr_109 ?_
    refine ⟨_, rfl, ?_⟩
    show zW _ _ _ _ [some (.ref 50), some (zi s), some (zi p), none] _ _ _ _ _
    refine z_iload1 gi_196_0 ?_
    refine z_cS1 gi_196_1 (Nat.le_of_ble_eq_true rfl) gc_248_I ?_
    refine z_iload0 gi_248_0 ?_
    refine z_pushJ gp_248_1 ?_
    refine z_pushJ gp_248_2 ?_
    refine z_cS3 gi_248_3 (Nat.le_of_ble_eq_true rfl) gc_148_III ?_
    refine z_iload0 gi_148_0 ?_
    refine z_iload1 gi_148_1 ?_
    refine z_icmp_ltF gi_148_2 (by omega) zr_0 (by omega) ?_
    refine z_iload0 gi_148_5 ?_
    refine z_iload2 gi_148_6 ?_
    refine z_icmp_gtF gi_148_7 (by omega) zr_5 (by omega) ?_
    refine z_pushJ gp_148_10 ?_
    refine z_goto gi_148_11 ?_
    refine z_bret1 gi_148_15 gr_148 ?_
    show zW _ _ _ _ _ _ _ _ _ _
    refine z_bret1 gi_248_6 gr_248 ?_
    show zW _ _ _ _ _ _ _ _ _ _
    refine z_if_eqF gi_196_4 zr_1 (by decide) ?_
    refine z_iload2 gi_196_7 ?_
    refine z_pushJ gp_196_8 ?_
    refine z_aload0 gi_196_10 ?_
    refine z_getI (v := J 8 2) gi_196_11 gk_50 (y2.symm) ?_
    refine z_pushJ gp_196_14 ?_
    refine z_isub (e := (J 8 2) - 1) gi_196_15 rfl ?_
    refine z_cS3 gi_196_16 (Nat.le_of_ble_eq_true rfl) gc_148_III ?_
    refine z_iload0 gi_148_0 ?_
    refine z_iload1 gi_148_1 ?_
    refine z_icmp_ltT gi_148_2 (by omega) zrn_3 (by omega) ?_
    refine z_pushJ gp_148_14 ?_
    refine z_bret0 gi_148_15 gr_148 ?_
    show zW _ _ _ _ _ _ _ _ _ _
    refine z_if_neF gi_196_19 zr_0 (by decide) ?_
    refine z_pushJ gp_196_22 ?_
    refine z_iret gi_196_23 gr_196 ?_
    refine ⟨?_, ?_⟩
    · first | rfl | exact congrArg (fun v => some (zi v)) (by omega) | (exfalso; omega)
    · exact hr
  · refine z_iload2 gi_109_13 ?_
    refine z_aload0 gi_109_14 ?_
    refine z_getR (r := 8) gi_109_15 gk_0 (hR _ rm_0_1) ?_
    refine z_getI (v := J 8 2) gi_109_18 gk_8 (rfl) ?_
    refine z_icmp_lt gi_109_21 (by omega) (by omega) (fun h2 => ?_) (fun h2 => ?_)
    · refine z_aload0 gi_109_26 ?_
      refine z_getR (r := 10) gi_109_27 gk_0 (hR _ rm_0_2) ?_
      refine z_aload0 gi_109_30 ?_
      refine z_getR (r := 37) gi_109_31 gk_0 (hR _ rm_0_11) ?_
      refine z_iload1 gi_109_34 ?_
      refine z_aald (r := 38 + 2 * s.toNat) gi_109_35 rfl (by decide) (by omega) (rr_shelf hR (by omega)) ?_
      refine z_callVi (As := [_]) (le := [some _, some _, none, none, none]) gi_109_36 rfl gk_10 (Nat.le_of_ble_eq_true rfl) (Nat.le_of_ble_eq_true rfl) rfl ?_
      refine z_aload1 gi_78_0 ?_
      refine z_callVi (As := []) (le := [some _]) gi_78_1 rfl (zk_shelf (by omega)) (Nat.le_of_ble_eq_true rfl) (Nat.le_of_ble_eq_true rfl) rfl ?_
      refine z_aload0 gi_69_0 ?_
      refine z_getI (v := 2) gi_69_1 (zk_shelf (by omega)) (hh) ?_
      refine z_if_neT gi_69_4 zr_2 (by decide) ?_
      refine z_aload0 gi_69_10 ?_
      refine z_callVi (As := []) (le := [some _]) gi_69_11 rfl (zk_shelf (by omega)) (Nat.le_of_ble_eq_true rfl) (Nat.le_of_ble_eq_true rfl) rfl ?_
      refine z_aload0 gi_64_0 ?_
      refine z_getI (v := 2) gi_64_1 (zk_shelf (by omega)) (hh) ?_
      refine z_pushJ gp_64_4 ?_
      refine z_icmp_neF gi_64_5 zr_2 zr_2 (by decide) ?_
      refine z_aload0 gi_64_8 ?_
      refine z_getI (v := J (38 + 2 * s.toNat) 2) gi_64_9 (zk_shelf (by omega)) (rfl) ?_
      refine z_if_neT gi_64_12 (by omega) (by omega) ?_
      refine z_pushJ gp_64_19 ?_
      refine z_bret0 gi_64_20 gr_64 ?_
      show zW _ _ _ _ _ _ _ _ _ _
      refine z_if_eqT gi_69_14 zr_0 (by decide) ?_
      refine z_pushJ gp_69_21 ?_
      refine z_iret gi_69_23 gr_69 ?_
      show zW _ _ _ _ _ _ _ _ _ _
      refine z_istore (ls1 := [some (.ref 10), some (.ref (38 + 2 * s.toNat)), some (zi (-12)), none, none]) gi_78_4 rfl ?_
      refine z_iload2 gi_78_5 ?_
      refine z_if_geF gi_78_6 zrn_12 (by decide) ?_
      refine z_iload2 gi_78_9 ?_
      refine z_iret gi_78_10 gr_78 ?_
      show zW _ _ _ _ _ _ _ _ _ _
      refine z_istore (ls1 := [some (.ref 0), some (zi s), some (zi p), some (zi (-12))]) gi_109_39 rfl ?_
      refine z_iload3 gi_109_40 ?_
      refine z_if_geF gi_109_41 zrn_12 (by decide) ?_
      refine z_iload3 gi_109_44 ?_
      refine z_iret gi_109_45 gr_109 ?_
      refine ⟨_, rfl, ?_⟩
      show zW _ _ _ _ [some (.ref 50), some (zi s), some (zi p), none] _ _ _ _ _
      refine z_iload1 gi_196_0 ?_
      refine z_cS1 gi_196_1 (Nat.le_of_ble_eq_true rfl) gc_248_I ?_
      refine z_iload0 gi_248_0 ?_
      refine z_pushJ gp_248_1 ?_
      refine z_pushJ gp_248_2 ?_
      refine z_cS3 gi_248_3 (Nat.le_of_ble_eq_true rfl) gc_148_III ?_
      refine z_iload0 gi_148_0 ?_
      refine z_iload1 gi_148_1 ?_
      refine z_icmp_ltF gi_148_2 (by omega) zr_0 (by omega) ?_
      refine z_iload0 gi_148_5 ?_
      refine z_iload2 gi_148_6 ?_
      refine z_icmp_gtF gi_148_7 (by omega) zr_5 (by omega) ?_
      refine z_pushJ gp_148_10 ?_
      refine z_goto gi_148_11 ?_
      refine z_bret1 gi_148_15 gr_148 ?_
      show zW _ _ _ _ _ _ _ _ _ _
      refine z_bret1 gi_248_6 gr_248 ?_
      show zW _ _ _ _ _ _ _ _ _ _
      refine z_if_eqF gi_196_4 zr_1 (by decide) ?_
      refine z_iload2 gi_196_7 ?_
      refine z_pushJ gp_196_8 ?_
      refine z_aload0 gi_196_10 ?_
      refine z_getI (v := J 8 2) gi_196_11 gk_50 (y2.symm) ?_
      refine z_pushJ gp_196_14 ?_
      refine z_isub (e := (J 8 2) - 1) gi_196_15 rfl ?_
      refine z_cS3 gi_196_16 (Nat.le_of_ble_eq_true rfl) gc_148_III ?_
      refine z_iload0 gi_148_0 ?_
      refine z_iload1 gi_148_1 ?_
      refine z_icmp_ltF gi_148_2 (by omega) zrn_3 (by omega) ?_
      refine z_iload0 gi_148_5 ?_
      refine z_iload2 gi_148_6 ?_
      refine z_icmp_gtF gi_148_7 (by omega) (by omega) (by omega) ?_
      refine z_pushJ gp_148_10 ?_
      refine z_goto gi_148_11 ?_
      refine z_bret1 gi_148_15 gr_148 ?_
      show zW _ _ _ _ _ _ _ _ _ _
      refine z_if_neT gi_196_19 zr_1 (by decide) ?_
      refine z_aload0 gi_196_24 ?_
      refine z_iload1 gi_196_25 ?_
      refine z_cV1 gi_196_26 gk_50 go_192 (Nat.le_of_ble_eq_true rfl) gc_192_RI ?_
      refine z_aload0 gi_192_0 ?_
      refine z_getR (r := 83) gi_192_1 gk_50 (hRr _ rm_50_58 (by decide)) ?_
      refine z_iload1 gi_192_4 ?_
      refine z_iald (v := (-2) - (J (38 + 2 * s.toNat) 2)) gi_192_5 gk_83 (by decide) (by omega) (e83) ?_
      refine z_pushJ gp_192_6 ?_
      refine z_icmp_neT gi_192_7 (by omega) zrn_1 (by omega) ?_
      refine z_aload0 gi_192_15 ?_
      refine z_getR (r := 83) gi_192_16 gk_50 (hRr _ rm_50_58 (by decide)) ?_
      refine z_iload1 gi_192_19 ?_
      refine z_iald (v := (-2) - (J (38 + 2 * s.toNat) 2)) gi_192_20 gk_83 (by decide) (by omega) (e83) ?_
      refine z_pushJ gp_192_21 ?_
      refine z_icmp_neT gi_192_23 (by omega) zrn_2 (by omega) ?_
      refine z_pushJ gp_192_30 ?_
      refine z_iret gi_192_32 gr_192 ?_
      show zW _ _ _ _ _ _ _ _ _ _
      refine z_if_geF gi_196_29 zrn_12 (by decide) ?_
      refine z_aload0 gi_196_32 ?_
      refine z_iload1 gi_196_33 ?_
      refine z_cV1 gi_196_34 gk_50 go_192 (Nat.le_of_ble_eq_true rfl) gc_192_RI ?_
      refine z_aload0 gi_192_0 ?_
      refine z_getR (r := 83) gi_192_1 gk_50 (hRr _ rm_50_58 (by decide)) ?_
      refine z_iload1 gi_192_4 ?_
      refine z_iald (v := (-2) - (J (38 + 2 * s.toNat) 2)) gi_192_5 gk_83 (by decide) (by omega) (e83) ?_
      refine z_pushJ gp_192_6 ?_
      refine z_icmp_neT gi_192_7 (by omega) zrn_1 (by omega) ?_
      refine z_aload0 gi_192_15 ?_
      refine z_getR (r := 83) gi_192_16 gk_50 (hRr _ rm_50_58 (by decide)) ?_
      refine z_iload1 gi_192_19 ?_
      refine z_iald (v := (-2) - (J (38 + 2 * s.toNat) 2)) gi_192_20 gk_83 (by decide) (by omega) (e83) ?_
      refine z_pushJ gp_192_21 ?_
      refine z_icmp_neT gi_192_23 (by omega) zrn_2 (by omega) ?_
      refine z_pushJ gp_192_30 ?_
      refine z_iret gi_192_32 gr_192 ?_
      show zW _ _ _ _ _ _ _ _ _ _
      refine z_iret gi_196_37 gr_196 ?_
      refine ⟨?_, ?_⟩
      · first | rfl | exact congrArg (fun v => some (zi v)) (by omega) | (exfalso; omega)
      · exact hr
    · refine z_pushJ gp_109_24 ?_
      refine z_iret gi_109_25 gr_109 ?_
      refine ⟨_, rfl, ?_⟩
      show zW _ _ _ _ [some (.ref 50), some (zi s), some (zi p), none] _ _ _ _ _
      refine z_iload1 gi_196_0 ?_
      refine z_cS1 gi_196_1 (Nat.le_of_ble_eq_true rfl) gc_248_I ?_
      refine z_iload0 gi_248_0 ?_
      refine z_pushJ gp_248_1 ?_
      refine z_pushJ gp_248_2 ?_
      refine z_cS3 gi_248_3 (Nat.le_of_ble_eq_true rfl) gc_148_III ?_
      refine z_iload0 gi_148_0 ?_
      refine z_iload1 gi_148_1 ?_
      refine z_icmp_ltF gi_148_2 (by omega) zr_0 (by omega) ?_
      refine z_iload0 gi_148_5 ?_
      refine z_iload2 gi_148_6 ?_
      refine z_icmp_gtF gi_148_7 (by omega) zr_5 (by omega) ?_
      refine z_pushJ gp_148_10 ?_
      refine z_goto gi_148_11 ?_
      refine z_bret1 gi_148_15 gr_148 ?_
      show zW _ _ _ _ _ _ _ _ _ _
      refine z_bret1 gi_248_6 gr_248 ?_
      show zW _ _ _ _ _ _ _ _ _ _
      refine z_if_eqF gi_196_4 zr_1 (by decide) ?_
      refine z_iload2 gi_196_7 ?_
      refine z_pushJ gp_196_8 ?_
      refine z_aload0 gi_196_10 ?_
      refine z_getI (v := J 8 2) gi_196_11 gk_50 (y2.symm) ?_
      refine z_pushJ gp_196_14 ?_
      refine z_isub (e := (J 8 2) - 1) gi_196_15 rfl ?_
      refine z_cS3 gi_196_16 (Nat.le_of_ble_eq_true rfl) gc_148_III ?_
      refine z_iload0 gi_148_0 ?_
      refine z_iload1 gi_148_1 ?_
      refine z_icmp_ltF gi_148_2 (by omega) zrn_3 (by omega) ?_
      refine z_iload0 gi_148_5 ?_
      refine z_iload2 gi_148_6 ?_
      refine z_icmp_gtT gi_148_7 (by omega) (by omega) (by omega) ?_
      refine z_pushJ gp_148_14 ?_
      refine z_bret0 gi_148_15 gr_148 ?_
      show zW _ _ _ _ _ _ _ _ _ _
      refine z_if_neF gi_196_19 zr_0 (by decide) ?_
      refine z_pushJ gp_196_22 ?_
      refine z_iret gi_196_23 gr_196 ?_
      refine ⟨?_, ?_⟩
      · first | rfl | exact congrArg (fun v => some (zi v)) (by omega) | (exfalso; omega)
      · exact hr
theorem st_round_m {X : Nat × (Nat → Int32)} {d : Nat} {J M : zA} {R : zR} {s p : Int} (hr : Rel X J M R) (hs : -2147483648 ≤ s ∧ s < 2147483648) (hp : -2147483648 ≤ p ∧ p < 2147483648) (hs6 : 0 ≤ s ∧ s < 6) (hh : J (38 + 2 * s.toNat) 0 = 2) (hso : J (38 + 2 * s.toNat) 2 = 0) : zW X (d + 20) 109 0 (gEn 109 [(.ref 0), (zi s), (zi p)]) [] J M R (stP X (d + 20) 196 [(zi s), (zi p)]) := by
  have hr0 := hr
  obtain ⟨hR, hG, hY, hD, hP, hC, hAc, hS, hTp, hX, hW⟩ := hr0
  have hRr : zRoR R := zRoR_of hR
  have hY0 := hY
  obtain ⟨y1, y2, y3⟩ := hY0
  have yn := zNn y3
  have e83 : J 83 s = -2 - J (38 + 2 * s.toNat) 2 := (hS s hs6.1 hs6.2).1.symm.trans (cH_2 hh)
  have s3 : 0 ≤ J (38 + 2 * s.toNat) 2 ∧ J (38 + 2 * s.toNat) 2 ≤ 4 := (hS s hs6.1 hs6.2).2.2.1
  have s4 : 0 ≤ J (38 + 2 * s.toNat) 3 ∧ J (38 + 2 * s.toNat) 3 ≤ 60 := (hS s hs6.1 hs6.2).2.2.2.1
  have s6 := (hS s hs6.1 hs6.2).2.2.2.2.2 hh
  have s7 : J 84 s = J (38 + 2 * s.toNat) 3 := s6.1.symm
  have s8 : ∀ i, 0 ≤ i → i < J (38 + 2 * s.toNat) 3 → M (39 + 2 * s.toNat) i = M 85 (60 * s + i) := s6.2.1
  have e83n : J 83 s = -2 := e83.trans (by omega)
  have hbr := s6.2.2 hso
  have hX0 := hX
  obtain ⟨T, t1, t2, t3⟩ := hX0
  show zW _ _ _ _ [some (.ref 0), some (zi s), some (zi p), none] _ _ _ _ _
  refine z_iload1 gi_109_0 ?_
  refine z_cS1 gi_109_1 (Nat.le_of_ble_eq_true rfl) gc_143_I ?_
  refine z_iload0 gi_143_0 ?_
  refine z_if_ltF gi_143_1 (by omega) (by omega) ?_
  refine z_iload0 gi_143_4 ?_
  refine z_pushJ gp_143_5 ?_
  refine z_icmp_geF gi_143_7 (by omega) zr_6 (by omega) ?_
  refine z_pushJ gp_143_10 ?_
  refine z_goto gi_143_11 ?_
  refine z_bret1 gi_143_15 gr_143 ?_
  show zW _ _ _ _ _ _ _ _ _ _
  refine z_if_eqF gi_109_4 zr_1 (by decide) ?_
  refine z_iload2 gi_109_7 ?_
  refine z_pushJ gp_109_8 ?_
  refine z_icmp_lt gi_109_10 (by omega) zrn_3 (fun h1 => ?_) (fun h1 => ?_)
  · refine z_pushJ gp_109_24 ?_
    refine z_iret gi_109_25 gr_109 ?_
    refine ⟨_, rfl, ?_⟩
    show zW _ _ _ _ [some (.ref 50), some (zi s), some (zi p), none] _ _ _ _ _
    refine z_iload1 gi_196_0 ?_
    refine z_cS1 gi_196_1 (Nat.le_of_ble_eq_true rfl) gc_248_I ?_
    refine z_iload0 gi_248_0 ?_
    refine z_pushJ gp_248_1 ?_
    refine z_pushJ gp_248_2 ?_
    refine z_cS3 gi_248_3 (Nat.le_of_ble_eq_true rfl) gc_148_III ?_
    refine z_iload0 gi_148_0 ?_
    refine z_iload1 gi_148_1 ?_
    refine z_icmp_ltF gi_148_2 (by omega) zr_0 (by omega) ?_
    refine z_iload0 gi_148_5 ?_
    refine z_iload2 gi_148_6 ?_
    refine z_icmp_gtF gi_148_7 (by omega) zr_5 (by omega) ?_
    refine z_pushJ gp_148_10 ?_
    refine z_goto gi_148_11 ?_
    refine z_bret1 gi_148_15 gr_148 ?_
    show zW _ _ _ _ _ _ _ _ _ _
    refine z_bret1 gi_248_6 gr_248 ?_
    show zW _ _ _ _ _ _ _ _ _ _
    refine z_if_eqF gi_196_4 zr_1 (by decide) ?_
    refine z_iload2 gi_196_7 ?_
    refine z_pushJ gp_196_8 ?_
    refine z_aload0 gi_196_10 ?_
    refine z_getI (v := J 8 2) gi_196_11 gk_50 (y2.symm) ?_
    refine z_pushJ gp_196_14 ?_
    refine z_isub (e := (J 8 2) - 1) gi_196_15 rfl ?_
    refine z_cS3 gi_196_16 (Nat.le_of_ble_eq_true rfl) gc_148_III ?_
    refine z_iload0 gi_148_0 ?_
    refine z_iload1 gi_148_1 ?_
    refine z_icmp_ltT gi_148_2 (by omega) zrn_3 (by omega) ?_
    refine z_pushJ gp_148_14 ?_
    refine z_bret0 gi_148_15 gr_148 ?_
    show zW _ _ _ _ _ _ _ _ _ _
    refine z_if_neF gi_196_19 zr_0 (by decide) ?_
    refine z_pushJ gp_196_22 ?_
    refine z_iret gi_196_23 gr_196 ?_
    refine ⟨?_, ?_⟩
    · first | rfl | exact congrArg (fun v => some (zi v)) (by omega) | (exfalso; omega)
    · exact hr
  · refine z_iload2 gi_109_13 ?_
    refine z_aload0 gi_109_14 ?_
    refine z_getR (r := 8) gi_109_15 gk_0 (hR _ rm_0_1) ?_
    refine z_getI (v := J 8 2) gi_109_18 gk_8 (rfl) ?_
    refine z_icmp_lt gi_109_21 (by omega) (by omega) (fun h2 => ?_) (fun h2 => ?_)
    · refine z_aload0 gi_109_26 ?_
      refine z_getR (r := 10) gi_109_27 gk_0 (hR _ rm_0_2) ?_
      refine z_aload0 gi_109_30 ?_
      refine z_getR (r := 37) gi_109_31 gk_0 (hR _ rm_0_11) ?_
      refine z_iload1 gi_109_34 ?_
      refine z_aald (r := 38 + 2 * s.toNat) gi_109_35 rfl (by decide) (by omega) (rr_shelf hR (by omega)) ?_
      have hk1 : zK kP J J := zK_r
      refine z_callV (As := [_]) _ gi_109_36 rfl rfl (Nat.le_of_ble_eq_true rfl) (Nat.le_of_ble_eq_true rfl) (follow_k (J := J) (N := (cN J)) (n := J 8 2) (T := T) (s := s) (w := J 10 12) (z := (J (38 + 2 * s.toNat) 3)) (b := (fun i => M (39 + 2 * s.toNat) i)) hR (cN_P hk1) (hk1 8 2 rfl) y3 (LawC_P t2 hk1) t1 hs6 (fun _ _ _ => rfl) hbr (hk1 _ 3 (kP_b (by omega))) s4 ((hk1 _ 0 (kP_b (by omega))).trans hh) ((hk1 _ 2 (kP_b (by omega))).trans hso) rfl hW.1) (fun r J2 M2 R2 hr2 => ?_)
      obtain ⟨rfl, K, hE, hK30, hk3, hc2, hw2, eM, eR⟩ := hr2
      obtain rfl : M = M2 := eM.symm
      obtain rfl : R = R2 := eR.symm
      show zW _ _ _ _ _ (_ :: _) _ _ _ _
      have hk2 := zK_t hk1 hk3
      have hn2 : J2 8 2 = J 8 2 := hk2 8 2 rfl
      have hks : zK kS J J2 := kS_Pw hk3 (hc2.2.2.2.2.1.trans (Eq.symm rfl))
      obtain ⟨S, eS⟩ : ∃ S, S = tS T (cN J) (J 8 2) (fun i => M (39 + 2 * s.toNat) i) (J 10 12) K := ⟨_, rfl⟩
      have hi0 := (tS_r y3 K hE.1).1
      have hz0 := tS_z K hE.1
      rw [← eS] at hc2 hi0 hz0
      have hi := tI_30 hi0 (by omega)
      have qi := hi.2.2
      have hfc : ∀ p, 0 ≤ p → p < 8 → J2 11 p = tsh S p := fun p q1 q2 => hc2.2.2.2.2.2.2.1 p q1 q2
      refine z_istore (ls1 := [some (.ref 0), some (zi s), some (zi p), some (zi 0)]) gi_109_39 rfl ?_
      refine z_iload3 gi_109_40 ?_
      refine z_if_geT gi_109_41 zr_0 (by decide) ?_
      refine z_iload2 rfl ?_
      refine z_if_lt rfl (by omega) (fun h3 => ?_) (fun h3 => ?_)
      · refine z_iload2 rfl ?_
        refine z_pushJ gp_109_61 ?_
        refine z_icmp_ne rfl (by omega) zrn_1 (fun h4 => ?_) (fun h4 => ?_)
        · refine z_iload2 rfl ?_
          refine z_pushJ gp_109_74 ?_
          refine z_icmp_ne rfl (by omega) zrn_2 (fun h5 => ?_) (fun h5 => ?_)
          · refine z_aload0 rfl ?_
            refine z_getR (r := 10) rfl gk_0 (hR _ rm_0_2) ?_
            refine z_getI (v := (K : Int)) rfl gk_10 (hc2.1) ?_
            refine z_iret gi_109_96 gr_109 ?_
            refine ⟨_, rfl, ?_⟩
            show zW _ _ _ _ [some (.ref 50), some (zi s), some (zi p), none] _ _ _ _ _
            refine z_iload1 gi_196_0 ?_
            refine z_cS1 gi_196_1 (Nat.le_of_ble_eq_true rfl) gc_248_I ?_
            refine z_iload0 gi_248_0 ?_
            refine z_pushJ gp_248_1 ?_
            refine z_pushJ gp_248_2 ?_
            refine z_cS3 gi_248_3 (Nat.le_of_ble_eq_true rfl) gc_148_III ?_
            refine z_iload0 gi_148_0 ?_
            refine z_iload1 gi_148_1 ?_
            refine z_icmp_ltF gi_148_2 (by omega) zr_0 (by omega) ?_
            refine z_iload0 gi_148_5 ?_
            refine z_iload2 gi_148_6 ?_
            refine z_icmp_gtF gi_148_7 (by omega) zr_5 (by omega) ?_
            refine z_pushJ gp_148_10 ?_
            refine z_goto gi_148_11 ?_
            refine z_bret1 gi_148_15 gr_148 ?_
            show zW _ _ _ _ _ _ _ _ _ _
            refine z_bret1 gi_248_6 gr_248 ?_
            show zW _ _ _ _ _ _ _ _ _ _
            refine z_if_eqF gi_196_4 zr_1 (by decide) ?_
            refine z_iload2 gi_196_7 ?_
            refine z_pushJ gp_196_8 ?_
            refine z_aload0 gi_196_10 ?_
            refine z_getI (v := J 8 2) gi_196_11 gk_50 ((hks 50 1 rfl).trans y2.symm) ?_
            refine z_pushJ gp_196_14 ?_
            refine z_isub (e := (J 8 2) - 1) gi_196_15 rfl ?_
            refine z_cS3 gi_196_16 (Nat.le_of_ble_eq_true rfl) gc_148_III ?_
            refine z_iload0 gi_148_0 ?_
            refine z_iload1 gi_148_1 ?_
            refine z_icmp_ltF gi_148_2 (by omega) zrn_3 (by omega) ?_
            refine z_iload0 gi_148_5 ?_
            refine z_iload2 gi_148_6 ?_
            refine z_icmp_gtF gi_148_7 (by omega) (by omega) (by omega) ?_
            refine z_pushJ gp_148_10 ?_
            refine z_goto gi_148_11 ?_
            refine z_bret1 gi_148_15 gr_148 ?_
            show zW _ _ _ _ _ _ _ _ _ _
            refine z_if_neT gi_196_19 zr_1 (by decide) ?_
            refine z_aload0 gi_196_24 ?_
            refine z_iload1 gi_196_25 ?_
            refine z_cV1 gi_196_26 gk_50 go_192 (Nat.le_of_ble_eq_true rfl) gc_192_RI ?_
            refine z_aload0 gi_192_0 ?_
            refine z_getR (r := 83) gi_192_1 gk_50 (hRr _ rm_50_58 (by decide)) ?_
            refine z_iload1 gi_192_4 ?_
            refine z_iald (v := (-2)) gi_192_5 gk_83 (by decide) (by omega) ((hks 83 _ rfl).trans e83n) ?_
            refine z_pushJ gp_192_6 ?_
            refine z_icmp_neT gi_192_7 zrn_2 zrn_1 (by decide) ?_
            refine z_aload0 gi_192_15 ?_
            refine z_getR (r := 83) gi_192_16 gk_50 (hRr _ rm_50_58 (by decide)) ?_
            refine z_iload1 gi_192_19 ?_
            refine z_iald (v := (-2)) gi_192_20 gk_83 (by decide) (by omega) ((hks 83 _ rfl).trans e83n) ?_
            refine z_pushJ gp_192_21 ?_
            refine z_icmp_neF gi_192_23 zrn_2 zrn_2 (by decide) ?_
            refine z_pushJ gp_192_26 ?_
            refine z_goto gi_192_27 ?_
            refine z_iret gi_192_32 gr_192 ?_
            show zW _ _ _ _ _ _ _ _ _ _
            refine z_if_geT gi_196_29 zr_0 (by decide) ?_
            refine z_aload0 gi_196_38 ?_
            refine z_iload1 gi_196_39 ?_
            refine z_pushJ gp_196_40 ?_
            have hV := zK_m hks kV_S
            refine z_callV (As := [_, _]) _ gi_196_42 rfl rfl (Nat.le_of_ble_eq_true rfl) (Nat.le_of_ble_eq_true rfl) (goRound_k (N := (cN J)) (n := J 8 2) (T := T) (s := s) (z := (J (38 + 2 * s.toNat) 3)) (b := (fun i => M (39 + 2 * s.toNat) i)) (w := 0) (most := 60) hRr ((rN_V hV).trans y1.symm) ((hks 50 1 rfl).trans y2.symm) y3 (LawR_V t3 hV) t1 hs6 (fun i i1 i2 => (s8 i i1 i2).symm) hbr ((hks 84 _ rfl).trans s7) s4 (by decide) ((hks 50 35 rfl).trans hW.2) (by decide)) (fun r J4 M4 R4 hr4 => ?_)
            obtain ⟨K2, rfl, hO, hOr, hK2, hq4, hr4, eM, eR⟩ := hr4
            obtain rfl : M = M4 := eM.symm
            obtain rfl : R = R4 := eR.symm
            show zW _ _ _ _ _ (_ :: _) _ _ _ _
            have eK : K2 = K := tEnd_w ⟨hO, (by rcases hOr with h | h; (exfalso; omega); exact h)⟩ hE
            rw [eK] at hr4
            have hg : rTg J4 (J 8 2) S (sGone (cN J) (J 8 2)) := rT_w eS hr4
            have hs4 := zK_t hks (zK_m hq4 kS_Q)
            have hn4 : J4 50 1 = J 8 2 := (hs4 50 1 rfl).trans y2.symm
            have hfr : ∀ p, 0 ≤ p → p < J 8 2 → J4 69 p = tsh S p := fun p q1 q2 => hg.2.2.2.2.1 p q1 q2
            refine z_istore (ls1 := [some (.ref 50), some (zi s), some (zi p), some (zi (K2 : Int))]) gi_196_45 rfl ?_
            refine z_iload2 gi_196_46 ?_
            refine z_pushJ gp_196_47 ?_
            refine z_icmp_neF gi_196_49 (by omega) zrn_3 (by omega) ?_
            refine z_iload3 rfl ?_
            refine z_goto rfl ?_
            refine z_iret gi_196_87 gr_196 ?_
            refine ⟨?_, ?_⟩
            · first | rfl | exact congrArg (fun v => some (zi v)) (by omega) | (exfalso; omega)
            · exact Rel_S hs4 zK_r hr
          · refine z_aload0 rfl ?_
            refine z_getR (r := 10) rfl gk_0 (hR _ rm_0_2) ?_
            refine z_getI (v := tmi S) rfl gk_10 (hc2.2.2.1) ?_
            refine z_goto rfl ?_
            refine z_iret gi_109_96 gr_109 ?_
            refine ⟨_, rfl, ?_⟩
            show zW _ _ _ _ [some (.ref 50), some (zi s), some (zi p), none] _ _ _ _ _
            refine z_iload1 gi_196_0 ?_
            refine z_cS1 gi_196_1 (Nat.le_of_ble_eq_true rfl) gc_248_I ?_
            refine z_iload0 gi_248_0 ?_
            refine z_pushJ gp_248_1 ?_
            refine z_pushJ gp_248_2 ?_
            refine z_cS3 gi_248_3 (Nat.le_of_ble_eq_true rfl) gc_148_III ?_
            refine z_iload0 gi_148_0 ?_
            refine z_iload1 gi_148_1 ?_
            refine z_icmp_ltF gi_148_2 (by omega) zr_0 (by omega) ?_
            refine z_iload0 gi_148_5 ?_
            refine z_iload2 gi_148_6 ?_
            refine z_icmp_gtF gi_148_7 (by omega) zr_5 (by omega) ?_
            refine z_pushJ gp_148_10 ?_
            refine z_goto gi_148_11 ?_
            refine z_bret1 gi_148_15 gr_148 ?_
            show zW _ _ _ _ _ _ _ _ _ _
            refine z_bret1 gi_248_6 gr_248 ?_
            show zW _ _ _ _ _ _ _ _ _ _
            refine z_if_eqF gi_196_4 zr_1 (by decide) ?_
            refine z_iload2 gi_196_7 ?_
            refine z_pushJ gp_196_8 ?_
            refine z_aload0 gi_196_10 ?_
            refine z_getI (v := J 8 2) gi_196_11 gk_50 ((hks 50 1 rfl).trans y2.symm) ?_
            refine z_pushJ gp_196_14 ?_
            refine z_isub (e := (J 8 2) - 1) gi_196_15 rfl ?_
            refine z_cS3 gi_196_16 (Nat.le_of_ble_eq_true rfl) gc_148_III ?_
            refine z_iload0 gi_148_0 ?_
            refine z_iload1 gi_148_1 ?_
            refine z_icmp_ltF gi_148_2 (by omega) zrn_3 (by omega) ?_
            refine z_iload0 gi_148_5 ?_
            refine z_iload2 gi_148_6 ?_
            refine z_icmp_gtF gi_148_7 (by omega) (by omega) (by omega) ?_
            refine z_pushJ gp_148_10 ?_
            refine z_goto gi_148_11 ?_
            refine z_bret1 gi_148_15 gr_148 ?_
            show zW _ _ _ _ _ _ _ _ _ _
            refine z_if_neT gi_196_19 zr_1 (by decide) ?_
            refine z_aload0 gi_196_24 ?_
            refine z_iload1 gi_196_25 ?_
            refine z_cV1 gi_196_26 gk_50 go_192 (Nat.le_of_ble_eq_true rfl) gc_192_RI ?_
            refine z_aload0 gi_192_0 ?_
            refine z_getR (r := 83) gi_192_1 gk_50 (hRr _ rm_50_58 (by decide)) ?_
            refine z_iload1 gi_192_4 ?_
            refine z_iald (v := (-2)) gi_192_5 gk_83 (by decide) (by omega) ((hks 83 _ rfl).trans e83n) ?_
            refine z_pushJ gp_192_6 ?_
            refine z_icmp_neT gi_192_7 zrn_2 zrn_1 (by decide) ?_
            refine z_aload0 gi_192_15 ?_
            refine z_getR (r := 83) gi_192_16 gk_50 (hRr _ rm_50_58 (by decide)) ?_
            refine z_iload1 gi_192_19 ?_
            refine z_iald (v := (-2)) gi_192_20 gk_83 (by decide) (by omega) ((hks 83 _ rfl).trans e83n) ?_
            refine z_pushJ gp_192_21 ?_
            refine z_icmp_neF gi_192_23 zrn_2 zrn_2 (by decide) ?_
            refine z_pushJ gp_192_26 ?_
            refine z_goto gi_192_27 ?_
            refine z_iret gi_192_32 gr_192 ?_
            show zW _ _ _ _ _ _ _ _ _ _
            refine z_if_geT gi_196_29 zr_0 (by decide) ?_
            refine z_aload0 gi_196_38 ?_
            refine z_iload1 gi_196_39 ?_
            refine z_pushJ gp_196_40 ?_
            have hV := zK_m hks kV_S
            refine z_callV (As := [_, _]) _ gi_196_42 rfl rfl (Nat.le_of_ble_eq_true rfl) (Nat.le_of_ble_eq_true rfl) (goRound_k (N := (cN J)) (n := J 8 2) (T := T) (s := s) (z := (J (38 + 2 * s.toNat) 3)) (b := (fun i => M (39 + 2 * s.toNat) i)) (w := 0) (most := 60) hRr ((rN_V hV).trans y1.symm) ((hks 50 1 rfl).trans y2.symm) y3 (LawR_V t3 hV) t1 hs6 (fun i i1 i2 => (s8 i i1 i2).symm) hbr ((hks 84 _ rfl).trans s7) s4 (by decide) ((hks 50 35 rfl).trans hW.2) (by decide)) (fun r J4 M4 R4 hr4 => ?_)
            obtain ⟨K2, rfl, hO, hOr, hK2, hq4, hr4, eM, eR⟩ := hr4
            obtain rfl : M = M4 := eM.symm
            obtain rfl : R = R4 := eR.symm
            show zW _ _ _ _ _ (_ :: _) _ _ _ _
            have eK : K2 = K := tEnd_w ⟨hO, (by rcases hOr with h | h; (exfalso; omega); exact h)⟩ hE
            rw [eK] at hr4
            have hg : rTg J4 (J 8 2) S (sGone (cN J) (J 8 2)) := rT_w eS hr4
            have hs4 := zK_t hks (zK_m hq4 kS_Q)
            have hn4 : J4 50 1 = J 8 2 := (hs4 50 1 rfl).trans y2.symm
            have hfr : ∀ p, 0 ≤ p → p < J 8 2 → J4 69 p = tsh S p := fun p q1 q2 => hg.2.2.2.2.1 p q1 q2
            refine z_istore (ls1 := [some (.ref 50), some (zi s), some (zi p), some (zi (K2 : Int))]) gi_196_45 rfl ?_
            refine z_iload2 gi_196_46 ?_
            refine z_pushJ gp_196_47 ?_
            refine z_icmp_neT gi_196_49 (by omega) zrn_3 (by omega) ?_
            refine z_iload2 gi_196_56 ?_
            refine z_pushJ gp_196_57 ?_
            refine z_icmp_neF gi_196_59 (by omega) zrn_2 (by omega) ?_
            refine z_aload0 rfl ?_
            refine z_getI (v := tmi S) rfl gk_50 (hg.2.2.1) ?_
            refine z_goto rfl ?_
            refine z_iret gi_196_87 gr_196 ?_
            refine ⟨?_, ?_⟩
            · first | rfl | exact congrArg (fun v => some (zi v)) (by omega) | (exfalso; omega)
            · exact Rel_S hs4 zK_r hr
        · refine z_aload0 rfl ?_
          refine z_getR (r := 10) rfl gk_0 (hR _ rm_0_2) ?_
          refine z_getI (v := tfo S) rfl gk_10 (hc2.2.1) ?_
          refine z_iret rfl gr_109 ?_
          refine ⟨_, rfl, ?_⟩
          show zW _ _ _ _ [some (.ref 50), some (zi s), some (zi p), none] _ _ _ _ _
          refine z_iload1 gi_196_0 ?_
          refine z_cS1 gi_196_1 (Nat.le_of_ble_eq_true rfl) gc_248_I ?_
          refine z_iload0 gi_248_0 ?_
          refine z_pushJ gp_248_1 ?_
          refine z_pushJ gp_248_2 ?_
          refine z_cS3 gi_248_3 (Nat.le_of_ble_eq_true rfl) gc_148_III ?_
          refine z_iload0 gi_148_0 ?_
          refine z_iload1 gi_148_1 ?_
          refine z_icmp_ltF gi_148_2 (by omega) zr_0 (by omega) ?_
          refine z_iload0 gi_148_5 ?_
          refine z_iload2 gi_148_6 ?_
          refine z_icmp_gtF gi_148_7 (by omega) zr_5 (by omega) ?_
          refine z_pushJ gp_148_10 ?_
          refine z_goto gi_148_11 ?_
          refine z_bret1 gi_148_15 gr_148 ?_
          show zW _ _ _ _ _ _ _ _ _ _
          refine z_bret1 gi_248_6 gr_248 ?_
          show zW _ _ _ _ _ _ _ _ _ _
          refine z_if_eqF gi_196_4 zr_1 (by decide) ?_
          refine z_iload2 gi_196_7 ?_
          refine z_pushJ gp_196_8 ?_
          refine z_aload0 gi_196_10 ?_
          refine z_getI (v := J 8 2) gi_196_11 gk_50 ((hks 50 1 rfl).trans y2.symm) ?_
          refine z_pushJ gp_196_14 ?_
          refine z_isub (e := (J 8 2) - 1) gi_196_15 rfl ?_
          refine z_cS3 gi_196_16 (Nat.le_of_ble_eq_true rfl) gc_148_III ?_
          refine z_iload0 gi_148_0 ?_
          refine z_iload1 gi_148_1 ?_
          refine z_icmp_ltF gi_148_2 (by omega) zrn_3 (by omega) ?_
          refine z_iload0 gi_148_5 ?_
          refine z_iload2 gi_148_6 ?_
          refine z_icmp_gtF gi_148_7 (by omega) (by omega) (by omega) ?_
          refine z_pushJ gp_148_10 ?_
          refine z_goto gi_148_11 ?_
          refine z_bret1 gi_148_15 gr_148 ?_
          show zW _ _ _ _ _ _ _ _ _ _
          refine z_if_neT gi_196_19 zr_1 (by decide) ?_
          refine z_aload0 gi_196_24 ?_
          refine z_iload1 gi_196_25 ?_
          refine z_cV1 gi_196_26 gk_50 go_192 (Nat.le_of_ble_eq_true rfl) gc_192_RI ?_
          refine z_aload0 gi_192_0 ?_
          refine z_getR (r := 83) gi_192_1 gk_50 (hRr _ rm_50_58 (by decide)) ?_
          refine z_iload1 gi_192_4 ?_
          refine z_iald (v := (-2)) gi_192_5 gk_83 (by decide) (by omega) ((hks 83 _ rfl).trans e83n) ?_
          refine z_pushJ gp_192_6 ?_
          refine z_icmp_neT gi_192_7 zrn_2 zrn_1 (by decide) ?_
          refine z_aload0 gi_192_15 ?_
          refine z_getR (r := 83) gi_192_16 gk_50 (hRr _ rm_50_58 (by decide)) ?_
          refine z_iload1 gi_192_19 ?_
          refine z_iald (v := (-2)) gi_192_20 gk_83 (by decide) (by omega) ((hks 83 _ rfl).trans e83n) ?_
          refine z_pushJ gp_192_21 ?_
          refine z_icmp_neF gi_192_23 zrn_2 zrn_2 (by decide) ?_
          refine z_pushJ gp_192_26 ?_
          refine z_goto gi_192_27 ?_
          refine z_iret gi_192_32 gr_192 ?_
          show zW _ _ _ _ _ _ _ _ _ _
          refine z_if_geT gi_196_29 zr_0 (by decide) ?_
          refine z_aload0 gi_196_38 ?_
          refine z_iload1 gi_196_39 ?_
          refine z_pushJ gp_196_40 ?_
          have hV := zK_m hks kV_S
          refine z_callV (As := [_, _]) _ gi_196_42 rfl rfl (Nat.le_of_ble_eq_true rfl) (Nat.le_of_ble_eq_true rfl) (goRound_k (N := (cN J)) (n := J 8 2) (T := T) (s := s) (z := (J (38 + 2 * s.toNat) 3)) (b := (fun i => M (39 + 2 * s.toNat) i)) (w := 0) (most := 60) hRr ((rN_V hV).trans y1.symm) ((hks 50 1 rfl).trans y2.symm) y3 (LawR_V t3 hV) t1 hs6 (fun i i1 i2 => (s8 i i1 i2).symm) hbr ((hks 84 _ rfl).trans s7) s4 (by decide) ((hks 50 35 rfl).trans hW.2) (by decide)) (fun r J4 M4 R4 hr4 => ?_)
          obtain ⟨K2, rfl, hO, hOr, hK2, hq4, hr4, eM, eR⟩ := hr4
          obtain rfl : M = M4 := eM.symm
          obtain rfl : R = R4 := eR.symm
          show zW _ _ _ _ _ (_ :: _) _ _ _ _
          have eK : K2 = K := tEnd_w ⟨hO, (by rcases hOr with h | h; (exfalso; omega); exact h)⟩ hE
          rw [eK] at hr4
          have hg : rTg J4 (J 8 2) S (sGone (cN J) (J 8 2)) := rT_w eS hr4
          have hs4 := zK_t hks (zK_m hq4 kS_Q)
          have hn4 : J4 50 1 = J 8 2 := (hs4 50 1 rfl).trans y2.symm
          have hfr : ∀ p, 0 ≤ p → p < J 8 2 → J4 69 p = tsh S p := fun p q1 q2 => hg.2.2.2.2.1 p q1 q2
          refine z_istore (ls1 := [some (.ref 50), some (zi s), some (zi p), some (zi (K2 : Int))]) gi_196_45 rfl ?_
          refine z_iload2 gi_196_46 ?_
          refine z_pushJ gp_196_47 ?_
          refine z_icmp_neT gi_196_49 (by omega) zrn_3 (by omega) ?_
          refine z_iload2 gi_196_56 ?_
          refine z_pushJ gp_196_57 ?_
          refine z_icmp_neT gi_196_59 (by omega) zrn_2 (by omega) ?_
          refine z_iload2 gi_196_69 ?_
          refine z_pushJ gp_196_70 ?_
          refine z_icmp_neF gi_196_71 (by omega) zrn_1 (by omega) ?_
          refine z_aload0 rfl ?_
          refine z_getI (v := tfo S) rfl gk_50 (hg.2.2.2.1) ?_
          refine z_goto rfl ?_
          refine z_iret gi_196_87 gr_196 ?_
          refine ⟨?_, ?_⟩
          · first | rfl | exact congrArg (fun v => some (zi v)) (by omega) | (exfalso; omega)
          · exact Rel_S hs4 zK_r hr
      · refine z_aload0 rfl ?_
        refine z_getR (r := 10) rfl gk_0 (hR _ rm_0_2) ?_
        refine z_getR (r := 11) rfl gk_10 (hR _ rm_10_1) ?_
        refine z_iload2 rfl ?_
        have q6 := hi.1 p
        refine z_iald (v := tsh S p) rfl gk_11 (by decide) (by omega) (hc2.2.2.2.2.2.2.1 _ (by omega) (by omega)) ?_
        refine z_iret rfl gr_109 ?_
        refine ⟨_, rfl, ?_⟩
        show zW _ _ _ _ [some (.ref 50), some (zi s), some (zi p), none] _ _ _ _ _
        refine z_iload1 gi_196_0 ?_
        refine z_cS1 gi_196_1 (Nat.le_of_ble_eq_true rfl) gc_248_I ?_
        refine z_iload0 gi_248_0 ?_
        refine z_pushJ gp_248_1 ?_
        refine z_pushJ gp_248_2 ?_
        refine z_cS3 gi_248_3 (Nat.le_of_ble_eq_true rfl) gc_148_III ?_
        refine z_iload0 gi_148_0 ?_
        refine z_iload1 gi_148_1 ?_
        refine z_icmp_ltF gi_148_2 (by omega) zr_0 (by omega) ?_
        refine z_iload0 gi_148_5 ?_
        refine z_iload2 gi_148_6 ?_
        refine z_icmp_gtF gi_148_7 (by omega) zr_5 (by omega) ?_
        refine z_pushJ gp_148_10 ?_
        refine z_goto gi_148_11 ?_
        refine z_bret1 gi_148_15 gr_148 ?_
        show zW _ _ _ _ _ _ _ _ _ _
        refine z_bret1 gi_248_6 gr_248 ?_
        show zW _ _ _ _ _ _ _ _ _ _
        refine z_if_eqF gi_196_4 zr_1 (by decide) ?_
        refine z_iload2 gi_196_7 ?_
        refine z_pushJ gp_196_8 ?_
        refine z_aload0 gi_196_10 ?_
        refine z_getI (v := J 8 2) gi_196_11 gk_50 ((hks 50 1 rfl).trans y2.symm) ?_
        refine z_pushJ gp_196_14 ?_
        refine z_isub (e := (J 8 2) - 1) gi_196_15 rfl ?_
        refine z_cS3 gi_196_16 (Nat.le_of_ble_eq_true rfl) gc_148_III ?_
        refine z_iload0 gi_148_0 ?_
        refine z_iload1 gi_148_1 ?_
        refine z_icmp_ltF gi_148_2 (by omega) zrn_3 (by omega) ?_
        refine z_iload0 gi_148_5 ?_
        refine z_iload2 gi_148_6 ?_
        refine z_icmp_gtF gi_148_7 (by omega) (by omega) (by omega) ?_
        refine z_pushJ gp_148_10 ?_
        refine z_goto gi_148_11 ?_
        refine z_bret1 gi_148_15 gr_148 ?_
        show zW _ _ _ _ _ _ _ _ _ _
        refine z_if_neT gi_196_19 zr_1 (by decide) ?_
        refine z_aload0 gi_196_24 ?_
        refine z_iload1 gi_196_25 ?_
        refine z_cV1 gi_196_26 gk_50 go_192 (Nat.le_of_ble_eq_true rfl) gc_192_RI ?_
        refine z_aload0 gi_192_0 ?_
        refine z_getR (r := 83) gi_192_1 gk_50 (hRr _ rm_50_58 (by decide)) ?_
        refine z_iload1 gi_192_4 ?_
        refine z_iald (v := (-2)) gi_192_5 gk_83 (by decide) (by omega) ((hks 83 _ rfl).trans e83n) ?_
        refine z_pushJ gp_192_6 ?_
        refine z_icmp_neT gi_192_7 zrn_2 zrn_1 (by decide) ?_
        refine z_aload0 gi_192_15 ?_
        refine z_getR (r := 83) gi_192_16 gk_50 (hRr _ rm_50_58 (by decide)) ?_
        refine z_iload1 gi_192_19 ?_
        refine z_iald (v := (-2)) gi_192_20 gk_83 (by decide) (by omega) ((hks 83 _ rfl).trans e83n) ?_
        refine z_pushJ gp_192_21 ?_
        refine z_icmp_neF gi_192_23 zrn_2 zrn_2 (by decide) ?_
        refine z_pushJ gp_192_26 ?_
        refine z_goto gi_192_27 ?_
        refine z_iret gi_192_32 gr_192 ?_
        show zW _ _ _ _ _ _ _ _ _ _
        refine z_if_geT gi_196_29 zr_0 (by decide) ?_
        refine z_aload0 gi_196_38 ?_
        refine z_iload1 gi_196_39 ?_
        refine z_pushJ gp_196_40 ?_
        have hV := zK_m hks kV_S
        refine z_callV (As := [_, _]) _ gi_196_42 rfl rfl (Nat.le_of_ble_eq_true rfl) (Nat.le_of_ble_eq_true rfl) (goRound_k (N := (cN J)) (n := J 8 2) (T := T) (s := s) (z := (J (38 + 2 * s.toNat) 3)) (b := (fun i => M (39 + 2 * s.toNat) i)) (w := 0) (most := 60) hRr ((rN_V hV).trans y1.symm) ((hks 50 1 rfl).trans y2.symm) y3 (LawR_V t3 hV) t1 hs6 (fun i i1 i2 => (s8 i i1 i2).symm) hbr ((hks 84 _ rfl).trans s7) s4 (by decide) ((hks 50 35 rfl).trans hW.2) (by decide)) (fun r J4 M4 R4 hr4 => ?_)
        obtain ⟨K2, rfl, hO, hOr, hK2, hq4, hr4, eM, eR⟩ := hr4
        obtain rfl : M = M4 := eM.symm
        obtain rfl : R = R4 := eR.symm
        show zW _ _ _ _ _ (_ :: _) _ _ _ _
        have eK : K2 = K := tEnd_w ⟨hO, (by rcases hOr with h | h; (exfalso; omega); exact h)⟩ hE
        rw [eK] at hr4
        have hg : rTg J4 (J 8 2) S (sGone (cN J) (J 8 2)) := rT_w eS hr4
        have hs4 := zK_t hks (zK_m hq4 kS_Q)
        have hn4 : J4 50 1 = J 8 2 := (hs4 50 1 rfl).trans y2.symm
        have hfr : ∀ p, 0 ≤ p → p < J 8 2 → J4 69 p = tsh S p := fun p q1 q2 => hg.2.2.2.2.1 p q1 q2
        refine z_istore (ls1 := [some (.ref 50), some (zi s), some (zi p), some (zi (K2 : Int))]) gi_196_45 rfl ?_
        refine z_iload2 gi_196_46 ?_
        refine z_pushJ gp_196_47 ?_
        refine z_icmp_neT gi_196_49 (by omega) zrn_3 (by omega) ?_
        refine z_iload2 gi_196_56 ?_
        refine z_pushJ gp_196_57 ?_
        refine z_icmp_neT gi_196_59 (by omega) zrn_2 (by omega) ?_
        refine z_iload2 gi_196_69 ?_
        refine z_pushJ gp_196_70 ?_
        refine z_icmp_neT gi_196_71 (by omega) zrn_1 (by omega) ?_
        refine z_aload0 rfl ?_
        refine z_getR (r := 69) rfl gk_50 (hRr _ rm_50_28 (by decide)) ?_
        refine z_iload2 rfl ?_
        have q7 := hi.1 p
        refine z_iald (v := tsh S p) rfl gk_69 (by decide) (by omega) (hfr _ (by omega) (by omega)) ?_
        refine z_iret gi_196_87 gr_196 ?_
        refine ⟨?_, ?_⟩
        · first | rfl | exact congrArg (fun v => some (zi v)) (by omega) | (exfalso; omega)
        · exact Rel_S hs4 zK_r hr
    · refine z_pushJ gp_109_24 ?_
      refine z_iret gi_109_25 gr_109 ?_
      refine ⟨_, rfl, ?_⟩
      show zW _ _ _ _ [some (.ref 50), some (zi s), some (zi p), none] _ _ _ _ _
      refine z_iload1 gi_196_0 ?_
      refine z_cS1 gi_196_1 (Nat.le_of_ble_eq_true rfl) gc_248_I ?_
      refine z_iload0 gi_248_0 ?_
      refine z_pushJ gp_248_1 ?_
      refine z_pushJ gp_248_2 ?_
      refine z_cS3 gi_248_3 (Nat.le_of_ble_eq_true rfl) gc_148_III ?_
      refine z_iload0 gi_148_0 ?_
      refine z_iload1 gi_148_1 ?_
      refine z_icmp_ltF gi_148_2 (by omega) zr_0 (by omega) ?_
      refine z_iload0 gi_148_5 ?_
      refine z_iload2 gi_148_6 ?_
      refine z_icmp_gtF gi_148_7 (by omega) zr_5 (by omega) ?_
      refine z_pushJ gp_148_10 ?_
      refine z_goto gi_148_11 ?_
      refine z_bret1 gi_148_15 gr_148 ?_
      show zW _ _ _ _ _ _ _ _ _ _
      refine z_bret1 gi_248_6 gr_248 ?_
      show zW _ _ _ _ _ _ _ _ _ _
      refine z_if_eqF gi_196_4 zr_1 (by decide) ?_
      refine z_iload2 gi_196_7 ?_
      refine z_pushJ gp_196_8 ?_
      refine z_aload0 gi_196_10 ?_
      refine z_getI (v := J 8 2) gi_196_11 gk_50 (y2.symm) ?_
      refine z_pushJ gp_196_14 ?_
      refine z_isub (e := (J 8 2) - 1) gi_196_15 rfl ?_
      refine z_cS3 gi_196_16 (Nat.le_of_ble_eq_true rfl) gc_148_III ?_
      refine z_iload0 gi_148_0 ?_
      refine z_iload1 gi_148_1 ?_
      refine z_icmp_ltF gi_148_2 (by omega) zrn_3 (by omega) ?_
      refine z_iload0 gi_148_5 ?_
      refine z_iload2 gi_148_6 ?_
      refine z_icmp_gtT gi_148_7 (by omega) (by omega) (by omega) ?_
      refine z_pushJ gp_148_14 ?_
      refine z_bret0 gi_148_15 gr_148 ?_
      show zW _ _ _ _ _ _ _ _ _ _
      refine z_if_neF gi_196_19 zr_0 (by decide) ?_
      refine z_pushJ gp_196_22 ?_
      refine z_iret gi_196_23 gr_196 ?_
      refine ⟨?_, ?_⟩
      · first | rfl | exact congrArg (fun v => some (zi v)) (by omega) | (exfalso; omega)
      · exact hr
theorem st_round {X : Nat × (Nat → Int32)} {d : Nat} {J M : zA} {R : zR} {s p : Int} (hr : Rel X J M R) (hs : -2147483648 ≤ s ∧ s < 2147483648) (hp : -2147483648 ≤ p ∧ p < 2147483648) : zW X (d + 20) 109 0 (gEn 109 [(.ref 0), (zi s), (zi p)]) [] J M R (stP X (d + 20) 196 [(zi s), (zi p)]) := by
  by_cases hs6 : 0 ≤ s ∧ s < 6
  · have hS : RelS J M := hr.2.2.2.2.2.2.2.1
    have h2 := (hS s hs6.1 hs6.2).2.1
    have h4 : J (38 + 2 * s.toNat) 0 = 0 ∨ J (38 + 2 * s.toNat) 0 = 1 ∨ J (38 + 2 * s.toNat) 0 = 2 := by omega
    rcases h4 with hh | hh | hh
    · exact st_round_0 hr hs hp hs6 hh
    · exact st_round_1 hr hs hp hs6 hh
    · by_cases hso : J (38 + 2 * s.toNat) 2 = 0
      · exact st_round_m hr hs hp hs6 hh hso
      · exact st_round_2 hr hs hp hs6 hh hso
  · exact st_round_n hr hs hp hs6
theorem st_ifNot_n {X : Nat × (Nat → Int32)} {d : Nat} {J M : zA} {R : zR} {s v : Int} (hr : Rel X J M R) (hs : -2147483648 ≤ s ∧ s < 2147483648) (hv : -2147483648 ≤ v ∧ v < 2147483648) (hs6 : ¬ (0 ≤ s ∧ s < 6)) : zW X (d + 20) 110 0 (gEn 110 [(.ref 0), (zi s), (zi v)]) [] J M R (stP X (d + 20) 199 [(zi s), (zi v)]) := by
  have hr0 := hr
  obtain ⟨hR, hG, hY, hD, hP, hC, hAc, hS, hTp, hX, hW⟩ := hr0
  have hRr : zRoR R := zRoR_of hR
  have hY0 := hY
  obtain ⟨y1, y2, y3⟩ := hY0
  have yn := zNn y3
  show zW _ _ _ _ [some (.ref 0), some (zi s), some (zi v), none, none, none, none] _ _ _ _ _
  refine z_iload1 gi_110_0 ?_
  refine z_cS1 gi_110_1 (Nat.le_of_ble_eq_true rfl) gc_143_I ?_
  refine z_iload0 gi_143_0 ?_
  refine z_if_lt gi_143_1 (by omega) (fun h1 => ?_) (fun h1 => ?_)
  · refine z_pushJ gp_143_14 ?_
    refine z_bret0 gi_143_15 gr_143 ?_
    show zW _ _ _ _ _ _ _ _ _ _
    refine z_if_eqT gi_110_4 zr_0 (by decide) ?_
    refine z_pushJ gp_110_14 ?_
    refine z_iret gi_110_15 gr_110 ?_
    refine ⟨_, rfl, ?_⟩
    show zW _ _ _ _ [some (.ref 50), some (zi s), some (zi v), none] _ _ _ _ _
    refine z_iload1 gi_199_0 ?_
    refine z_cS1 gi_199_1 (Nat.le_of_ble_eq_true rfl) gc_248_I ?_
    refine z_iload0 gi_248_0 ?_
    refine z_pushJ gp_248_1 ?_
    refine z_pushJ gp_248_2 ?_
    refine z_cS3 gi_248_3 (Nat.le_of_ble_eq_true rfl) gc_148_III ?_
    refine z_iload0 gi_148_0 ?_
    refine z_iload1 gi_148_1 ?_
    refine z_icmp_ltT gi_148_2 (by omega) zr_0 (by omega) ?_
    refine z_pushJ gp_148_14 ?_
    refine z_bret0 gi_148_15 gr_148 ?_
    show zW _ _ _ _ _ _ _ _ _ _
    refine z_bret0 gi_248_6 gr_248 ?_
    show zW _ _ _ _ _ _ _ _ _ _
    refine z_if_eqT gi_199_4 zr_0 (by decide) ?_
    refine z_pushJ gp_199_16 ?_
    refine z_iret gi_199_17 gr_199 ?_
    refine ⟨?_, ?_⟩
    · first | rfl | exact congrArg (fun v => some (zi v)) (by omega) | (exfalso; omega)
    · exact hr
  · refine z_iload0 gi_143_4 ?_
    refine z_pushJ gp_143_5 ?_
    refine z_icmp_geT gi_143_7 (by omega) zr_6 (by omega) ?_
    refine z_pushJ gp_143_14 ?_
    refine z_bret0 gi_143_15 gr_143 ?_
    show zW _ _ _ _ _ _ _ _ _ _
    refine z_if_eqT gi_110_4 zr_0 (by decide) ?_
    refine z_pushJ gp_110_14 ?_
    refine z_iret gi_110_15 gr_110 ?_
    refine ⟨_, rfl, ?_⟩
    show zW _ _ _ _ [some (.ref 50), some (zi s), some (zi v), none] _ _ _ _ _
    refine z_iload1 gi_199_0 ?_
    refine z_cS1 gi_199_1 (Nat.le_of_ble_eq_true rfl) gc_248_I ?_
    refine z_iload0 gi_248_0 ?_
    refine z_pushJ gp_248_1 ?_
    refine z_pushJ gp_248_2 ?_
    refine z_cS3 gi_248_3 (Nat.le_of_ble_eq_true rfl) gc_148_III ?_
    refine z_iload0 gi_148_0 ?_
    refine z_iload1 gi_148_1 ?_
    refine z_icmp_ltF gi_148_2 (by omega) zr_0 (by omega) ?_
    refine z_iload0 gi_148_5 ?_
    refine z_iload2 gi_148_6 ?_
    refine z_icmp_gtT gi_148_7 (by omega) zr_5 (by omega) ?_
    refine z_pushJ gp_148_14 ?_
    refine z_bret0 gi_148_15 gr_148 ?_
    show zW _ _ _ _ _ _ _ _ _ _
    refine z_bret0 gi_248_6 gr_248 ?_
    show zW _ _ _ _ _ _ _ _ _ _
    refine z_if_eqT gi_199_4 zr_0 (by decide) ?_
    refine z_pushJ gp_199_16 ?_
    refine z_iret gi_199_17 gr_199 ?_
    refine ⟨?_, ?_⟩
    · first | rfl | exact congrArg (fun v => some (zi v)) (by omega) | (exfalso; omega)
    · exact hr
theorem st_ifNot_0 {X : Nat × (Nat → Int32)} {d : Nat} {J M : zA} {R : zR} {s v : Int} (hr : Rel X J M R) (hs : -2147483648 ≤ s ∧ s < 2147483648) (hv : -2147483648 ≤ v ∧ v < 2147483648) (hs6 : 0 ≤ s ∧ s < 6) (hh : J (38 + 2 * s.toNat) 0 = 0) : zW X (d + 20) 110 0 (gEn 110 [(.ref 0), (zi s), (zi v)]) [] J M R (stP X (d + 20) 199 [(zi s), (zi v)]) := by
  have hr0 := hr
  obtain ⟨hR, hG, hY, hD, hP, hC, hAc, hS, hTp, hX, hW⟩ := hr0
  have hRr : zRoR R := zRoR_of hR
  have hY0 := hY
  obtain ⟨y1, y2, y3⟩ := hY0
  have yn := zNn y3
  have hA0 := hAc
  obtain ⟨a1, a2, a3, a4, a5, a6⟩ := hA0
  have e83 : J 83 s = -1 := (hS s hs6.1 hs6.2).1.symm.trans (cH_0 hh)
  have s3 : 0 ≤ J (38 + 2 * s.toNat) 2 ∧ J (38 + 2 * s.toNat) 2 ≤ 4 := (hS s hs6.1 hs6.2).2.2.1
  have s4 : 0 ≤ J (38 + 2 * s.toNat) 3 ∧ J (38 + 2 * s.toNat) 3 ≤ 60 := (hS s hs6.1 hs6.2).2.2.2.1
  show zW _ _ _ _ [some (.ref 0), some (zi s), some (zi v), none, none, none, none] _ _ _ _ _
  refine z_iload1 gi_110_0 ?_
  refine z_cS1 gi_110_1 (Nat.le_of_ble_eq_true rfl) gc_143_I ?_
  refine z_iload0 gi_143_0 ?_
  refine z_if_ltF gi_143_1 (by omega) (by omega) ?_
  refine z_iload0 gi_143_4 ?_
  refine z_pushJ gp_143_5 ?_
  refine z_icmp_geF gi_143_7 (by omega) zr_6 (by omega) ?_
  refine z_pushJ gp_143_10 ?_
  refine z_goto gi_143_11 ?_
  refine z_bret1 gi_143_15 gr_143 ?_
  show zW _ _ _ _ _ _ _ _ _ _
  refine z_if_eqF gi_110_4 zr_1 (by decide) ?_
  refine z_iload2 gi_110_7 ?_
  refine z_cS1 gi_110_8 (Nat.le_of_ble_eq_true rfl) gc_146_I ?_
  refine z_iload0 gi_146_0 ?_
  refine z_if_eq gi_146_1 (by omega) (fun h1 => ?_) (fun h1 => ?_)
  · refine z_pushJ gp_146_9 ?_
    refine z_goto gi_146_10 ?_
    refine z_bret1 gi_146_14 gr_146 ?_
    show zW _ _ _ _ _ _ _ _ _ _
    refine z_if_neT gi_110_11 zr_1 (by decide) ?_
    refine z_aload0 gi_110_16 ?_
    refine z_getR (r := 10) gi_110_17 gk_0 (hR _ rm_0_2) ?_
    refine z_aload0 gi_110_20 ?_
    refine z_getR (r := 37) gi_110_21 gk_0 (hR _ rm_0_11) ?_
    refine z_iload1 gi_110_24 ?_
    refine z_aald (r := 38 + 2 * s.toNat) gi_110_25 rfl (by decide) (by omega) (rr_shelf hR (by omega)) ?_
    refine z_callVi (As := [_]) (le := [some _, some _, none, none, none]) gi_110_26 rfl gk_10 (Nat.le_of_ble_eq_true rfl) (Nat.le_of_ble_eq_true rfl) rfl ?_
    refine z_aload1 gi_78_0 ?_
    refine z_callVi (As := []) (le := [some _]) gi_78_1 rfl (zk_shelf (by omega)) (Nat.le_of_ble_eq_true rfl) (Nat.le_of_ble_eq_true rfl) rfl ?_
    refine z_aload0 gi_69_0 ?_
    refine z_getI (v := 0) gi_69_1 (zk_shelf (by omega)) (hh) ?_
    refine z_if_neF gi_69_4 zr_0 (by decide) ?_
    refine z_pushJ gp_69_7 ?_
    refine z_iret gi_69_9 gr_69 ?_
    show zW _ _ _ _ _ _ _ _ _ _
    refine z_istore (ls1 := [some (.ref 10), some (.ref (38 + 2 * s.toNat)), some (zi (-11)), none, none]) gi_78_4 rfl ?_
    refine z_iload2 gi_78_5 ?_
    refine z_if_geF gi_78_6 zrn_11 (by decide) ?_
    refine z_iload2 gi_78_9 ?_
    refine z_iret gi_78_10 gr_78 ?_
    show zW _ _ _ _ _ _ _ _ _ _
    refine z_istore (ls1 := [some (.ref 0), some (zi s), some (zi v), some (zi (-11)), none, none, none]) gi_110_29 rfl ?_
    refine z_iload3 gi_110_30 ?_
    refine z_if_geF gi_110_31 zrn_11 (by decide) ?_
    refine z_iload3 gi_110_34 ?_
    refine z_iret gi_110_35 gr_110 ?_
    refine ⟨_, rfl, ?_⟩
    show zW _ _ _ _ [some (.ref 50), some (zi s), some (zi v), none] _ _ _ _ _
    refine z_iload1 gi_199_0 ?_
    refine z_cS1 gi_199_1 (Nat.le_of_ble_eq_true rfl) gc_248_I ?_
    refine z_iload0 gi_248_0 ?_
    refine z_pushJ gp_248_1 ?_
    refine z_pushJ gp_248_2 ?_
    refine z_cS3 gi_248_3 (Nat.le_of_ble_eq_true rfl) gc_148_III ?_
    refine z_iload0 gi_148_0 ?_
    refine z_iload1 gi_148_1 ?_
    refine z_icmp_ltF gi_148_2 (by omega) zr_0 (by omega) ?_
    refine z_iload0 gi_148_5 ?_
    refine z_iload2 gi_148_6 ?_
    refine z_icmp_gtF gi_148_7 (by omega) zr_5 (by omega) ?_
    refine z_pushJ gp_148_10 ?_
    refine z_goto gi_148_11 ?_
    refine z_bret1 gi_148_15 gr_148 ?_
    show zW _ _ _ _ _ _ _ _ _ _
    refine z_bret1 gi_248_6 gr_248 ?_
    show zW _ _ _ _ _ _ _ _ _ _
    refine z_if_eqF gi_199_4 zr_1 (by decide) ?_
    refine z_iload2 gi_199_7 ?_
    refine z_pushJ gp_199_8 ?_
    refine z_pushJ gp_199_9 ?_
    refine z_cS3 gi_199_10 (Nat.le_of_ble_eq_true rfl) gc_148_III ?_
    refine z_iload0 gi_148_0 ?_
    refine z_iload1 gi_148_1 ?_
    refine z_icmp_ltF gi_148_2 (by omega) zr_0 (by omega) ?_
    refine z_iload0 gi_148_5 ?_
    refine z_iload2 gi_148_6 ?_
    refine z_icmp_gtF gi_148_7 (by omega) zr_1 (by omega) ?_
    refine z_pushJ gp_148_10 ?_
    refine z_goto gi_148_11 ?_
    refine z_bret1 gi_148_15 gr_148 ?_
    show zW _ _ _ _ _ _ _ _ _ _
    refine z_if_neT gi_199_13 zr_1 (by decide) ?_
    refine z_aload0 gi_199_18 ?_
    refine z_iload1 gi_199_19 ?_
    refine z_cV1 gi_199_20 gk_50 go_192 (Nat.le_of_ble_eq_true rfl) gc_192_RI ?_
    refine z_aload0 gi_192_0 ?_
    refine z_getR (r := 83) gi_192_1 gk_50 (hRr _ rm_50_58 (by decide)) ?_
    refine z_iload1 gi_192_4 ?_
    refine z_iald (v := (-1)) gi_192_5 gk_83 (by decide) (by omega) (e83) ?_
    refine z_pushJ gp_192_6 ?_
    refine z_icmp_neF gi_192_7 zrn_1 zrn_1 (by decide) ?_
    refine z_pushJ gp_192_10 ?_
    refine z_goto gi_192_12 ?_
    refine z_iret gi_192_32 gr_192 ?_
    show zW _ _ _ _ _ _ _ _ _ _
    refine z_if_geF gi_199_23 zrn_11 (by decide) ?_
    refine z_aload0 gi_199_26 ?_
    refine z_iload1 gi_199_27 ?_
    refine z_cV1 gi_199_28 gk_50 go_192 (Nat.le_of_ble_eq_true rfl) gc_192_RI ?_
    refine z_aload0 gi_192_0 ?_
    refine z_getR (r := 83) gi_192_1 gk_50 (hRr _ rm_50_58 (by decide)) ?_
    refine z_iload1 gi_192_4 ?_
    refine z_iald (v := (-1)) gi_192_5 gk_83 (by decide) (by omega) (e83) ?_
    refine z_pushJ gp_192_6 ?_
    refine z_icmp_neF gi_192_7 zrn_1 zrn_1 (by decide) ?_
    refine z_pushJ gp_192_10 ?_
    refine z_goto gi_192_12 ?_
    refine z_iret gi_192_32 gr_192 ?_
    show zW _ _ _ _ _ _ _ _ _ _
    refine z_iret gi_199_31 gr_199 ?_
    refine ⟨?_, ?_⟩
    · first | rfl | exact congrArg (fun v => some (zi v)) (by omega) | (exfalso; omega)
    · exact hr
  · refine z_iload0 gi_146_4 ?_
    refine z_pushJ gp_146_5 ?_
    refine z_icmp_ne gi_146_6 (by omega) zr_1 (fun h2 => ?_) (fun h2 => ?_)
    · refine z_pushJ gp_146_13 ?_
      refine z_bret0 gi_146_14 gr_146 ?_
      show zW _ _ _ _ _ _ _ _ _ _
      refine z_if_neF gi_110_11 zr_0 (by decide) ?_
      refine z_pushJ gp_110_14 ?_
      refine z_iret gi_110_15 gr_110 ?_
      refine ⟨_, rfl, ?_⟩
      show zW _ _ _ _ [some (.ref 50), some (zi s), some (zi v), none] _ _ _ _ _
      refine z_iload1 gi_199_0 ?_
      refine z_cS1 gi_199_1 (Nat.le_of_ble_eq_true rfl) gc_248_I ?_
      refine z_iload0 gi_248_0 ?_
      refine z_pushJ gp_248_1 ?_
      refine z_pushJ gp_248_2 ?_
      refine z_cS3 gi_248_3 (Nat.le_of_ble_eq_true rfl) gc_148_III ?_
      refine z_iload0 gi_148_0 ?_
      refine z_iload1 gi_148_1 ?_
      refine z_icmp_ltF gi_148_2 (by omega) zr_0 (by omega) ?_
      refine z_iload0 gi_148_5 ?_
      refine z_iload2 gi_148_6 ?_
      refine z_icmp_gtF gi_148_7 (by omega) zr_5 (by omega) ?_
      refine z_pushJ gp_148_10 ?_
      refine z_goto gi_148_11 ?_
      refine z_bret1 gi_148_15 gr_148 ?_
      show zW _ _ _ _ _ _ _ _ _ _
      refine z_bret1 gi_248_6 gr_248 ?_
      show zW _ _ _ _ _ _ _ _ _ _
      refine z_if_eqF gi_199_4 zr_1 (by decide) ?_
      refine z_iload2 gi_199_7 ?_
      refine z_pushJ gp_199_8 ?_
      refine z_pushJ gp_199_9 ?_
      refine z_cS3 gi_199_10 (Nat.le_of_ble_eq_true rfl) gc_148_III ?_
      refine z_iload0 gi_148_0 ?_
      refine z_iload1 gi_148_1 ?_
      refine z_icmp_lt gi_148_2 (by omega) zr_0 (fun h3 => ?_) (fun h3 => ?_)
      · refine z_pushJ gp_148_14 ?_
        refine z_bret0 gi_148_15 gr_148 ?_
        show zW _ _ _ _ _ _ _ _ _ _
        refine z_if_neF gi_199_13 zr_0 (by decide) ?_
        refine z_pushJ gp_199_16 ?_
        refine z_iret gi_199_17 gr_199 ?_
        refine ⟨?_, ?_⟩
        · first | rfl | exact congrArg (fun v => some (zi v)) (by omega) | (exfalso; omega)
        · exact hr
      · refine z_iload0 gi_148_5 ?_
        refine z_iload2 gi_148_6 ?_
        refine z_icmp_gt gi_148_7 (by omega) zr_1 (fun h4 => ?_) (fun h4 => ?_)
        · refine z_pushJ gp_148_14 ?_
          refine z_bret0 gi_148_15 gr_148 ?_
          show zW _ _ _ _ _ _ _ _ _ _
          refine z_if_neF gi_199_13 zr_0 (by decide) ?_
          refine z_pushJ gp_199_16 ?_
          refine z_iret gi_199_17 gr_199 ?_
          refine ⟨?_, ?_⟩
          · first | rfl | exact congrArg (fun v => some (zi v)) (by omega) | (exfalso; omega)
          · exact hr
        · refine z_pushJ gp_148_10 ?_
          refine z_goto gi_148_11 ?_
          refine z_bret1 gi_148_15 gr_148 ?_
          show zW _ _ _ _ _ _ _ _ _ _
          refine z_if_neT gi_199_13 zr_1 (by decide) ?_
          refine z_aload0 gi_199_18 ?_
          refine z_iload1 gi_199_19 ?_
          refine z_cV1 gi_199_20 gk_50 go_192 (Nat.le_of_ble_eq_true rfl) gc_192_RI ?_
          refine z_aload0 gi_192_0 ?_
          refine z_getR (r := 83) gi_192_1 gk_50 (hRr _ rm_50_58 (by decide)) ?_
          refine z_iload1 gi_192_4 ?_
          refine z_iald (v := (-1)) gi_192_5 gk_83 (by decide) (by omega) (e83) ?_
          refine z_pushJ gp_192_6 ?_
          refine z_icmp_neF gi_192_7 zrn_1 zrn_1 (by decide) ?_
          refine z_pushJ gp_192_10 ?_
          refine z_goto gi_192_12 ?_
          refine z_iret gi_192_32 gr_192 ?_
          show zW _ _ _ _ _ _ _ _ _ _
          refine z_if_geF gi_199_23 zrn_11 (by decide) ?_
          refine z_aload0 gi_199_26 ?_
          refine z_iload1 gi_199_27 ?_
          refine z_cV1 gi_199_28 gk_50 go_192 (Nat.le_of_ble_eq_true rfl) gc_192_RI ?_
          refine z_aload0 gi_192_0 ?_
          refine z_getR (r := 83) gi_192_1 gk_50 (hRr _ rm_50_58 (by decide)) ?_
          refine z_iload1 gi_192_4 ?_
          refine z_iald (v := (-1)) gi_192_5 gk_83 (by decide) (by omega) (e83) ?_
          refine z_pushJ gp_192_6 ?_
          refine z_icmp_neF gi_192_7 zrn_1 zrn_1 (by decide) ?_
          refine z_pushJ gp_192_10 ?_
          refine z_goto gi_192_12 ?_
          refine z_iret gi_192_32 gr_192 ?_
          show zW _ _ _ _ _ _ _ _ _ _
          refine z_iret gi_199_31 gr_199 ?_
          refine ⟨?_, ?_⟩
          · first | rfl | exact congrArg (fun v => some (zi v)) (by omega) | (exfalso; omega)
          · exact hr
    · refine z_pushJ gp_146_9 ?_
      refine z_goto gi_146_10 ?_
      refine z_bret1 gi_146_14 gr_146 ?_
      show zW _ _ _ _ _ _ _ _ _ _
      refine z_if_neT gi_110_11 zr_1 (by decide) ?_
      refine z_aload0 gi_110_16 ?_
      refine z_getR (r := 10) gi_110_17 gk_0 (hR _ rm_0_2) ?_
      refine z_aload0 gi_110_20 ?_
      refine z_getR (r := 37) gi_110_21 gk_0 (hR _ rm_0_11) ?_
      refine z_iload1 gi_110_24 ?_
      refine z_aald (r := 38 + 2 * s.toNat) gi_110_25 rfl (by decide) (by omega) (rr_shelf hR (by omega)) ?_
      refine z_callVi (As := [_]) (le := [some _, some _, none, none, none]) gi_110_26 rfl gk_10 (Nat.le_of_ble_eq_true rfl) (Nat.le_of_ble_eq_true rfl) rfl ?_
      refine z_aload1 gi_78_0 ?_
      refine z_callVi (As := []) (le := [some _]) gi_78_1 rfl (zk_shelf (by omega)) (Nat.le_of_ble_eq_true rfl) (Nat.le_of_ble_eq_true rfl) rfl ?_
      refine z_aload0 gi_69_0 ?_
      refine z_getI (v := 0) gi_69_1 (zk_shelf (by omega)) (hh) ?_
      refine z_if_neF gi_69_4 zr_0 (by decide) ?_
      refine z_pushJ gp_69_7 ?_
      refine z_iret gi_69_9 gr_69 ?_
      show zW _ _ _ _ _ _ _ _ _ _
      refine z_istore (ls1 := [some (.ref 10), some (.ref (38 + 2 * s.toNat)), some (zi (-11)), none, none]) gi_78_4 rfl ?_
      refine z_iload2 gi_78_5 ?_
      refine z_if_geF gi_78_6 zrn_11 (by decide) ?_
      refine z_iload2 gi_78_9 ?_
      refine z_iret gi_78_10 gr_78 ?_
      show zW _ _ _ _ _ _ _ _ _ _
      refine z_istore (ls1 := [some (.ref 0), some (zi s), some (zi v), some (zi (-11)), none, none, none]) gi_110_29 rfl ?_
      refine z_iload3 gi_110_30 ?_
      refine z_if_geF gi_110_31 zrn_11 (by decide) ?_
      refine z_iload3 gi_110_34 ?_
      refine z_iret gi_110_35 gr_110 ?_
      refine ⟨_, rfl, ?_⟩
      show zW _ _ _ _ [some (.ref 50), some (zi s), some (zi v), none] _ _ _ _ _
      refine z_iload1 gi_199_0 ?_
      refine z_cS1 gi_199_1 (Nat.le_of_ble_eq_true rfl) gc_248_I ?_
      refine z_iload0 gi_248_0 ?_
      refine z_pushJ gp_248_1 ?_
      refine z_pushJ gp_248_2 ?_
      refine z_cS3 gi_248_3 (Nat.le_of_ble_eq_true rfl) gc_148_III ?_
      refine z_iload0 gi_148_0 ?_
      refine z_iload1 gi_148_1 ?_
      refine z_icmp_ltF gi_148_2 (by omega) zr_0 (by omega) ?_
      refine z_iload0 gi_148_5 ?_
      refine z_iload2 gi_148_6 ?_
      refine z_icmp_gtF gi_148_7 (by omega) zr_5 (by omega) ?_
      refine z_pushJ gp_148_10 ?_
      refine z_goto gi_148_11 ?_
      refine z_bret1 gi_148_15 gr_148 ?_
      show zW _ _ _ _ _ _ _ _ _ _
      refine z_bret1 gi_248_6 gr_248 ?_
      show zW _ _ _ _ _ _ _ _ _ _
      refine z_if_eqF gi_199_4 zr_1 (by decide) ?_
      refine z_iload2 gi_199_7 ?_
      refine z_pushJ gp_199_8 ?_
      refine z_pushJ gp_199_9 ?_
      refine z_cS3 gi_199_10 (Nat.le_of_ble_eq_true rfl) gc_148_III ?_
      refine z_iload0 gi_148_0 ?_
      refine z_iload1 gi_148_1 ?_
      refine z_icmp_ltF gi_148_2 (by omega) zr_0 (by omega) ?_
      refine z_iload0 gi_148_5 ?_
      refine z_iload2 gi_148_6 ?_
      refine z_icmp_gtF gi_148_7 (by omega) zr_1 (by omega) ?_
      refine z_pushJ gp_148_10 ?_
      refine z_goto gi_148_11 ?_
      refine z_bret1 gi_148_15 gr_148 ?_
      show zW _ _ _ _ _ _ _ _ _ _
      refine z_if_neT gi_199_13 zr_1 (by decide) ?_
      refine z_aload0 gi_199_18 ?_
      refine z_iload1 gi_199_19 ?_
      refine z_cV1 gi_199_20 gk_50 go_192 (Nat.le_of_ble_eq_true rfl) gc_192_RI ?_
      refine z_aload0 gi_192_0 ?_
      refine z_getR (r := 83) gi_192_1 gk_50 (hRr _ rm_50_58 (by decide)) ?_
      refine z_iload1 gi_192_4 ?_
      refine z_iald (v := (-1)) gi_192_5 gk_83 (by decide) (by omega) (e83) ?_
      refine z_pushJ gp_192_6 ?_
      refine z_icmp_neF gi_192_7 zrn_1 zrn_1 (by decide) ?_
      refine z_pushJ gp_192_10 ?_
      refine z_goto gi_192_12 ?_
      refine z_iret gi_192_32 gr_192 ?_
      show zW _ _ _ _ _ _ _ _ _ _
      refine z_if_geF gi_199_23 zrn_11 (by decide) ?_
      refine z_aload0 gi_199_26 ?_
      refine z_iload1 gi_199_27 ?_
      refine z_cV1 gi_199_28 gk_50 go_192 (Nat.le_of_ble_eq_true rfl) gc_192_RI ?_
      refine z_aload0 gi_192_0 ?_
      refine z_getR (r := 83) gi_192_1 gk_50 (hRr _ rm_50_58 (by decide)) ?_
      refine z_iload1 gi_192_4 ?_
      refine z_iald (v := (-1)) gi_192_5 gk_83 (by decide) (by omega) (e83) ?_
      refine z_pushJ gp_192_6 ?_
      refine z_icmp_neF gi_192_7 zrn_1 zrn_1 (by decide) ?_
      refine z_pushJ gp_192_10 ?_
      refine z_goto gi_192_12 ?_
      refine z_iret gi_192_32 gr_192 ?_
      show zW _ _ _ _ _ _ _ _ _ _
      refine z_iret gi_199_31 gr_199 ?_
      refine ⟨?_, ?_⟩
      · first | rfl | exact congrArg (fun v => some (zi v)) (by omega) | (exfalso; omega)
      · exact hr
theorem st_ifNot_1 {X : Nat × (Nat → Int32)} {d : Nat} {J M : zA} {R : zR} {s v : Int} (hr : Rel X J M R) (hs : -2147483648 ≤ s ∧ s < 2147483648) (hv : -2147483648 ≤ v ∧ v < 2147483648) (hs6 : 0 ≤ s ∧ s < 6) (hh : J (38 + 2 * s.toNat) 0 = 1) : zW X (d + 20) 110 0 (gEn 110 [(.ref 0), (zi s), (zi v)]) [] J M R (stP X (d + 20) 199 [(zi s), (zi v)]) := by
  have hr0 := hr
  obtain ⟨hR, hG, hY, hD, hP, hC, hAc, hS, hTp, hX, hW⟩ := hr0
  have hRr : zRoR R := zRoR_of hR
  have hY0 := hY
  obtain ⟨y1, y2, y3⟩ := hY0
  have yn := zNn y3
  have hA0 := hAc
  obtain ⟨a1, a2, a3, a4, a5, a6⟩ := hA0
  have e83 : J 83 s = J (38 + 2 * s.toNat) 1 := (hS s hs6.1 hs6.2).1.symm.trans (cH_1 hh)
  have s3 : 0 ≤ J (38 + 2 * s.toNat) 2 ∧ J (38 + 2 * s.toNat) 2 ≤ 4 := (hS s hs6.1 hs6.2).2.2.1
  have s4 : 0 ≤ J (38 + 2 * s.toNat) 3 ∧ J (38 + 2 * s.toNat) 3 ≤ 60 := (hS s hs6.1 hs6.2).2.2.2.1
  have s5 : 0 ≤ J (38 + 2 * s.toNat) 1 ∧ J (38 + 2 * s.toNat) 1 < J 34 1 := (hS s hs6.1 hs6.2).2.2.2.2.1 hh
  show zW _ _ _ _ [some (.ref 0), some (zi s), some (zi v), none, none, none, none] _ _ _ _ _
  refine z_iload1 gi_110_0 ?_
  refine z_cS1 gi_110_1 (Nat.le_of_ble_eq_true rfl) gc_143_I ?_
  refine z_iload0 gi_143_0 ?_
  refine z_if_ltF gi_143_1 (by omega) (by omega) ?_
  refine z_iload0 gi_143_4 ?_
  refine z_pushJ gp_143_5 ?_
  refine z_icmp_geF gi_143_7 (by omega) zr_6 (by omega) ?_
  refine z_pushJ gp_143_10 ?_
  refine z_goto gi_143_11 ?_
  refine z_bret1 gi_143_15 gr_143 ?_
  show zW _ _ _ _ _ _ _ _ _ _
  refine z_if_eqF gi_110_4 zr_1 (by decide) ?_
  refine z_iload2 gi_110_7 ?_
  refine z_cS1 gi_110_8 (Nat.le_of_ble_eq_true rfl) gc_146_I ?_
  refine z_iload0 gi_146_0 ?_
  refine z_if_eq gi_146_1 (by omega) (fun h1 => ?_) (fun h1 => ?_)
  · refine z_pushJ gp_146_9 ?_
    refine z_goto gi_146_10 ?_
    refine z_bret1 gi_146_14 gr_146 ?_
    show zW _ _ _ _ _ _ _ _ _ _
    refine z_if_neT gi_110_11 zr_1 (by decide) ?_
    refine z_aload0 gi_110_16 ?_
    refine z_getR (r := 10) gi_110_17 gk_0 (hR _ rm_0_2) ?_
    refine z_aload0 gi_110_20 ?_
    refine z_getR (r := 37) gi_110_21 gk_0 (hR _ rm_0_11) ?_
    refine z_iload1 gi_110_24 ?_
    refine z_aald (r := 38 + 2 * s.toNat) gi_110_25 rfl (by decide) (by omega) (rr_shelf hR (by omega)) ?_
    refine z_callVi (As := [_]) (le := [some _, some _, none, none, none]) gi_110_26 rfl gk_10 (Nat.le_of_ble_eq_true rfl) (Nat.le_of_ble_eq_true rfl) rfl ?_
    refine z_aload1 gi_78_0 ?_
    refine z_callVi (As := []) (le := [some _]) gi_78_1 rfl (zk_shelf (by omega)) (Nat.le_of_ble_eq_true rfl) (Nat.le_of_ble_eq_true rfl) rfl ?_
    refine z_aload0 gi_69_0 ?_
    refine z_getI (v := 1) gi_69_1 (zk_shelf (by omega)) (hh) ?_
    refine z_if_neT gi_69_4 zr_1 (by decide) ?_
    refine z_aload0 gi_69_10 ?_
    refine z_callVi (As := []) (le := [some _]) gi_69_11 rfl (zk_shelf (by omega)) (Nat.le_of_ble_eq_true rfl) (Nat.le_of_ble_eq_true rfl) rfl ?_
    refine z_aload0 gi_64_0 ?_
    refine z_getI (v := 1) gi_64_1 (zk_shelf (by omega)) (hh) ?_
    refine z_pushJ gp_64_4 ?_
    refine z_icmp_neT gi_64_5 zr_1 zr_2 (by decide) ?_
    refine z_pushJ gp_64_19 ?_
    refine z_bret0 gi_64_20 gr_64 ?_
    show zW _ _ _ _ _ _ _ _ _ _
    refine z_if_eqT gi_69_14 zr_0 (by decide) ?_
    refine z_pushJ gp_69_21 ?_
    refine z_iret gi_69_23 gr_69 ?_
    show zW _ _ _ _ _ _ _ _ _ _
    refine z_istore (ls1 := [some (.ref 10), some (.ref (38 + 2 * s.toNat)), some (zi (-12)), none, none]) gi_78_4 rfl ?_
    refine z_iload2 gi_78_5 ?_
    refine z_if_geF gi_78_6 zrn_12 (by decide) ?_
    refine z_iload2 gi_78_9 ?_
    refine z_iret gi_78_10 gr_78 ?_
    show zW _ _ _ _ _ _ _ _ _ _
    refine z_istore (ls1 := [some (.ref 0), some (zi s), some (zi v), some (zi (-12)), none, none, none]) gi_110_29 rfl ?_
    refine z_iload3 gi_110_30 ?_
    refine z_if_geF gi_110_31 zrn_12 (by decide) ?_
    refine z_iload3 gi_110_34 ?_
    refine z_iret gi_110_35 gr_110 ?_
    refine ⟨_, rfl, ?_⟩
    show zW _ _ _ _ [some (.ref 50), some (zi s), some (zi v), none] _ _ _ _ _
    refine z_iload1 gi_199_0 ?_
    refine z_cS1 gi_199_1 (Nat.le_of_ble_eq_true rfl) gc_248_I ?_
    refine z_iload0 gi_248_0 ?_
    refine z_pushJ gp_248_1 ?_
    refine z_pushJ gp_248_2 ?_
    refine z_cS3 gi_248_3 (Nat.le_of_ble_eq_true rfl) gc_148_III ?_
    refine z_iload0 gi_148_0 ?_
    refine z_iload1 gi_148_1 ?_
    refine z_icmp_ltF gi_148_2 (by omega) zr_0 (by omega) ?_
    refine z_iload0 gi_148_5 ?_
    refine z_iload2 gi_148_6 ?_
    refine z_icmp_gtF gi_148_7 (by omega) zr_5 (by omega) ?_
    refine z_pushJ gp_148_10 ?_
    refine z_goto gi_148_11 ?_
    refine z_bret1 gi_148_15 gr_148 ?_
    show zW _ _ _ _ _ _ _ _ _ _
    refine z_bret1 gi_248_6 gr_248 ?_
    show zW _ _ _ _ _ _ _ _ _ _
    refine z_if_eqF gi_199_4 zr_1 (by decide) ?_
    refine z_iload2 gi_199_7 ?_
    refine z_pushJ gp_199_8 ?_
    refine z_pushJ gp_199_9 ?_
    refine z_cS3 gi_199_10 (Nat.le_of_ble_eq_true rfl) gc_148_III ?_
    refine z_iload0 gi_148_0 ?_
    refine z_iload1 gi_148_1 ?_
    refine z_icmp_ltF gi_148_2 (by omega) zr_0 (by omega) ?_
    refine z_iload0 gi_148_5 ?_
    refine z_iload2 gi_148_6 ?_
    refine z_icmp_gtF gi_148_7 (by omega) zr_1 (by omega) ?_
    refine z_pushJ gp_148_10 ?_
    refine z_goto gi_148_11 ?_
    refine z_bret1 gi_148_15 gr_148 ?_
    show zW _ _ _ _ _ _ _ _ _ _
    refine z_if_neT gi_199_13 zr_1 (by decide) ?_
    refine z_aload0 gi_199_18 ?_
    refine z_iload1 gi_199_19 ?_
    refine z_cV1 gi_199_20 gk_50 go_192 (Nat.le_of_ble_eq_true rfl) gc_192_RI ?_
    refine z_aload0 gi_192_0 ?_
    refine z_getR (r := 83) gi_192_1 gk_50 (hRr _ rm_50_58 (by decide)) ?_
    refine z_iload1 gi_192_4 ?_
    refine z_iald (v := J (38 + 2 * s.toNat) 1) gi_192_5 gk_83 (by decide) (by omega) (e83) ?_
    refine z_pushJ gp_192_6 ?_
    refine z_icmp_ne gi_192_7 (by omega) zrn_1 (fun h2 => ?_) (fun h2 => ?_)
    · refine z_aload0 gi_192_15 ?_
      refine z_getR (r := 83) gi_192_16 gk_50 (hRr _ rm_50_58 (by decide)) ?_
      refine z_iload1 gi_192_19 ?_
      refine z_iald (v := J (38 + 2 * s.toNat) 1) gi_192_20 gk_83 (by decide) (by omega) (e83) ?_
      refine z_pushJ gp_192_21 ?_
      refine z_icmp_ne gi_192_23 (by omega) zrn_2 (fun h3 => ?_) (fun h3 => ?_)
      · refine z_pushJ gp_192_30 ?_
        refine z_iret gi_192_32 gr_192 ?_
        show zW _ _ _ _ _ _ _ _ _ _
        refine z_if_geF gi_199_23 zrn_12 (by decide) ?_
        refine z_aload0 gi_199_26 ?_
        refine z_iload1 gi_199_27 ?_
        refine z_cV1 gi_199_28 gk_50 go_192 (Nat.le_of_ble_eq_true rfl) gc_192_RI ?_
        refine z_aload0 gi_192_0 ?_
        refine z_getR (r := 83) gi_192_1 gk_50 (hRr _ rm_50_58 (by decide)) ?_
        refine z_iload1 gi_192_4 ?_
        refine z_iald (v := J (38 + 2 * s.toNat) 1) gi_192_5 gk_83 (by decide) (by omega) (e83) ?_
        refine z_pushJ gp_192_6 ?_
        refine z_icmp_ne gi_192_7 (by omega) zrn_1 (fun h4 => ?_) (fun h4 => ?_)
        · refine z_aload0 gi_192_15 ?_
          refine z_getR (r := 83) gi_192_16 gk_50 (hRr _ rm_50_58 (by decide)) ?_
          refine z_iload1 gi_192_19 ?_
          refine z_iald (v := J (38 + 2 * s.toNat) 1) gi_192_20 gk_83 (by decide) (by omega) (e83) ?_
          refine z_pushJ gp_192_21 ?_
          refine z_icmp_ne gi_192_23 (by omega) zrn_2 (fun h5 => ?_) (fun h5 => ?_)
          · refine z_pushJ gp_192_30 ?_
            refine z_iret gi_192_32 gr_192 ?_
            show zW _ _ _ _ _ _ _ _ _ _
            refine z_iret gi_199_31 gr_199 ?_
            refine ⟨?_, ?_⟩
            · first | rfl | exact congrArg (fun v => some (zi v)) (by omega) | (exfalso; omega)
            · exact hr
          · refine z_pushJ gp_192_26 ?_
            refine z_goto gi_192_27 ?_
            refine z_iret gi_192_32 gr_192 ?_
            show zW _ _ _ _ _ _ _ _ _ _
            refine z_iret gi_199_31 gr_199 ?_
            refine ⟨?_, ?_⟩
            · first | rfl | exact congrArg (fun v => some (zi v)) (by omega) | (exfalso; omega)
            · exact hr
        · refine z_pushJ gp_192_10 ?_
          refine z_goto gi_192_12 ?_
          refine z_iret gi_192_32 gr_192 ?_
          show zW _ _ _ _ _ _ _ _ _ _
          refine z_iret gi_199_31 gr_199 ?_
          refine ⟨?_, ?_⟩
          · first | rfl | exact congrArg (fun v => some (zi v)) (by omega) | (exfalso; omega)
          · exact hr
      · refine z_pushJ gp_192_26 ?_
        refine z_goto gi_192_27 ?_
        refine z_iret gi_192_32 gr_192 ?_
        show zW _ _ _ _ _ _ _ _ _ _
        refine z_if_geT gi_199_23 zr_0 (by decide) ?_
        refine z_aload0 gi_199_32 ?_
        refine z_iload1 gi_199_33 ?_
        refine z_pushJ gp_199_34 ?_
        exfalso
        omega
    · refine z_pushJ gp_192_10 ?_
      refine z_goto gi_192_12 ?_
      refine z_iret gi_192_32 gr_192 ?_
      show zW _ _ _ _ _ _ _ _ _ _
      refine z_if_geF gi_199_23 zrn_11 (by decide) ?_
      refine z_aload0 gi_199_26 ?_
      refine z_iload1 gi_199_27 ?_
      refine z_cV1 gi_199_28 gk_50 go_192 (Nat.le_of_ble_eq_true rfl) gc_192_RI ?_
      refine z_aload0 gi_192_0 ?_
      refine z_getR (r := 83) gi_192_1 gk_50 (hRr _ rm_50_58 (by decide)) ?_
      refine z_iload1 gi_192_4 ?_
      refine z_iald (v := J (38 + 2 * s.toNat) 1) gi_192_5 gk_83 (by decide) (by omega) (e83) ?_
      refine z_pushJ gp_192_6 ?_
      refine z_icmp_neF gi_192_7 (by omega) zrn_1 (by omega) ?_
      refine z_pushJ gp_192_10 ?_
      refine z_goto gi_192_12 ?_
      refine z_iret gi_192_32 gr_192 ?_
      show zW _ _ _ _ _ _ _ _ _ _
      refine z_iret gi_199_31 gr_199 ?_
      refine ⟨?_, ?_⟩
      · first | rfl | exact congrArg (fun v => some (zi v)) (by omega) | (exfalso; omega)
      · exact hr
  · refine z_iload0 gi_146_4 ?_
    refine z_pushJ gp_146_5 ?_
    refine z_icmp_ne gi_146_6 (by omega) zr_1 (fun h2 => ?_) (fun h2 => ?_)
    · refine z_pushJ gp_146_13 ?_
      refine z_bret0 gi_146_14 gr_146 ?_
      show zW _ _ _ _ _ _ _ _ _ _
      refine z_if_neF gi_110_11 zr_0 (by decide) ?_
      refine z_pushJ gp_110_14 ?_
      refine z_iret gi_110_15 gr_110 ?_
      refine ⟨_, rfl, ?_⟩
      show zW _ _ _ _ [some (.ref 50), some (zi s), some (zi v), none] _ _ _ _ _
      refine z_iload1 gi_199_0 ?_
      refine z_cS1 gi_199_1 (Nat.le_of_ble_eq_true rfl) gc_248_I ?_
      refine z_iload0 gi_248_0 ?_
      refine z_pushJ gp_248_1 ?_
      refine z_pushJ gp_248_2 ?_
      refine z_cS3 gi_248_3 (Nat.le_of_ble_eq_true rfl) gc_148_III ?_
      refine z_iload0 gi_148_0 ?_
      refine z_iload1 gi_148_1 ?_
      refine z_icmp_ltF gi_148_2 (by omega) zr_0 (by omega) ?_
      refine z_iload0 gi_148_5 ?_
      refine z_iload2 gi_148_6 ?_
      refine z_icmp_gtF gi_148_7 (by omega) zr_5 (by omega) ?_
      refine z_pushJ gp_148_10 ?_
      refine z_goto gi_148_11 ?_
      refine z_bret1 gi_148_15 gr_148 ?_
      show zW _ _ _ _ _ _ _ _ _ _
      refine z_bret1 gi_248_6 gr_248 ?_
      show zW _ _ _ _ _ _ _ _ _ _
      refine z_if_eqF gi_199_4 zr_1 (by decide) ?_
      refine z_iload2 gi_199_7 ?_
      refine z_pushJ gp_199_8 ?_
      refine z_pushJ gp_199_9 ?_
      refine z_cS3 gi_199_10 (Nat.le_of_ble_eq_true rfl) gc_148_III ?_
      refine z_iload0 gi_148_0 ?_
      refine z_iload1 gi_148_1 ?_
      refine z_icmp_lt gi_148_2 (by omega) zr_0 (fun h3 => ?_) (fun h3 => ?_)
      · refine z_pushJ gp_148_14 ?_
        refine z_bret0 gi_148_15 gr_148 ?_
        show zW _ _ _ _ _ _ _ _ _ _
        refine z_if_neF gi_199_13 zr_0 (by decide) ?_
        refine z_pushJ gp_199_16 ?_
        refine z_iret gi_199_17 gr_199 ?_
        refine ⟨?_, ?_⟩
        · first | rfl | exact congrArg (fun v => some (zi v)) (by omega) | (exfalso; omega)
        · exact hr
      · refine z_iload0 gi_148_5 ?_
        refine z_iload2 gi_148_6 ?_
        refine z_icmp_gt gi_148_7 (by omega) zr_1 (fun h4 => ?_) (fun h4 => ?_)
        · refine z_pushJ gp_148_14 ?_
          refine z_bret0 gi_148_15 gr_148 ?_
          show zW _ _ _ _ _ _ _ _ _ _
          refine z_if_neF gi_199_13 zr_0 (by decide) ?_
          refine z_pushJ gp_199_16 ?_
          refine z_iret gi_199_17 gr_199 ?_
          refine ⟨?_, ?_⟩
          · first | rfl | exact congrArg (fun v => some (zi v)) (by omega) | (exfalso; omega)
          · exact hr
        · refine z_pushJ gp_148_10 ?_
          refine z_goto gi_148_11 ?_
          refine z_bret1 gi_148_15 gr_148 ?_
          show zW _ _ _ _ _ _ _ _ _ _
          refine z_if_neT gi_199_13 zr_1 (by decide) ?_
          refine z_aload0 gi_199_18 ?_
          refine z_iload1 gi_199_19 ?_
          refine z_cV1 gi_199_20 gk_50 go_192 (Nat.le_of_ble_eq_true rfl) gc_192_RI ?_
          refine z_aload0 gi_192_0 ?_
          refine z_getR (r := 83) gi_192_1 gk_50 (hRr _ rm_50_58 (by decide)) ?_
          refine z_iload1 gi_192_4 ?_
          refine z_iald (v := J (38 + 2 * s.toNat) 1) gi_192_5 gk_83 (by decide) (by omega) (e83) ?_
          refine z_pushJ gp_192_6 ?_
          refine z_icmp_ne gi_192_7 (by omega) zrn_1 (fun h5 => ?_) (fun h5 => ?_)
          · refine z_aload0 gi_192_15 ?_
            refine z_getR (r := 83) gi_192_16 gk_50 (hRr _ rm_50_58 (by decide)) ?_
            refine z_iload1 gi_192_19 ?_
            refine z_iald (v := J (38 + 2 * s.toNat) 1) gi_192_20 gk_83 (by decide) (by omega) (e83) ?_
            refine z_pushJ gp_192_21 ?_
            refine z_icmp_ne gi_192_23 (by omega) zrn_2 (fun h6 => ?_) (fun h6 => ?_)
            · refine z_pushJ gp_192_30 ?_
              refine z_iret gi_192_32 gr_192 ?_
              show zW _ _ _ _ _ _ _ _ _ _
              refine z_if_geF gi_199_23 zrn_12 (by decide) ?_
              refine z_aload0 gi_199_26 ?_
              refine z_iload1 gi_199_27 ?_
              refine z_cV1 gi_199_28 gk_50 go_192 (Nat.le_of_ble_eq_true rfl) gc_192_RI ?_
              refine z_aload0 gi_192_0 ?_
              refine z_getR (r := 83) gi_192_1 gk_50 (hRr _ rm_50_58 (by decide)) ?_
              refine z_iload1 gi_192_4 ?_
              refine z_iald (v := J (38 + 2 * s.toNat) 1) gi_192_5 gk_83 (by decide) (by omega) (e83) ?_
              refine z_pushJ gp_192_6 ?_
              refine z_icmp_ne gi_192_7 (by omega) zrn_1 (fun h7 => ?_) (fun h7 => ?_)
              · refine z_aload0 gi_192_15 ?_
                refine z_getR (r := 83) gi_192_16 gk_50 (hRr _ rm_50_58 (by decide)) ?_
                refine z_iload1 gi_192_19 ?_
                refine z_iald (v := J (38 + 2 * s.toNat) 1) gi_192_20 gk_83 (by decide) (by omega) (e83) ?_
                refine z_pushJ gp_192_21 ?_
                refine z_icmp_ne gi_192_23 (by omega) zrn_2 (fun h8 => ?_) (fun h8 => ?_)
                · refine z_pushJ gp_192_30 ?_
                  refine z_iret gi_192_32 gr_192 ?_
                  show zW _ _ _ _ _ _ _ _ _ _
                  refine z_iret gi_199_31 gr_199 ?_
                  refine ⟨?_, ?_⟩
                  · first | rfl | exact congrArg (fun v => some (zi v)) (by omega) | (exfalso; omega)
                  · exact hr
                · refine z_pushJ gp_192_26 ?_
                  refine z_goto gi_192_27 ?_
                  refine z_iret gi_192_32 gr_192 ?_
                  show zW _ _ _ _ _ _ _ _ _ _
                  refine z_iret gi_199_31 gr_199 ?_
                  refine ⟨?_, ?_⟩
                  · first | rfl | exact congrArg (fun v => some (zi v)) (by omega) | (exfalso; omega)
                  · exact hr
              · refine z_pushJ gp_192_10 ?_
                refine z_goto gi_192_12 ?_
                refine z_iret gi_192_32 gr_192 ?_
                show zW _ _ _ _ _ _ _ _ _ _
                refine z_iret gi_199_31 gr_199 ?_
                refine ⟨?_, ?_⟩
                · first | rfl | exact congrArg (fun v => some (zi v)) (by omega) | (exfalso; omega)
                · exact hr
            · refine z_pushJ gp_192_26 ?_
              refine z_goto gi_192_27 ?_
              refine z_iret gi_192_32 gr_192 ?_
              show zW _ _ _ _ _ _ _ _ _ _
              refine z_if_geT gi_199_23 zr_0 (by decide) ?_
              refine z_aload0 gi_199_32 ?_
              refine z_iload1 gi_199_33 ?_
              refine z_pushJ gp_199_34 ?_
              exfalso
              omega
          · refine z_pushJ gp_192_10 ?_
            refine z_goto gi_192_12 ?_
            refine z_iret gi_192_32 gr_192 ?_
            show zW _ _ _ _ _ _ _ _ _ _
            refine z_if_geF gi_199_23 zrn_11 (by decide) ?_
            refine z_aload0 gi_199_26 ?_
            refine z_iload1 gi_199_27 ?_
            refine z_cV1 gi_199_28 gk_50 go_192 (Nat.le_of_ble_eq_true rfl) gc_192_RI ?_
            refine z_aload0 gi_192_0 ?_
            refine z_getR (r := 83) gi_192_1 gk_50 (hRr _ rm_50_58 (by decide)) ?_
            refine z_iload1 gi_192_4 ?_
            refine z_iald (v := J (38 + 2 * s.toNat) 1) gi_192_5 gk_83 (by decide) (by omega) (e83) ?_
            refine z_pushJ gp_192_6 ?_
            refine z_icmp_neF gi_192_7 (by omega) zrn_1 (by omega) ?_
            refine z_pushJ gp_192_10 ?_
            refine z_goto gi_192_12 ?_
            refine z_iret gi_192_32 gr_192 ?_
            show zW _ _ _ _ _ _ _ _ _ _
            refine z_iret gi_199_31 gr_199 ?_
            refine ⟨?_, ?_⟩
            · first | rfl | exact congrArg (fun v => some (zi v)) (by omega) | (exfalso; omega)
            · exact hr
    · refine z_pushJ gp_146_9 ?_
      refine z_goto gi_146_10 ?_
      refine z_bret1 gi_146_14 gr_146 ?_
      show zW _ _ _ _ _ _ _ _ _ _
      refine z_if_neT gi_110_11 zr_1 (by decide) ?_
      refine z_aload0 gi_110_16 ?_
      refine z_getR (r := 10) gi_110_17 gk_0 (hR _ rm_0_2) ?_
      refine z_aload0 gi_110_20 ?_
      refine z_getR (r := 37) gi_110_21 gk_0 (hR _ rm_0_11) ?_
      refine z_iload1 gi_110_24 ?_
      refine z_aald (r := 38 + 2 * s.toNat) gi_110_25 rfl (by decide) (by omega) (rr_shelf hR (by omega)) ?_
      refine z_callVi (As := [_]) (le := [some _, some _, none, none, none]) gi_110_26 rfl gk_10 (Nat.le_of_ble_eq_true rfl) (Nat.le_of_ble_eq_true rfl) rfl ?_
      refine z_aload1 gi_78_0 ?_
      refine z_callVi (As := []) (le := [some _]) gi_78_1 rfl (zk_shelf (by omega)) (Nat.le_of_ble_eq_true rfl) (Nat.le_of_ble_eq_true rfl) rfl ?_
      refine z_aload0 gi_69_0 ?_
      refine z_getI (v := 1) gi_69_1 (zk_shelf (by omega)) (hh) ?_
      refine z_if_neT gi_69_4 zr_1 (by decide) ?_
      refine z_aload0 gi_69_10 ?_
      refine z_callVi (As := []) (le := [some _]) gi_69_11 rfl (zk_shelf (by omega)) (Nat.le_of_ble_eq_true rfl) (Nat.le_of_ble_eq_true rfl) rfl ?_
      refine z_aload0 gi_64_0 ?_
      refine z_getI (v := 1) gi_64_1 (zk_shelf (by omega)) (hh) ?_
      refine z_pushJ gp_64_4 ?_
      refine z_icmp_neT gi_64_5 zr_1 zr_2 (by decide) ?_
      refine z_pushJ gp_64_19 ?_
      refine z_bret0 gi_64_20 gr_64 ?_
      show zW _ _ _ _ _ _ _ _ _ _
      refine z_if_eqT gi_69_14 zr_0 (by decide) ?_
      refine z_pushJ gp_69_21 ?_
      refine z_iret gi_69_23 gr_69 ?_
      show zW _ _ _ _ _ _ _ _ _ _
      refine z_istore (ls1 := [some (.ref 10), some (.ref (38 + 2 * s.toNat)), some (zi (-12)), none, none]) gi_78_4 rfl ?_
      refine z_iload2 gi_78_5 ?_
      refine z_if_geF gi_78_6 zrn_12 (by decide) ?_
      refine z_iload2 gi_78_9 ?_
      refine z_iret gi_78_10 gr_78 ?_
      show zW _ _ _ _ _ _ _ _ _ _
      refine z_istore (ls1 := [some (.ref 0), some (zi s), some (zi v), some (zi (-12)), none, none, none]) gi_110_29 rfl ?_
      refine z_iload3 gi_110_30 ?_
      refine z_if_geF gi_110_31 zrn_12 (by decide) ?_
      refine z_iload3 gi_110_34 ?_
      refine z_iret gi_110_35 gr_110 ?_
      refine ⟨_, rfl, ?_⟩
      show zW _ _ _ _ [some (.ref 50), some (zi s), some (zi v), none] _ _ _ _ _
      refine z_iload1 gi_199_0 ?_
      refine z_cS1 gi_199_1 (Nat.le_of_ble_eq_true rfl) gc_248_I ?_
      refine z_iload0 gi_248_0 ?_
      refine z_pushJ gp_248_1 ?_
      refine z_pushJ gp_248_2 ?_
      refine z_cS3 gi_248_3 (Nat.le_of_ble_eq_true rfl) gc_148_III ?_
      refine z_iload0 gi_148_0 ?_
      refine z_iload1 gi_148_1 ?_
      refine z_icmp_ltF gi_148_2 (by omega) zr_0 (by omega) ?_
      refine z_iload0 gi_148_5 ?_
      refine z_iload2 gi_148_6 ?_
      refine z_icmp_gtF gi_148_7 (by omega) zr_5 (by omega) ?_
      refine z_pushJ gp_148_10 ?_
      refine z_goto gi_148_11 ?_
      refine z_bret1 gi_148_15 gr_148 ?_
      show zW _ _ _ _ _ _ _ _ _ _
      refine z_bret1 gi_248_6 gr_248 ?_
      show zW _ _ _ _ _ _ _ _ _ _
      refine z_if_eqF gi_199_4 zr_1 (by decide) ?_
      refine z_iload2 gi_199_7 ?_
      refine z_pushJ gp_199_8 ?_
      refine z_pushJ gp_199_9 ?_
      refine z_cS3 gi_199_10 (Nat.le_of_ble_eq_true rfl) gc_148_III ?_
      refine z_iload0 gi_148_0 ?_
      refine z_iload1 gi_148_1 ?_
      refine z_icmp_ltF gi_148_2 (by omega) zr_0 (by omega) ?_
      refine z_iload0 gi_148_5 ?_
      refine z_iload2 gi_148_6 ?_
      refine z_icmp_gtF gi_148_7 (by omega) zr_1 (by omega) ?_
      refine z_pushJ gp_148_10 ?_
      refine z_goto gi_148_11 ?_
      refine z_bret1 gi_148_15 gr_148 ?_
      show zW _ _ _ _ _ _ _ _ _ _
      refine z_if_neT gi_199_13 zr_1 (by decide) ?_
      refine z_aload0 gi_199_18 ?_
      refine z_iload1 gi_199_19 ?_
      refine z_cV1 gi_199_20 gk_50 go_192 (Nat.le_of_ble_eq_true rfl) gc_192_RI ?_
      refine z_aload0 gi_192_0 ?_
      refine z_getR (r := 83) gi_192_1 gk_50 (hRr _ rm_50_58 (by decide)) ?_
      refine z_iload1 gi_192_4 ?_
      refine z_iald (v := J (38 + 2 * s.toNat) 1) gi_192_5 gk_83 (by decide) (by omega) (e83) ?_
      refine z_pushJ gp_192_6 ?_
      refine z_icmp_ne gi_192_7 (by omega) zrn_1 (fun h3 => ?_) (fun h3 => ?_)
      · refine z_aload0 gi_192_15 ?_
        refine z_getR (r := 83) gi_192_16 gk_50 (hRr _ rm_50_58 (by decide)) ?_
        refine z_iload1 gi_192_19 ?_
        refine z_iald (v := J (38 + 2 * s.toNat) 1) gi_192_20 gk_83 (by decide) (by omega) (e83) ?_
        refine z_pushJ gp_192_21 ?_
        refine z_icmp_ne gi_192_23 (by omega) zrn_2 (fun h4 => ?_) (fun h4 => ?_)
        · refine z_pushJ gp_192_30 ?_
          refine z_iret gi_192_32 gr_192 ?_
          show zW _ _ _ _ _ _ _ _ _ _
          refine z_if_geF gi_199_23 zrn_12 (by decide) ?_
          refine z_aload0 gi_199_26 ?_
          refine z_iload1 gi_199_27 ?_
          refine z_cV1 gi_199_28 gk_50 go_192 (Nat.le_of_ble_eq_true rfl) gc_192_RI ?_
          refine z_aload0 gi_192_0 ?_
          refine z_getR (r := 83) gi_192_1 gk_50 (hRr _ rm_50_58 (by decide)) ?_
          refine z_iload1 gi_192_4 ?_
          refine z_iald (v := J (38 + 2 * s.toNat) 1) gi_192_5 gk_83 (by decide) (by omega) (e83) ?_
          refine z_pushJ gp_192_6 ?_
          refine z_icmp_ne gi_192_7 (by omega) zrn_1 (fun h5 => ?_) (fun h5 => ?_)
          · refine z_aload0 gi_192_15 ?_
            refine z_getR (r := 83) gi_192_16 gk_50 (hRr _ rm_50_58 (by decide)) ?_
            refine z_iload1 gi_192_19 ?_
            refine z_iald (v := J (38 + 2 * s.toNat) 1) gi_192_20 gk_83 (by decide) (by omega) (e83) ?_
            refine z_pushJ gp_192_21 ?_
            refine z_icmp_ne gi_192_23 (by omega) zrn_2 (fun h6 => ?_) (fun h6 => ?_)
            · refine z_pushJ gp_192_30 ?_
              refine z_iret gi_192_32 gr_192 ?_
              show zW _ _ _ _ _ _ _ _ _ _
              refine z_iret gi_199_31 gr_199 ?_
              refine ⟨?_, ?_⟩
              · first | rfl | exact congrArg (fun v => some (zi v)) (by omega) | (exfalso; omega)
              · exact hr
            · refine z_pushJ gp_192_26 ?_
              refine z_goto gi_192_27 ?_
              refine z_iret gi_192_32 gr_192 ?_
              show zW _ _ _ _ _ _ _ _ _ _
              refine z_iret gi_199_31 gr_199 ?_
              refine ⟨?_, ?_⟩
              · first | rfl | exact congrArg (fun v => some (zi v)) (by omega) | (exfalso; omega)
              · exact hr
          · refine z_pushJ gp_192_10 ?_
            refine z_goto gi_192_12 ?_
            refine z_iret gi_192_32 gr_192 ?_
            show zW _ _ _ _ _ _ _ _ _ _
            refine z_iret gi_199_31 gr_199 ?_
            refine ⟨?_, ?_⟩
            · first | rfl | exact congrArg (fun v => some (zi v)) (by omega) | (exfalso; omega)
            · exact hr
        · refine z_pushJ gp_192_26 ?_
          refine z_goto gi_192_27 ?_
          refine z_iret gi_192_32 gr_192 ?_
          show zW _ _ _ _ _ _ _ _ _ _
          refine z_if_geT gi_199_23 zr_0 (by decide) ?_
          refine z_aload0 gi_199_32 ?_
          refine z_iload1 gi_199_33 ?_
          refine z_pushJ gp_199_34 ?_
          exfalso
          omega
      · refine z_pushJ gp_192_10 ?_
        refine z_goto gi_192_12 ?_
        refine z_iret gi_192_32 gr_192 ?_
        show zW _ _ _ _ _ _ _ _ _ _
        refine z_if_geF gi_199_23 zrn_11 (by decide) ?_
        refine z_aload0 gi_199_26 ?_
        refine z_iload1 gi_199_27 ?_
        refine z_cV1 gi_199_28 gk_50 go_192 (Nat.le_of_ble_eq_true rfl) gc_192_RI ?_
        refine z_aload0 gi_192_0 ?_
        refine z_getR (r := 83) gi_192_1 gk_50 (hRr _ rm_50_58 (by decide)) ?_
        refine z_iload1 gi_192_4 ?_
        refine z_iald (v := J (38 + 2 * s.toNat) 1) gi_192_5 gk_83 (by decide) (by omega) (e83) ?_
        refine z_pushJ gp_192_6 ?_
        refine z_icmp_neF gi_192_7 (by omega) zrn_1 (by omega) ?_
        refine z_pushJ gp_192_10 ?_
        refine z_goto gi_192_12 ?_
        refine z_iret gi_192_32 gr_192 ?_
        show zW _ _ _ _ _ _ _ _ _ _
        refine z_iret gi_199_31 gr_199 ?_
        refine ⟨?_, ?_⟩
        · first | rfl | exact congrArg (fun v => some (zi v)) (by omega) | (exfalso; omega)
        · exact hr
theorem st_ifNot_2 {X : Nat × (Nat → Int32)} {d : Nat} {J M : zA} {R : zR} {s v : Int} (hr : Rel X J M R) (hs : -2147483648 ≤ s ∧ s < 2147483648) (hv : -2147483648 ≤ v ∧ v < 2147483648) (hs6 : 0 ≤ s ∧ s < 6) (hh : J (38 + 2 * s.toNat) 0 = 2) (hso : ¬ J (38 + 2 * s.toNat) 2 = 0) : zW X (d + 20) 110 0 (gEn 110 [(.ref 0), (zi s), (zi v)]) [] J M R (stP X (d + 20) 199 [(zi s), (zi v)]) := by
  have hr0 := hr
  obtain ⟨hR, hG, hY, hD, hP, hC, hAc, hS, hTp, hX, hW⟩ := hr0
  have hRr : zRoR R := zRoR_of hR
  have hY0 := hY
  obtain ⟨y1, y2, y3⟩ := hY0
  have yn := zNn y3
  have hA0 := hAc
  obtain ⟨a1, a2, a3, a4, a5, a6⟩ := hA0
  have e83 : J 83 s = -2 - J (38 + 2 * s.toNat) 2 := (hS s hs6.1 hs6.2).1.symm.trans (cH_2 hh)
  have s3 : 0 ≤ J (38 + 2 * s.toNat) 2 ∧ J (38 + 2 * s.toNat) 2 ≤ 4 := (hS s hs6.1 hs6.2).2.2.1
  have s4 : 0 ≤ J (38 + 2 * s.toNat) 3 ∧ J (38 + 2 * s.toNat) 3 ≤ 60 := (hS s hs6.1 hs6.2).2.2.2.1
  have s6 := (hS s hs6.1 hs6.2).2.2.2.2.2 hh
  have s7 : J 84 s = J (38 + 2 * s.toNat) 3 := s6.1.symm
  have s8 : ∀ i, 0 ≤ i → i < J (38 + 2 * s.toNat) 3 → M (39 + 2 * s.toNat) i = M 85 (60 * s + i) := s6.2.1
  show zW _ _ _ _ [some (.ref 0), some (zi s), some (zi v), none, none, none, none] _ _ _ _ _
  refine z_iload1 gi_110_0 ?_
  refine z_cS1 gi_110_1 (Nat.le_of_ble_eq_true rfl) gc_143_I ?_
  refine z_iload0 gi_143_0 ?_
  refine z_if_ltF gi_143_1 (by omega) (by omega) ?_
  refine z_iload0 gi_143_4 ?_
  refine z_pushJ gp_143_5 ?_
  refine z_icmp_geF gi_143_7 (by omega) zr_6 (by omega) ?_
  refine z_pushJ gp_143_10 ?_
  refine z_goto gi_143_11 ?_
  refine z_bret1 gi_143_15 gr_143 ?_
  show zW _ _ _ _ _ _ _ _ _ _
  refine z_if_eqF gi_110_4 zr_1 (by decide) ?_
  refine z_iload2 gi_110_7 ?_
  refine z_cS1 gi_110_8 (Nat.le_of_ble_eq_true rfl) gc_146_I ?_
  refine z_iload0 gi_146_0 ?_
  refine z_if_eq gi_146_1 (by omega) (fun h1 => ?_) (fun h1 => ?_)
  · refine z_pushJ gp_146_9 ?_
    refine z_goto gi_146_10 ?_
    refine z_bret1 gi_146_14 gr_146 ?_
    show zW _ _ _ _ _ _ _ _ _ _
    refine z_if_neT gi_110_11 zr_1 (by decide) ?_
    refine z_aload0 gi_110_16 ?_
    refine z_getR (r := 10) gi_110_17 gk_0 (hR _ rm_0_2) ?_
    refine z_aload0 gi_110_20 ?_
    refine z_getR (r := 37) gi_110_21 gk_0 (hR _ rm_0_11) ?_
    refine z_iload1 gi_110_24 ?_
    refine z_aald (r := 38 + 2 * s.toNat) gi_110_25 rfl (by decide) (by omega) (rr_shelf hR (by omega)) ?_
    refine z_callVi (As := [_]) (le := [some _, some _, none, none, none]) gi_110_26 rfl gk_10 (Nat.le_of_ble_eq_true rfl) (Nat.le_of_ble_eq_true rfl) rfl ?_
    refine z_aload1 gi_78_0 ?_
    refine z_callVi (As := []) (le := [some _]) gi_78_1 rfl (zk_shelf (by omega)) (Nat.le_of_ble_eq_true rfl) (Nat.le_of_ble_eq_true rfl) rfl ?_
    refine z_aload0 gi_69_0 ?_
    refine z_getI (v := 2) gi_69_1 (zk_shelf (by omega)) (hh) ?_
    refine z_if_neT gi_69_4 zr_2 (by decide) ?_
    refine z_aload0 gi_69_10 ?_
    refine z_callVi (As := []) (le := [some _]) gi_69_11 rfl (zk_shelf (by omega)) (Nat.le_of_ble_eq_true rfl) (Nat.le_of_ble_eq_true rfl) rfl ?_
    refine z_aload0 gi_64_0 ?_
    refine z_getI (v := 2) gi_64_1 (zk_shelf (by omega)) (hh) ?_
    refine z_pushJ gp_64_4 ?_
    refine z_icmp_neF gi_64_5 zr_2 zr_2 (by decide) ?_
    refine z_aload0 gi_64_8 ?_
    refine z_getI (v := J (38 + 2 * s.toNat) 2) gi_64_9 (zk_shelf (by omega)) (rfl) ?_
    refine z_if_neT gi_64_12 (by omega) (by omega) ?_
    refine z_pushJ gp_64_19 ?_
    refine z_bret0 gi_64_20 gr_64 ?_
    show zW _ _ _ _ _ _ _ _ _ _
    refine z_if_eqT gi_69_14 zr_0 (by decide) ?_
    refine z_pushJ gp_69_21 ?_
    refine z_iret gi_69_23 gr_69 ?_
    show zW _ _ _ _ _ _ _ _ _ _
    refine z_istore (ls1 := [some (.ref 10), some (.ref (38 + 2 * s.toNat)), some (zi (-12)), none, none]) gi_78_4 rfl ?_
    refine z_iload2 gi_78_5 ?_
    refine z_if_geF gi_78_6 zrn_12 (by decide) ?_
    refine z_iload2 gi_78_9 ?_
    refine z_iret gi_78_10 gr_78 ?_
    show zW _ _ _ _ _ _ _ _ _ _
    refine z_istore (ls1 := [some (.ref 0), some (zi s), some (zi v), some (zi (-12)), none, none, none]) gi_110_29 rfl ?_
    refine z_iload3 gi_110_30 ?_
    refine z_if_geF gi_110_31 zrn_12 (by decide) ?_
    refine z_iload3 gi_110_34 ?_
    refine z_iret gi_110_35 gr_110 ?_
    refine ⟨_, rfl, ?_⟩
    show zW _ _ _ _ [some (.ref 50), some (zi s), some (zi v), none] _ _ _ _ _
    refine z_iload1 gi_199_0 ?_
    refine z_cS1 gi_199_1 (Nat.le_of_ble_eq_true rfl) gc_248_I ?_
    refine z_iload0 gi_248_0 ?_
    refine z_pushJ gp_248_1 ?_
    refine z_pushJ gp_248_2 ?_
    refine z_cS3 gi_248_3 (Nat.le_of_ble_eq_true rfl) gc_148_III ?_
    refine z_iload0 gi_148_0 ?_
    refine z_iload1 gi_148_1 ?_
    refine z_icmp_ltF gi_148_2 (by omega) zr_0 (by omega) ?_
    refine z_iload0 gi_148_5 ?_
    refine z_iload2 gi_148_6 ?_
    refine z_icmp_gtF gi_148_7 (by omega) zr_5 (by omega) ?_
    refine z_pushJ gp_148_10 ?_
    refine z_goto gi_148_11 ?_
    refine z_bret1 gi_148_15 gr_148 ?_
    show zW _ _ _ _ _ _ _ _ _ _
    refine z_bret1 gi_248_6 gr_248 ?_
    show zW _ _ _ _ _ _ _ _ _ _
    refine z_if_eqF gi_199_4 zr_1 (by decide) ?_
    refine z_iload2 gi_199_7 ?_
    refine z_pushJ gp_199_8 ?_
    refine z_pushJ gp_199_9 ?_
    refine z_cS3 gi_199_10 (Nat.le_of_ble_eq_true rfl) gc_148_III ?_
    refine z_iload0 gi_148_0 ?_
    refine z_iload1 gi_148_1 ?_
    refine z_icmp_ltF gi_148_2 (by omega) zr_0 (by omega) ?_
    refine z_iload0 gi_148_5 ?_
    refine z_iload2 gi_148_6 ?_
    refine z_icmp_gtF gi_148_7 (by omega) zr_1 (by omega) ?_
    refine z_pushJ gp_148_10 ?_
    refine z_goto gi_148_11 ?_
    refine z_bret1 gi_148_15 gr_148 ?_
    show zW _ _ _ _ _ _ _ _ _ _
    refine z_if_neT gi_199_13 zr_1 (by decide) ?_
    refine z_aload0 gi_199_18 ?_
    refine z_iload1 gi_199_19 ?_
    refine z_cV1 gi_199_20 gk_50 go_192 (Nat.le_of_ble_eq_true rfl) gc_192_RI ?_
    refine z_aload0 gi_192_0 ?_
    refine z_getR (r := 83) gi_192_1 gk_50 (hRr _ rm_50_58 (by decide)) ?_
    refine z_iload1 gi_192_4 ?_
    refine z_iald (v := (-2) - (J (38 + 2 * s.toNat) 2)) gi_192_5 gk_83 (by decide) (by omega) (e83) ?_
    refine z_pushJ gp_192_6 ?_
    refine z_icmp_neT gi_192_7 (by omega) zrn_1 (by omega) ?_
    refine z_aload0 gi_192_15 ?_
    refine z_getR (r := 83) gi_192_16 gk_50 (hRr _ rm_50_58 (by decide)) ?_
    refine z_iload1 gi_192_19 ?_
    refine z_iald (v := (-2) - (J (38 + 2 * s.toNat) 2)) gi_192_20 gk_83 (by decide) (by omega) (e83) ?_
    refine z_pushJ gp_192_21 ?_
    refine z_icmp_neT gi_192_23 (by omega) zrn_2 (by omega) ?_
    refine z_pushJ gp_192_30 ?_
    refine z_iret gi_192_32 gr_192 ?_
    show zW _ _ _ _ _ _ _ _ _ _
    refine z_if_geF gi_199_23 zrn_12 (by decide) ?_
    refine z_aload0 gi_199_26 ?_
    refine z_iload1 gi_199_27 ?_
    refine z_cV1 gi_199_28 gk_50 go_192 (Nat.le_of_ble_eq_true rfl) gc_192_RI ?_
    refine z_aload0 gi_192_0 ?_
    refine z_getR (r := 83) gi_192_1 gk_50 (hRr _ rm_50_58 (by decide)) ?_
    refine z_iload1 gi_192_4 ?_
    refine z_iald (v := (-2) - (J (38 + 2 * s.toNat) 2)) gi_192_5 gk_83 (by decide) (by omega) (e83) ?_
    refine z_pushJ gp_192_6 ?_
    refine z_icmp_neT gi_192_7 (by omega) zrn_1 (by omega) ?_
    refine z_aload0 gi_192_15 ?_
    refine z_getR (r := 83) gi_192_16 gk_50 (hRr _ rm_50_58 (by decide)) ?_
    refine z_iload1 gi_192_19 ?_
    refine z_iald (v := (-2) - (J (38 + 2 * s.toNat) 2)) gi_192_20 gk_83 (by decide) (by omega) (e83) ?_
    refine z_pushJ gp_192_21 ?_
    refine z_icmp_neT gi_192_23 (by omega) zrn_2 (by omega) ?_
    refine z_pushJ gp_192_30 ?_
    refine z_iret gi_192_32 gr_192 ?_
    show zW _ _ _ _ _ _ _ _ _ _
    refine z_iret gi_199_31 gr_199 ?_
    refine ⟨?_, ?_⟩
    · first | rfl | exact congrArg (fun v => some (zi v)) (by omega) | (exfalso; omega)
    · exact hr
  · refine z_iload0 gi_146_4 ?_
    refine z_pushJ gp_146_5 ?_
    refine z_icmp_ne gi_146_6 (by omega) zr_1 (fun h2 => ?_) (fun h2 => ?_)
    · refine z_pushJ gp_146_13 ?_
      refine z_bret0 gi_146_14 gr_146 ?_
      show zW _ _ _ _ _ _ _ _ _ _
      refine z_if_neF gi_110_11 zr_0 (by decide) ?_
      refine z_pushJ gp_110_14 ?_
      refine z_iret gi_110_15 gr_110 ?_
      refine ⟨_, rfl, ?_⟩
      show zW _ _ _ _ [some (.ref 50), some (zi s), some (zi v), none] _ _ _ _ _
      refine z_iload1 gi_199_0 ?_
      refine z_cS1 gi_199_1 (Nat.le_of_ble_eq_true rfl) gc_248_I ?_
      refine z_iload0 gi_248_0 ?_
      refine z_pushJ gp_248_1 ?_
      refine z_pushJ gp_248_2 ?_
      refine z_cS3 gi_248_3 (Nat.le_of_ble_eq_true rfl) gc_148_III ?_
      refine z_iload0 gi_148_0 ?_
      refine z_iload1 gi_148_1 ?_
      refine z_icmp_ltF gi_148_2 (by omega) zr_0 (by omega) ?_
      refine z_iload0 gi_148_5 ?_
      refine z_iload2 gi_148_6 ?_
      refine z_icmp_gtF gi_148_7 (by omega) zr_5 (by omega) ?_
      refine z_pushJ gp_148_10 ?_
      refine z_goto gi_148_11 ?_
      refine z_bret1 gi_148_15 gr_148 ?_
      show zW _ _ _ _ _ _ _ _ _ _
      refine z_bret1 gi_248_6 gr_248 ?_
      show zW _ _ _ _ _ _ _ _ _ _
      refine z_if_eqF gi_199_4 zr_1 (by decide) ?_
      refine z_iload2 gi_199_7 ?_
      refine z_pushJ gp_199_8 ?_
      refine z_pushJ gp_199_9 ?_
      refine z_cS3 gi_199_10 (Nat.le_of_ble_eq_true rfl) gc_148_III ?_
      refine z_iload0 gi_148_0 ?_
      refine z_iload1 gi_148_1 ?_
      refine z_icmp_lt gi_148_2 (by omega) zr_0 (fun h3 => ?_) (fun h3 => ?_)
      · refine z_pushJ gp_148_14 ?_
        refine z_bret0 gi_148_15 gr_148 ?_
        show zW _ _ _ _ _ _ _ _ _ _
        refine z_if_neF gi_199_13 zr_0 (by decide) ?_
        refine z_pushJ gp_199_16 ?_
        refine z_iret gi_199_17 gr_199 ?_
        refine ⟨?_, ?_⟩
        · first | rfl | exact congrArg (fun v => some (zi v)) (by omega) | (exfalso; omega)
        · exact hr
      · refine z_iload0 gi_148_5 ?_
        refine z_iload2 gi_148_6 ?_
        refine z_icmp_gt gi_148_7 (by omega) zr_1 (fun h4 => ?_) (fun h4 => ?_)
        · refine z_pushJ gp_148_14 ?_
          refine z_bret0 gi_148_15 gr_148 ?_
          show zW _ _ _ _ _ _ _ _ _ _
          refine z_if_neF gi_199_13 zr_0 (by decide) ?_
          refine z_pushJ gp_199_16 ?_
          refine z_iret gi_199_17 gr_199 ?_
          refine ⟨?_, ?_⟩
          · first | rfl | exact congrArg (fun v => some (zi v)) (by omega) | (exfalso; omega)
          · exact hr
        · refine z_pushJ gp_148_10 ?_
          refine z_goto gi_148_11 ?_
          refine z_bret1 gi_148_15 gr_148 ?_
          show zW _ _ _ _ _ _ _ _ _ _
          refine z_if_neT gi_199_13 zr_1 (by decide) ?_
          refine z_aload0 gi_199_18 ?_
          refine z_iload1 gi_199_19 ?_
          refine z_cV1 gi_199_20 gk_50 go_192 (Nat.le_of_ble_eq_true rfl) gc_192_RI ?_
          refine z_aload0 gi_192_0 ?_
          refine z_getR (r := 83) gi_192_1 gk_50 (hRr _ rm_50_58 (by decide)) ?_
          refine z_iload1 gi_192_4 ?_
          refine z_iald (v := (-2) - (J (38 + 2 * s.toNat) 2)) gi_192_5 gk_83 (by decide) (by omega) (e83) ?_
          refine z_pushJ gp_192_6 ?_
          refine z_icmp_neT gi_192_7 (by omega) zrn_1 (by omega) ?_
          refine z_aload0 gi_192_15 ?_
          refine z_getR (r := 83) gi_192_16 gk_50 (hRr _ rm_50_58 (by decide)) ?_
          refine z_iload1 gi_192_19 ?_
          refine z_iald (v := (-2) - (J (38 + 2 * s.toNat) 2)) gi_192_20 gk_83 (by decide) (by omega) (e83) ?_
          refine z_pushJ gp_192_21 ?_
          refine z_icmp_neT gi_192_23 (by omega) zrn_2 (by omega) ?_
          refine z_pushJ gp_192_30 ?_
          refine z_iret gi_192_32 gr_192 ?_
          show zW _ _ _ _ _ _ _ _ _ _
          refine z_if_geF gi_199_23 zrn_12 (by decide) ?_
          refine z_aload0 gi_199_26 ?_
          refine z_iload1 gi_199_27 ?_
          refine z_cV1 gi_199_28 gk_50 go_192 (Nat.le_of_ble_eq_true rfl) gc_192_RI ?_
          refine z_aload0 gi_192_0 ?_
          refine z_getR (r := 83) gi_192_1 gk_50 (hRr _ rm_50_58 (by decide)) ?_
          refine z_iload1 gi_192_4 ?_
          refine z_iald (v := (-2) - (J (38 + 2 * s.toNat) 2)) gi_192_5 gk_83 (by decide) (by omega) (e83) ?_
          refine z_pushJ gp_192_6 ?_
          refine z_icmp_neT gi_192_7 (by omega) zrn_1 (by omega) ?_
          refine z_aload0 gi_192_15 ?_
          refine z_getR (r := 83) gi_192_16 gk_50 (hRr _ rm_50_58 (by decide)) ?_
          refine z_iload1 gi_192_19 ?_
          refine z_iald (v := (-2) - (J (38 + 2 * s.toNat) 2)) gi_192_20 gk_83 (by decide) (by omega) (e83) ?_
          refine z_pushJ gp_192_21 ?_
          refine z_icmp_neT gi_192_23 (by omega) zrn_2 (by omega) ?_
          refine z_pushJ gp_192_30 ?_
          refine z_iret gi_192_32 gr_192 ?_
          show zW _ _ _ _ _ _ _ _ _ _
          refine z_iret gi_199_31 gr_199 ?_
          refine ⟨?_, ?_⟩
          · first | rfl | exact congrArg (fun v => some (zi v)) (by omega) | (exfalso; omega)
          · exact hr
    · refine z_pushJ gp_146_9 ?_
      refine z_goto gi_146_10 ?_
      refine z_bret1 gi_146_14 gr_146 ?_
      show zW _ _ _ _ _ _ _ _ _ _
      refine z_if_neT gi_110_11 zr_1 (by decide) ?_
      refine z_aload0 gi_110_16 ?_
      refine z_getR (r := 10) gi_110_17 gk_0 (hR _ rm_0_2) ?_
      refine z_aload0 gi_110_20 ?_
      refine z_getR (r := 37) gi_110_21 gk_0 (hR _ rm_0_11) ?_
      refine z_iload1 gi_110_24 ?_
      refine z_aald (r := 38 + 2 * s.toNat) gi_110_25 rfl (by decide) (by omega) (rr_shelf hR (by omega)) ?_
      refine z_callVi (As := [_]) (le := [some _, some _, none, none, none]) gi_110_26 rfl gk_10 (Nat.le_of_ble_eq_true rfl) (Nat.le_of_ble_eq_true rfl) rfl ?_
      refine z_aload1 gi_78_0 ?_
      refine z_callVi (As := []) (le := [some _]) gi_78_1 rfl (zk_shelf (by omega)) (Nat.le_of_ble_eq_true rfl) (Nat.le_of_ble_eq_true rfl) rfl ?_
      refine z_aload0 gi_69_0 ?_
      refine z_getI (v := 2) gi_69_1 (zk_shelf (by omega)) (hh) ?_
      refine z_if_neT gi_69_4 zr_2 (by decide) ?_
      refine z_aload0 gi_69_10 ?_
      refine z_callVi (As := []) (le := [some _]) gi_69_11 rfl (zk_shelf (by omega)) (Nat.le_of_ble_eq_true rfl) (Nat.le_of_ble_eq_true rfl) rfl ?_
      refine z_aload0 gi_64_0 ?_
      refine z_getI (v := 2) gi_64_1 (zk_shelf (by omega)) (hh) ?_
      refine z_pushJ gp_64_4 ?_
      refine z_icmp_neF gi_64_5 zr_2 zr_2 (by decide) ?_
      refine z_aload0 gi_64_8 ?_
      refine z_getI (v := J (38 + 2 * s.toNat) 2) gi_64_9 (zk_shelf (by omega)) (rfl) ?_
      refine z_if_neT gi_64_12 (by omega) (by omega) ?_
      refine z_pushJ gp_64_19 ?_
      refine z_bret0 gi_64_20 gr_64 ?_
      show zW _ _ _ _ _ _ _ _ _ _
      refine z_if_eqT gi_69_14 zr_0 (by decide) ?_
      refine z_pushJ gp_69_21 ?_
      refine z_iret gi_69_23 gr_69 ?_
      show zW _ _ _ _ _ _ _ _ _ _
      refine z_istore (ls1 := [some (.ref 10), some (.ref (38 + 2 * s.toNat)), some (zi (-12)), none, none]) gi_78_4 rfl ?_
      refine z_iload2 gi_78_5 ?_
      refine z_if_geF gi_78_6 zrn_12 (by decide) ?_
      refine z_iload2 gi_78_9 ?_
      refine z_iret gi_78_10 gr_78 ?_
      show zW _ _ _ _ _ _ _ _ _ _
      refine z_istore (ls1 := [some (.ref 0), some (zi s), some (zi v), some (zi (-12)), none, none, none]) gi_110_29 rfl ?_
      refine z_iload3 gi_110_30 ?_
      refine z_if_geF gi_110_31 zrn_12 (by decide) ?_
      refine z_iload3 gi_110_34 ?_
      refine z_iret gi_110_35 gr_110 ?_
      refine ⟨_, rfl, ?_⟩
      show zW _ _ _ _ [some (.ref 50), some (zi s), some (zi v), none] _ _ _ _ _
      refine z_iload1 gi_199_0 ?_
      refine z_cS1 gi_199_1 (Nat.le_of_ble_eq_true rfl) gc_248_I ?_
      refine z_iload0 gi_248_0 ?_
      refine z_pushJ gp_248_1 ?_
      refine z_pushJ gp_248_2 ?_
      refine z_cS3 gi_248_3 (Nat.le_of_ble_eq_true rfl) gc_148_III ?_
      refine z_iload0 gi_148_0 ?_
      refine z_iload1 gi_148_1 ?_
      refine z_icmp_ltF gi_148_2 (by omega) zr_0 (by omega) ?_
      refine z_iload0 gi_148_5 ?_
      refine z_iload2 gi_148_6 ?_
      refine z_icmp_gtF gi_148_7 (by omega) zr_5 (by omega) ?_
      refine z_pushJ gp_148_10 ?_
      refine z_goto gi_148_11 ?_
      refine z_bret1 gi_148_15 gr_148 ?_
      show zW _ _ _ _ _ _ _ _ _ _
      refine z_bret1 gi_248_6 gr_248 ?_
      show zW _ _ _ _ _ _ _ _ _ _
      refine z_if_eqF gi_199_4 zr_1 (by decide) ?_
      refine z_iload2 gi_199_7 ?_
      refine z_pushJ gp_199_8 ?_
      refine z_pushJ gp_199_9 ?_
      refine z_cS3 gi_199_10 (Nat.le_of_ble_eq_true rfl) gc_148_III ?_
      refine z_iload0 gi_148_0 ?_
      refine z_iload1 gi_148_1 ?_
      refine z_icmp_ltF gi_148_2 (by omega) zr_0 (by omega) ?_
      refine z_iload0 gi_148_5 ?_
      refine z_iload2 gi_148_6 ?_
      refine z_icmp_gtF gi_148_7 (by omega) zr_1 (by omega) ?_
      refine z_pushJ gp_148_10 ?_
      refine z_goto gi_148_11 ?_
      refine z_bret1 gi_148_15 gr_148 ?_
      show zW _ _ _ _ _ _ _ _ _ _
      refine z_if_neT gi_199_13 zr_1 (by decide) ?_
      refine z_aload0 gi_199_18 ?_
      refine z_iload1 gi_199_19 ?_
      refine z_cV1 gi_199_20 gk_50 go_192 (Nat.le_of_ble_eq_true rfl) gc_192_RI ?_
      refine z_aload0 gi_192_0 ?_
      refine z_getR (r := 83) gi_192_1 gk_50 (hRr _ rm_50_58 (by decide)) ?_
      refine z_iload1 gi_192_4 ?_
      refine z_iald (v := (-2) - (J (38 + 2 * s.toNat) 2)) gi_192_5 gk_83 (by decide) (by omega) (e83) ?_
      refine z_pushJ gp_192_6 ?_
      refine z_icmp_neT gi_192_7 (by omega) zrn_1 (by omega) ?_
      refine z_aload0 gi_192_15 ?_
      refine z_getR (r := 83) gi_192_16 gk_50 (hRr _ rm_50_58 (by decide)) ?_
      refine z_iload1 gi_192_19 ?_
      refine z_iald (v := (-2) - (J (38 + 2 * s.toNat) 2)) gi_192_20 gk_83 (by decide) (by omega) (e83) ?_
      refine z_pushJ gp_192_21 ?_
      refine z_icmp_neT gi_192_23 (by omega) zrn_2 (by omega) ?_
      refine z_pushJ gp_192_30 ?_
      refine z_iret gi_192_32 gr_192 ?_
      show zW _ _ _ _ _ _ _ _ _ _
      refine z_if_geF gi_199_23 zrn_12 (by decide) ?_
      refine z_aload0 gi_199_26 ?_
      refine z_iload1 gi_199_27 ?_
      refine z_cV1 gi_199_28 gk_50 go_192 (Nat.le_of_ble_eq_true rfl) gc_192_RI ?_
      refine z_aload0 gi_192_0 ?_
      refine z_getR (r := 83) gi_192_1 gk_50 (hRr _ rm_50_58 (by decide)) ?_
      refine z_iload1 gi_192_4 ?_
      refine z_iald (v := (-2) - (J (38 + 2 * s.toNat) 2)) gi_192_5 gk_83 (by decide) (by omega) (e83) ?_
      refine z_pushJ gp_192_6 ?_
      refine z_icmp_neT gi_192_7 (by omega) zrn_1 (by omega) ?_
      refine z_aload0 gi_192_15 ?_
      refine z_getR (r := 83) gi_192_16 gk_50 (hRr _ rm_50_58 (by decide)) ?_
      refine z_iload1 gi_192_19 ?_
      refine z_iald (v := (-2) - (J (38 + 2 * s.toNat) 2)) gi_192_20 gk_83 (by decide) (by omega) (e83) ?_
      refine z_pushJ gp_192_21 ?_
      refine z_icmp_neT gi_192_23 (by omega) zrn_2 (by omega) ?_
      refine z_pushJ gp_192_30 ?_
      refine z_iret gi_192_32 gr_192 ?_
      show zW _ _ _ _ _ _ _ _ _ _
      refine z_iret gi_199_31 gr_199 ?_
      refine ⟨?_, ?_⟩
      · first | rfl | exact congrArg (fun v => some (zi v)) (by omega) | (exfalso; omega)
      · exact hr
theorem st_ifNot_m {X : Nat × (Nat → Int32)} {d : Nat} {J M : zA} {R : zR} {s v : Int} (hr : Rel X J M R) (hs : -2147483648 ≤ s ∧ s < 2147483648) (hv : -2147483648 ≤ v ∧ v < 2147483648) (hs6 : 0 ≤ s ∧ s < 6) (hh : J (38 + 2 * s.toNat) 0 = 2) (hso : J (38 + 2 * s.toNat) 2 = 0) : zW X (d + 20) 110 0 (gEn 110 [(.ref 0), (zi s), (zi v)]) [] J M R (stP X (d + 20) 199 [(zi s), (zi v)]) := by
  have hr0 := hr
  obtain ⟨hR, hG, hY, hD, hP, hC, hAc, hS, hTp, hX, hW⟩ := hr0
  have hRr : zRoR R := zRoR_of hR
  have hY0 := hY
  obtain ⟨y1, y2, y3⟩ := hY0
  have yn := zNn y3
  have e83 : J 83 s = -2 - J (38 + 2 * s.toNat) 2 := (hS s hs6.1 hs6.2).1.symm.trans (cH_2 hh)
  have s3 : 0 ≤ J (38 + 2 * s.toNat) 2 ∧ J (38 + 2 * s.toNat) 2 ≤ 4 := (hS s hs6.1 hs6.2).2.2.1
  have s4 : 0 ≤ J (38 + 2 * s.toNat) 3 ∧ J (38 + 2 * s.toNat) 3 ≤ 60 := (hS s hs6.1 hs6.2).2.2.2.1
  have s6 := (hS s hs6.1 hs6.2).2.2.2.2.2 hh
  have s7 : J 84 s = J (38 + 2 * s.toNat) 3 := s6.1.symm
  have s8 : ∀ i, 0 ≤ i → i < J (38 + 2 * s.toNat) 3 → M (39 + 2 * s.toNat) i = M 85 (60 * s + i) := s6.2.1
  have e83n : J 83 s = -2 := e83.trans (by omega)
  have hbr := s6.2.2 hso
  have hX0 := hX
  obtain ⟨T, t1, t2, t3⟩ := hX0
  show zW _ _ _ _ [some (.ref 0), some (zi s), some (zi v), none, none, none, none] _ _ _ _ _
  refine z_iload1 gi_110_0 ?_
  refine z_cS1 gi_110_1 (Nat.le_of_ble_eq_true rfl) gc_143_I ?_
  refine z_iload0 gi_143_0 ?_
  refine z_if_ltF gi_143_1 (by omega) (by omega) ?_
  refine z_iload0 gi_143_4 ?_
  refine z_pushJ gp_143_5 ?_
  refine z_icmp_geF gi_143_7 (by omega) zr_6 (by omega) ?_
  refine z_pushJ gp_143_10 ?_
  refine z_goto gi_143_11 ?_
  refine z_bret1 gi_143_15 gr_143 ?_
  show zW _ _ _ _ _ _ _ _ _ _
  refine z_if_eqF gi_110_4 zr_1 (by decide) ?_
  refine z_iload2 gi_110_7 ?_
  refine z_cS1 gi_110_8 (Nat.le_of_ble_eq_true rfl) gc_146_I ?_
  refine z_iload0 gi_146_0 ?_
  refine z_if_eq gi_146_1 (by omega) (fun h1 => ?_) (fun h1 => ?_)
  · refine z_pushJ gp_146_9 ?_
    refine z_goto gi_146_10 ?_
    refine z_bret1 gi_146_14 gr_146 ?_
    show zW _ _ _ _ _ _ _ _ _ _
    refine z_if_neT gi_110_11 zr_1 (by decide) ?_
    refine z_aload0 gi_110_16 ?_
    refine z_getR (r := 10) gi_110_17 gk_0 (hR _ rm_0_2) ?_
    refine z_aload0 gi_110_20 ?_
    refine z_getR (r := 37) gi_110_21 gk_0 (hR _ rm_0_11) ?_
    refine z_iload1 gi_110_24 ?_
    refine z_aald (r := 38 + 2 * s.toNat) gi_110_25 rfl (by decide) (by omega) (rr_shelf hR (by omega)) ?_
    have hk1 : zK kP J J := zK_r
    refine z_callV (As := [_]) _ gi_110_26 rfl rfl (Nat.le_of_ble_eq_true rfl) (Nat.le_of_ble_eq_true rfl) (follow_k (J := J) (N := (cN J)) (n := J 8 2) (T := T) (s := s) (w := J 10 12) (z := (J (38 + 2 * s.toNat) 3)) (b := (fun i => M (39 + 2 * s.toNat) i)) hR (cN_P hk1) (hk1 8 2 rfl) y3 (LawC_P t2 hk1) t1 hs6 (fun _ _ _ => rfl) hbr (hk1 _ 3 (kP_b (by omega))) s4 ((hk1 _ 0 (kP_b (by omega))).trans hh) ((hk1 _ 2 (kP_b (by omega))).trans hso) rfl hW.1) (fun r J2 M2 R2 hr2 => ?_)
    obtain ⟨rfl, K, hE, hK30, hk3, hc2, hw2, eM, eR⟩ := hr2
    obtain rfl : M = M2 := eM.symm
    obtain rfl : R = R2 := eR.symm
    show zW _ _ _ _ _ (_ :: _) _ _ _ _
    have hk2 := zK_t hk1 hk3
    have hn2 : J2 8 2 = J 8 2 := hk2 8 2 rfl
    have hks : zK kS J J2 := kS_Pw hk3 (hc2.2.2.2.2.1.trans (Eq.symm rfl))
    obtain ⟨S, eS⟩ : ∃ S, S = tS T (cN J) (J 8 2) (fun i => M (39 + 2 * s.toNat) i) (J 10 12) K := ⟨_, rfl⟩
    have hi0 := (tS_r y3 K hE.1).1
    have hz0 := tS_z K hE.1
    rw [← eS] at hc2 hi0 hz0
    have hi := tI_30 hi0 (by omega)
    have qi := hi.2.2
    have hfc : ∀ p, 0 ≤ p → p < 8 → J2 11 p = tsh S p := fun p q1 q2 => hc2.2.2.2.2.2.2.1 p q1 q2
    refine z_istore (ls1 := [some (.ref 0), some (zi s), some (zi v), some (zi 0), none, none, none]) gi_110_29 rfl ?_
    refine z_iload3 gi_110_30 ?_
    refine z_if_geT gi_110_31 zr_0 (by decide) ?_
    refine z_aload0 gi_110_36 ?_
    refine z_getR (r := 10) gi_110_37 gk_0 (hR _ rm_0_2) ?_
    refine z_callVP (As := []) (v := (lk (tsh S) (J 8 2).toNat).1) gi_110_40 rfl gk_10 (Nat.le_of_ble_eq_true rfl) (Nat.le_of_ble_eq_true rfl) (by rw [← lk_z yn hz0]; exact likC_k hR hfc hi.1) ?_
    have ql := @lk_r (tsh S) (J 8 2).toNat
    have qb := lk_b hi.1 (J 8 2).toNat
    have qm := sm_r hi.1 (J 8 2).toNat
    have qg := sGone_r y3
    have qp : (lk (tsh S) (J 8 2).toNat).1 = -2 ∨ tsh S (lk (tsh S) (J 8 2).toNat).1 ≤ sm (tsh S) (J 8 2).toNat := by
      rcases ql with q | q
      · exact Or.inl q.1
      · exact Or.inr (sm_p hi.1 q.1 _ (by omega))
    refine z_istore (ls1 := [some (.ref 0), some (zi s), some (zi v), some (zi 0), some (zi ((lk (tsh S) (J 8 2).toNat).1)), none, none]) gi_110_43 rfl ?_
    refine z_iload2 gi_110_45 ?_
    refine z_if_neF gi_110_46 (by omega) (by omega) ?_
    refine z_iload4 rfl ?_
    refine z_iret rfl gr_110 ?_
    refine ⟨_, rfl, ?_⟩
    show zW _ _ _ _ [some (.ref 50), some (zi s), some (zi v), none] _ _ _ _ _
    refine z_iload1 gi_199_0 ?_
    refine z_cS1 gi_199_1 (Nat.le_of_ble_eq_true rfl) gc_248_I ?_
    refine z_iload0 gi_248_0 ?_
    refine z_pushJ gp_248_1 ?_
    refine z_pushJ gp_248_2 ?_
    refine z_cS3 gi_248_3 (Nat.le_of_ble_eq_true rfl) gc_148_III ?_
    refine z_iload0 gi_148_0 ?_
    refine z_iload1 gi_148_1 ?_
    refine z_icmp_ltF gi_148_2 (by omega) zr_0 (by omega) ?_
    refine z_iload0 gi_148_5 ?_
    refine z_iload2 gi_148_6 ?_
    refine z_icmp_gtF gi_148_7 (by omega) zr_5 (by omega) ?_
    refine z_pushJ gp_148_10 ?_
    refine z_goto gi_148_11 ?_
    refine z_bret1 gi_148_15 gr_148 ?_
    show zW _ _ _ _ _ _ _ _ _ _
    refine z_bret1 gi_248_6 gr_248 ?_
    show zW _ _ _ _ _ _ _ _ _ _
    refine z_if_eqF gi_199_4 zr_1 (by decide) ?_
    refine z_iload2 gi_199_7 ?_
    refine z_pushJ gp_199_8 ?_
    refine z_pushJ gp_199_9 ?_
    refine z_cS3 gi_199_10 (Nat.le_of_ble_eq_true rfl) gc_148_III ?_
    refine z_iload0 gi_148_0 ?_
    refine z_iload1 gi_148_1 ?_
    refine z_icmp_ltF gi_148_2 (by omega) zr_0 (by omega) ?_
    refine z_iload0 gi_148_5 ?_
    refine z_iload2 gi_148_6 ?_
    refine z_icmp_gtF gi_148_7 (by omega) zr_1 (by omega) ?_
    refine z_pushJ gp_148_10 ?_
    refine z_goto gi_148_11 ?_
    refine z_bret1 gi_148_15 gr_148 ?_
    show zW _ _ _ _ _ _ _ _ _ _
    refine z_if_neT gi_199_13 zr_1 (by decide) ?_
    refine z_aload0 gi_199_18 ?_
    refine z_iload1 gi_199_19 ?_
    refine z_cV1 gi_199_20 gk_50 go_192 (Nat.le_of_ble_eq_true rfl) gc_192_RI ?_
    refine z_aload0 gi_192_0 ?_
    refine z_getR (r := 83) gi_192_1 gk_50 (hRr _ rm_50_58 (by decide)) ?_
    refine z_iload1 gi_192_4 ?_
    refine z_iald (v := (-2)) gi_192_5 gk_83 (by decide) (by omega) ((hks 83 _ rfl).trans e83n) ?_
    refine z_pushJ gp_192_6 ?_
    refine z_icmp_neT gi_192_7 zrn_2 zrn_1 (by decide) ?_
    refine z_aload0 gi_192_15 ?_
    refine z_getR (r := 83) gi_192_16 gk_50 (hRr _ rm_50_58 (by decide)) ?_
    refine z_iload1 gi_192_19 ?_
    refine z_iald (v := (-2)) gi_192_20 gk_83 (by decide) (by omega) ((hks 83 _ rfl).trans e83n) ?_
    refine z_pushJ gp_192_21 ?_
    refine z_icmp_neF gi_192_23 zrn_2 zrn_2 (by decide) ?_
    refine z_pushJ gp_192_26 ?_
    refine z_goto gi_192_27 ?_
    refine z_iret gi_192_32 gr_192 ?_
    show zW _ _ _ _ _ _ _ _ _ _
    refine z_if_geT gi_199_23 zr_0 (by decide) ?_
    refine z_aload0 gi_199_32 ?_
    refine z_iload1 gi_199_33 ?_
    refine z_pushJ gp_199_34 ?_
    have hV := zK_m hks kV_S
    refine z_callV (As := [_, _]) _ gi_199_36 rfl rfl (Nat.le_of_ble_eq_true rfl) (Nat.le_of_ble_eq_true rfl) (goRound_k (N := (cN J)) (n := J 8 2) (T := T) (s := s) (z := (J (38 + 2 * s.toNat) 3)) (b := (fun i => M (39 + 2 * s.toNat) i)) (w := 0) (most := 60) hRr ((rN_V hV).trans y1.symm) ((hks 50 1 rfl).trans y2.symm) y3 (LawR_V t3 hV) t1 hs6 (fun i i1 i2 => (s8 i i1 i2).symm) hbr ((hks 84 _ rfl).trans s7) s4 (by decide) ((hks 50 35 rfl).trans hW.2) (by decide)) (fun r J4 M4 R4 hr4 => ?_)
    obtain ⟨K2, rfl, hO, hOr, hK2, hq4, hr4, eM, eR⟩ := hr4
    obtain rfl : M = M4 := eM.symm
    obtain rfl : R = R4 := eR.symm
    show zW _ _ _ _ _ (_ :: _) _ _ _ _
    have eK : K2 = K := tEnd_w ⟨hO, (by rcases hOr with h | h; (exfalso; omega); exact h)⟩ hE
    rw [eK] at hr4
    have hg : rTg J4 (J 8 2) S (sGone (cN J) (J 8 2)) := rT_w eS hr4
    have hs4 := zK_t hks (zK_m hq4 kS_Q)
    have hn4 : J4 50 1 = J 8 2 := (hs4 50 1 rfl).trans y2.symm
    have hfr : ∀ p, 0 ≤ p → p < J 8 2 → J4 69 p = tsh S p := fun p q1 q2 => hg.2.2.2.2.1 p q1 q2
    refine z_pop gi_199_39 rfl ?_
    refine z_aload0 gi_199_40 ?_
    refine z_callVP (As := []) (v := (lk (tsh S) (J 8 2).toNat).1) gi_199_41 rfl gk_50 (Nat.le_of_ble_eq_true rfl) (Nat.le_of_ble_eq_true rfl) (likR_k hRr yn hn4 hfr hi.1) ?_
    refine z_istore (ls1 := [some (.ref 50), some (zi s), some (zi v), some (zi ((lk (tsh S) (J 8 2).toNat).1))]) gi_199_44 rfl ?_
    refine z_iload2 gi_199_45 ?_
    refine z_if_neF gi_199_46 (by omega) (by omega) ?_
    refine z_iload3 rfl ?_
    refine z_iret rfl gr_199 ?_
    refine ⟨?_, ?_⟩
    · first | rfl | exact congrArg (fun v => some (zi v)) (by omega) | (exfalso; omega)
    · exact Rel_S hs4 zK_r hr
  · refine z_iload0 gi_146_4 ?_
    refine z_pushJ gp_146_5 ?_
    refine z_icmp_ne gi_146_6 (by omega) zr_1 (fun h2 => ?_) (fun h2 => ?_)
    · refine z_pushJ gp_146_13 ?_
      refine z_bret0 gi_146_14 gr_146 ?_
      show zW _ _ _ _ _ _ _ _ _ _
      refine z_if_neF gi_110_11 zr_0 (by decide) ?_
      refine z_pushJ gp_110_14 ?_
      refine z_iret gi_110_15 gr_110 ?_
      refine ⟨_, rfl, ?_⟩
      show zW _ _ _ _ [some (.ref 50), some (zi s), some (zi v), none] _ _ _ _ _
      refine z_iload1 gi_199_0 ?_
      refine z_cS1 gi_199_1 (Nat.le_of_ble_eq_true rfl) gc_248_I ?_
      refine z_iload0 gi_248_0 ?_
      refine z_pushJ gp_248_1 ?_
      refine z_pushJ gp_248_2 ?_
      refine z_cS3 gi_248_3 (Nat.le_of_ble_eq_true rfl) gc_148_III ?_
      refine z_iload0 gi_148_0 ?_
      refine z_iload1 gi_148_1 ?_
      refine z_icmp_ltF gi_148_2 (by omega) zr_0 (by omega) ?_
      refine z_iload0 gi_148_5 ?_
      refine z_iload2 gi_148_6 ?_
      refine z_icmp_gtF gi_148_7 (by omega) zr_5 (by omega) ?_
      refine z_pushJ gp_148_10 ?_
      refine z_goto gi_148_11 ?_
      refine z_bret1 gi_148_15 gr_148 ?_
      show zW _ _ _ _ _ _ _ _ _ _
      refine z_bret1 gi_248_6 gr_248 ?_
      show zW _ _ _ _ _ _ _ _ _ _
      refine z_if_eqF gi_199_4 zr_1 (by decide) ?_
      refine z_iload2 gi_199_7 ?_
      refine z_pushJ gp_199_8 ?_
      refine z_pushJ gp_199_9 ?_
      refine z_cS3 gi_199_10 (Nat.le_of_ble_eq_true rfl) gc_148_III ?_
      refine z_iload0 gi_148_0 ?_
      refine z_iload1 gi_148_1 ?_
      refine z_icmp_lt gi_148_2 (by omega) zr_0 (fun h3 => ?_) (fun h3 => ?_)
      · refine z_pushJ gp_148_14 ?_
        refine z_bret0 gi_148_15 gr_148 ?_
        show zW _ _ _ _ _ _ _ _ _ _
        refine z_if_neF gi_199_13 zr_0 (by decide) ?_
        refine z_pushJ gp_199_16 ?_
        refine z_iret gi_199_17 gr_199 ?_
        refine ⟨?_, ?_⟩
        · first | rfl | exact congrArg (fun v => some (zi v)) (by omega) | (exfalso; omega)
        · exact hr
      · refine z_iload0 gi_148_5 ?_
        refine z_iload2 gi_148_6 ?_
        refine z_icmp_gt gi_148_7 (by omega) zr_1 (fun h4 => ?_) (fun h4 => ?_)
        · refine z_pushJ gp_148_14 ?_
          refine z_bret0 gi_148_15 gr_148 ?_
          show zW _ _ _ _ _ _ _ _ _ _
          refine z_if_neF gi_199_13 zr_0 (by decide) ?_
          refine z_pushJ gp_199_16 ?_
          refine z_iret gi_199_17 gr_199 ?_
          refine ⟨?_, ?_⟩
          · first | rfl | exact congrArg (fun v => some (zi v)) (by omega) | (exfalso; omega)
          · exact hr
        · refine z_pushJ gp_148_10 ?_
          refine z_goto gi_148_11 ?_
          refine z_bret1 gi_148_15 gr_148 ?_
          show zW _ _ _ _ _ _ _ _ _ _
          refine z_if_neT gi_199_13 zr_1 (by decide) ?_
          refine z_aload0 gi_199_18 ?_
          refine z_iload1 gi_199_19 ?_
          refine z_cV1 gi_199_20 gk_50 go_192 (Nat.le_of_ble_eq_true rfl) gc_192_RI ?_
          refine z_aload0 gi_192_0 ?_
          refine z_getR (r := 83) gi_192_1 gk_50 (hRr _ rm_50_58 (by decide)) ?_
          refine z_iload1 gi_192_4 ?_
          refine z_iald (v := (-2)) gi_192_5 gk_83 (by decide) (by omega) (e83n) ?_
          refine z_pushJ gp_192_6 ?_
          refine z_icmp_neT gi_192_7 zrn_2 zrn_1 (by decide) ?_
          refine z_aload0 gi_192_15 ?_
          refine z_getR (r := 83) gi_192_16 gk_50 (hRr _ rm_50_58 (by decide)) ?_
          refine z_iload1 gi_192_19 ?_
          refine z_iald (v := (-2)) gi_192_20 gk_83 (by decide) (by omega) (e83n) ?_
          refine z_pushJ gp_192_21 ?_
          refine z_icmp_neF gi_192_23 zrn_2 zrn_2 (by decide) ?_
          refine z_pushJ gp_192_26 ?_
          refine z_goto gi_192_27 ?_
          refine z_iret gi_192_32 gr_192 ?_
          show zW _ _ _ _ _ _ _ _ _ _
          refine z_if_geT gi_199_23 zr_0 (by decide) ?_
          refine z_aload0 gi_199_32 ?_
          refine z_iload1 gi_199_33 ?_
          refine z_pushJ gp_199_34 ?_
          exfalso
          omega
    · refine z_pushJ gp_146_9 ?_
      refine z_goto gi_146_10 ?_
      refine z_bret1 gi_146_14 gr_146 ?_
      show zW _ _ _ _ _ _ _ _ _ _
      refine z_if_neT gi_110_11 zr_1 (by decide) ?_
      refine z_aload0 gi_110_16 ?_
      refine z_getR (r := 10) gi_110_17 gk_0 (hR _ rm_0_2) ?_
      refine z_aload0 gi_110_20 ?_
      refine z_getR (r := 37) gi_110_21 gk_0 (hR _ rm_0_11) ?_
      refine z_iload1 gi_110_24 ?_
      refine z_aald (r := 38 + 2 * s.toNat) gi_110_25 rfl (by decide) (by omega) (rr_shelf hR (by omega)) ?_
      have hk1 : zK kP J J := zK_r
      refine z_callV (As := [_]) _ gi_110_26 rfl rfl (Nat.le_of_ble_eq_true rfl) (Nat.le_of_ble_eq_true rfl) (follow_k (J := J) (N := (cN J)) (n := J 8 2) (T := T) (s := s) (w := J 10 12) (z := (J (38 + 2 * s.toNat) 3)) (b := (fun i => M (39 + 2 * s.toNat) i)) hR (cN_P hk1) (hk1 8 2 rfl) y3 (LawC_P t2 hk1) t1 hs6 (fun _ _ _ => rfl) hbr (hk1 _ 3 (kP_b (by omega))) s4 ((hk1 _ 0 (kP_b (by omega))).trans hh) ((hk1 _ 2 (kP_b (by omega))).trans hso) rfl hW.1) (fun r J2 M2 R2 hr2 => ?_)
      obtain ⟨rfl, K, hE, hK30, hk3, hc2, hw2, eM, eR⟩ := hr2
      obtain rfl : M = M2 := eM.symm
      obtain rfl : R = R2 := eR.symm
      show zW _ _ _ _ _ (_ :: _) _ _ _ _
      have hk2 := zK_t hk1 hk3
      have hn2 : J2 8 2 = J 8 2 := hk2 8 2 rfl
      have hks : zK kS J J2 := kS_Pw hk3 (hc2.2.2.2.2.1.trans (Eq.symm rfl))
      obtain ⟨S, eS⟩ : ∃ S, S = tS T (cN J) (J 8 2) (fun i => M (39 + 2 * s.toNat) i) (J 10 12) K := ⟨_, rfl⟩
      have hi0 := (tS_r y3 K hE.1).1
      have hz0 := tS_z K hE.1
      rw [← eS] at hc2 hi0 hz0
      have hi := tI_30 hi0 (by omega)
      have qi := hi.2.2
      have hfc : ∀ p, 0 ≤ p → p < 8 → J2 11 p = tsh S p := fun p q1 q2 => hc2.2.2.2.2.2.2.1 p q1 q2
      refine z_istore (ls1 := [some (.ref 0), some (zi s), some (zi v), some (zi 0), none, none, none]) gi_110_29 rfl ?_
      refine z_iload3 gi_110_30 ?_
      refine z_if_geT gi_110_31 zr_0 (by decide) ?_
      refine z_aload0 gi_110_36 ?_
      refine z_getR (r := 10) gi_110_37 gk_0 (hR _ rm_0_2) ?_
      refine z_callVP (As := []) (v := (lk (tsh S) (J 8 2).toNat).1) gi_110_40 rfl gk_10 (Nat.le_of_ble_eq_true rfl) (Nat.le_of_ble_eq_true rfl) (by rw [← lk_z yn hz0]; exact likC_k hR hfc hi.1) ?_
      have ql := @lk_r (tsh S) (J 8 2).toNat
      have qb := lk_b hi.1 (J 8 2).toNat
      have qm := sm_r hi.1 (J 8 2).toNat
      have qg := sGone_r y3
      have qp : (lk (tsh S) (J 8 2).toNat).1 = -2 ∨ tsh S (lk (tsh S) (J 8 2).toNat).1 ≤ sm (tsh S) (J 8 2).toNat := by
        rcases ql with q | q
        · exact Or.inl q.1
        · exact Or.inr (sm_p hi.1 q.1 _ (by omega))
      refine z_istore (ls1 := [some (.ref 0), some (zi s), some (zi v), some (zi 0), some (zi ((lk (tsh S) (J 8 2).toNat).1)), none, none]) gi_110_43 rfl ?_
      refine z_iload2 gi_110_45 ?_
      refine z_if_neT gi_110_46 (by omega) (by omega) ?_
      refine z_aload0 rfl ?_
      refine z_getR (r := 10) rfl gk_0 (hR _ rm_0_2) ?_
      refine z_callVP (As := []) (v := sGone (cN J) (J 8 2) + sm (tsh S) (J 8 2).toNat) rfl rfl gk_10 (Nat.le_of_ble_eq_true rfl) (Nat.le_of_ble_eq_true rfl) (by rw [← sm_z yn hz0]; exact lftC_k hR (A := J2) zK_r (cN_P hk2) hn2 y3 hfc hi.1) ?_
      have qm := sm_r hi.1 (J 8 2).toNat
      have qg := sGone_r y3
      refine z_i2l rfl (by omega) ?_
      refine z_lstore (ls1 := [some (.ref 0), some (zi s), some (zi v), some (zi 0), some (zi ((lk (tsh S) (J 8 2).toNat).1)), some (zl (sGone (cN J) (J 8 2) + sm (tsh S) (J 8 2).toNat)), none]) rfl rfl ?_
      refine z_iload4 rfl ?_
      refine z_if_lt rfl (by omega) (fun h3 => ?_) (fun h3 => ?_)
      · refine z_pushJ gp_110_74 ?_
        refine z_iret gi_110_75 gr_110 ?_
        refine ⟨_, rfl, ?_⟩
        show zW _ _ _ _ [some (.ref 50), some (zi s), some (zi v), none] _ _ _ _ _
        refine z_iload1 gi_199_0 ?_
        refine z_cS1 gi_199_1 (Nat.le_of_ble_eq_true rfl) gc_248_I ?_
        refine z_iload0 gi_248_0 ?_
        refine z_pushJ gp_248_1 ?_
        refine z_pushJ gp_248_2 ?_
        refine z_cS3 gi_248_3 (Nat.le_of_ble_eq_true rfl) gc_148_III ?_
        refine z_iload0 gi_148_0 ?_
        refine z_iload1 gi_148_1 ?_
        refine z_icmp_ltF gi_148_2 (by omega) zr_0 (by omega) ?_
        refine z_iload0 gi_148_5 ?_
        refine z_iload2 gi_148_6 ?_
        refine z_icmp_gtF gi_148_7 (by omega) zr_5 (by omega) ?_
        refine z_pushJ gp_148_10 ?_
        refine z_goto gi_148_11 ?_
        refine z_bret1 gi_148_15 gr_148 ?_
        show zW _ _ _ _ _ _ _ _ _ _
        refine z_bret1 gi_248_6 gr_248 ?_
        show zW _ _ _ _ _ _ _ _ _ _
        refine z_if_eqF gi_199_4 zr_1 (by decide) ?_
        refine z_iload2 gi_199_7 ?_
        refine z_pushJ gp_199_8 ?_
        refine z_pushJ gp_199_9 ?_
        refine z_cS3 gi_199_10 (Nat.le_of_ble_eq_true rfl) gc_148_III ?_
        refine z_iload0 gi_148_0 ?_
        refine z_iload1 gi_148_1 ?_
        refine z_icmp_ltF gi_148_2 (by omega) zr_0 (by omega) ?_
        refine z_iload0 gi_148_5 ?_
        refine z_iload2 gi_148_6 ?_
        refine z_icmp_gtF gi_148_7 (by omega) zr_1 (by omega) ?_
        refine z_pushJ gp_148_10 ?_
        refine z_goto gi_148_11 ?_
        refine z_bret1 gi_148_15 gr_148 ?_
        show zW _ _ _ _ _ _ _ _ _ _
        refine z_if_neT gi_199_13 zr_1 (by decide) ?_
        refine z_aload0 gi_199_18 ?_
        refine z_iload1 gi_199_19 ?_
        refine z_cV1 gi_199_20 gk_50 go_192 (Nat.le_of_ble_eq_true rfl) gc_192_RI ?_
        refine z_aload0 gi_192_0 ?_
        refine z_getR (r := 83) gi_192_1 gk_50 (hRr _ rm_50_58 (by decide)) ?_
        refine z_iload1 gi_192_4 ?_
        refine z_iald (v := (-2)) gi_192_5 gk_83 (by decide) (by omega) ((hks 83 _ rfl).trans e83n) ?_
        refine z_pushJ gp_192_6 ?_
        refine z_icmp_neT gi_192_7 zrn_2 zrn_1 (by decide) ?_
        refine z_aload0 gi_192_15 ?_
        refine z_getR (r := 83) gi_192_16 gk_50 (hRr _ rm_50_58 (by decide)) ?_
        refine z_iload1 gi_192_19 ?_
        refine z_iald (v := (-2)) gi_192_20 gk_83 (by decide) (by omega) ((hks 83 _ rfl).trans e83n) ?_
        refine z_pushJ gp_192_21 ?_
        refine z_icmp_neF gi_192_23 zrn_2 zrn_2 (by decide) ?_
        refine z_pushJ gp_192_26 ?_
        refine z_goto gi_192_27 ?_
        refine z_iret gi_192_32 gr_192 ?_
        show zW _ _ _ _ _ _ _ _ _ _
        refine z_if_geT gi_199_23 zr_0 (by decide) ?_
        refine z_aload0 gi_199_32 ?_
        refine z_iload1 gi_199_33 ?_
        refine z_pushJ gp_199_34 ?_
        have hV := zK_m hks kV_S
        refine z_callV (As := [_, _]) _ gi_199_36 rfl rfl (Nat.le_of_ble_eq_true rfl) (Nat.le_of_ble_eq_true rfl) (goRound_k (N := (cN J)) (n := J 8 2) (T := T) (s := s) (z := (J (38 + 2 * s.toNat) 3)) (b := (fun i => M (39 + 2 * s.toNat) i)) (w := 0) (most := 60) hRr ((rN_V hV).trans y1.symm) ((hks 50 1 rfl).trans y2.symm) y3 (LawR_V t3 hV) t1 hs6 (fun i i1 i2 => (s8 i i1 i2).symm) hbr ((hks 84 _ rfl).trans s7) s4 (by decide) ((hks 50 35 rfl).trans hW.2) (by decide)) (fun r J4 M4 R4 hr4 => ?_)
        obtain ⟨K2, rfl, hO, hOr, hK2, hq4, hr4, eM, eR⟩ := hr4
        obtain rfl : M = M4 := eM.symm
        obtain rfl : R = R4 := eR.symm
        show zW _ _ _ _ _ (_ :: _) _ _ _ _
        have eK : K2 = K := tEnd_w ⟨hO, (by rcases hOr with h | h; (exfalso; omega); exact h)⟩ hE
        rw [eK] at hr4
        have hg : rTg J4 (J 8 2) S (sGone (cN J) (J 8 2)) := rT_w eS hr4
        have hs4 := zK_t hks (zK_m hq4 kS_Q)
        have hn4 : J4 50 1 = J 8 2 := (hs4 50 1 rfl).trans y2.symm
        have hfr : ∀ p, 0 ≤ p → p < J 8 2 → J4 69 p = tsh S p := fun p q1 q2 => hg.2.2.2.2.1 p q1 q2
        refine z_pop gi_199_39 rfl ?_
        refine z_aload0 gi_199_40 ?_
        refine z_callVP (As := []) (v := (lk (tsh S) (J 8 2).toNat).1) gi_199_41 rfl gk_50 (Nat.le_of_ble_eq_true rfl) (Nat.le_of_ble_eq_true rfl) (likR_k hRr yn hn4 hfr hi.1) ?_
        refine z_istore (ls1 := [some (.ref 50), some (zi s), some (zi v), some (zi ((lk (tsh S) (J 8 2).toNat).1))]) gi_199_44 rfl ?_
        refine z_iload2 gi_199_45 ?_
        refine z_if_neT gi_199_46 (by omega) (by omega) ?_
        refine z_iload3 gi_199_51 ?_
        refine z_if_geF gi_199_52 (by omega) (by omega) ?_
        refine z_pushJ gp_199_55 ?_
        refine z_goto rfl ?_
        refine z_iret gi_199_77 gr_199 ?_
        refine ⟨?_, ?_⟩
        · first | rfl | exact congrArg (fun v => some (zi v)) (by omega) | (exfalso; omega)
        · exact Rel_S hs4 zK_r hr
      · refine z_lload5 rfl ?_
        refine z_pushL (z := 0) rfl rfl ?_
        refine z_lcmp_gt rfl rfl (by omega) (by omega) (fun h4 => ?_) (fun h4 => ?_)
        · refine z_pushL (z := 1000000) rfl rfl ?_
          refine z_aload0 rfl ?_
          refine z_getR (r := 10) rfl gk_0 (hR _ rm_0_2) ?_
          refine z_getR (r := 11) rfl gk_10 (hR _ rm_10_1) ?_
          refine z_iload4 rfl ?_
          have q5 := hi.1 ((lk (tsh S) (J 8 2).toNat).1)
          refine z_iald (v := tsh S ((lk (tsh S) (J 8 2).toNat).1)) rfl gk_11 (by decide) (by omega) (hc2.2.2.2.2.2.2.1 _ (by omega) (by omega)) ?_
          refine z_i2l rfl (by omega) ?_
          refine z_lmul (e := 1000000 * (tsh S ((lk (tsh S) (J 8 2).toNat).1))) rfl rfl ?_
          refine z_lload5 rfl ?_
          refine z_ldiv (e := 1000000 * (tsh S ((lk (tsh S) (J 8 2).toNat).1)) / (sGone (cN J) (J 8 2) + sm (tsh S) (J 8 2).toNat)) rfl (by omega) (by omega) rfl ?_
          refine z_l2i rfl ?_
          refine z_iret rfl gr_110 ?_
          refine ⟨_, rfl, ?_⟩
          show zW _ _ _ _ [some (.ref 50), some (zi s), some (zi v), none] _ _ _ _ _
          refine z_iload1 gi_199_0 ?_
          refine z_cS1 gi_199_1 (Nat.le_of_ble_eq_true rfl) gc_248_I ?_
          refine z_iload0 gi_248_0 ?_
          refine z_pushJ gp_248_1 ?_
          refine z_pushJ gp_248_2 ?_
          refine z_cS3 gi_248_3 (Nat.le_of_ble_eq_true rfl) gc_148_III ?_
          refine z_iload0 gi_148_0 ?_
          refine z_iload1 gi_148_1 ?_
          refine z_icmp_ltF gi_148_2 (by omega) zr_0 (by omega) ?_
          refine z_iload0 gi_148_5 ?_
          refine z_iload2 gi_148_6 ?_
          refine z_icmp_gtF gi_148_7 (by omega) zr_5 (by omega) ?_
          refine z_pushJ gp_148_10 ?_
          refine z_goto gi_148_11 ?_
          refine z_bret1 gi_148_15 gr_148 ?_
          show zW _ _ _ _ _ _ _ _ _ _
          refine z_bret1 gi_248_6 gr_248 ?_
          show zW _ _ _ _ _ _ _ _ _ _
          refine z_if_eqF gi_199_4 zr_1 (by decide) ?_
          refine z_iload2 gi_199_7 ?_
          refine z_pushJ gp_199_8 ?_
          refine z_pushJ gp_199_9 ?_
          refine z_cS3 gi_199_10 (Nat.le_of_ble_eq_true rfl) gc_148_III ?_
          refine z_iload0 gi_148_0 ?_
          refine z_iload1 gi_148_1 ?_
          refine z_icmp_ltF gi_148_2 (by omega) zr_0 (by omega) ?_
          refine z_iload0 gi_148_5 ?_
          refine z_iload2 gi_148_6 ?_
          refine z_icmp_gtF gi_148_7 (by omega) zr_1 (by omega) ?_
          refine z_pushJ gp_148_10 ?_
          refine z_goto gi_148_11 ?_
          refine z_bret1 gi_148_15 gr_148 ?_
          show zW _ _ _ _ _ _ _ _ _ _
          refine z_if_neT gi_199_13 zr_1 (by decide) ?_
          refine z_aload0 gi_199_18 ?_
          refine z_iload1 gi_199_19 ?_
          refine z_cV1 gi_199_20 gk_50 go_192 (Nat.le_of_ble_eq_true rfl) gc_192_RI ?_
          refine z_aload0 gi_192_0 ?_
          refine z_getR (r := 83) gi_192_1 gk_50 (hRr _ rm_50_58 (by decide)) ?_
          refine z_iload1 gi_192_4 ?_
          refine z_iald (v := (-2)) gi_192_5 gk_83 (by decide) (by omega) ((hks 83 _ rfl).trans e83n) ?_
          refine z_pushJ gp_192_6 ?_
          refine z_icmp_neT gi_192_7 zrn_2 zrn_1 (by decide) ?_
          refine z_aload0 gi_192_15 ?_
          refine z_getR (r := 83) gi_192_16 gk_50 (hRr _ rm_50_58 (by decide)) ?_
          refine z_iload1 gi_192_19 ?_
          refine z_iald (v := (-2)) gi_192_20 gk_83 (by decide) (by omega) ((hks 83 _ rfl).trans e83n) ?_
          refine z_pushJ gp_192_21 ?_
          refine z_icmp_neF gi_192_23 zrn_2 zrn_2 (by decide) ?_
          refine z_pushJ gp_192_26 ?_
          refine z_goto gi_192_27 ?_
          refine z_iret gi_192_32 gr_192 ?_
          show zW _ _ _ _ _ _ _ _ _ _
          refine z_if_geT gi_199_23 zr_0 (by decide) ?_
          refine z_aload0 gi_199_32 ?_
          refine z_iload1 gi_199_33 ?_
          refine z_pushJ gp_199_34 ?_
          have hV := zK_m hks kV_S
          refine z_callV (As := [_, _]) _ gi_199_36 rfl rfl (Nat.le_of_ble_eq_true rfl) (Nat.le_of_ble_eq_true rfl) (goRound_k (N := (cN J)) (n := J 8 2) (T := T) (s := s) (z := (J (38 + 2 * s.toNat) 3)) (b := (fun i => M (39 + 2 * s.toNat) i)) (w := 0) (most := 60) hRr ((rN_V hV).trans y1.symm) ((hks 50 1 rfl).trans y2.symm) y3 (LawR_V t3 hV) t1 hs6 (fun i i1 i2 => (s8 i i1 i2).symm) hbr ((hks 84 _ rfl).trans s7) s4 (by decide) ((hks 50 35 rfl).trans hW.2) (by decide)) (fun r J4 M4 R4 hr4 => ?_)
          obtain ⟨K2, rfl, hO, hOr, hK2, hq4, hr4, eM, eR⟩ := hr4
          obtain rfl : M = M4 := eM.symm
          obtain rfl : R = R4 := eR.symm
          show zW _ _ _ _ _ (_ :: _) _ _ _ _
          have eK : K2 = K := tEnd_w ⟨hO, (by rcases hOr with h | h; (exfalso; omega); exact h)⟩ hE
          rw [eK] at hr4
          have hg : rTg J4 (J 8 2) S (sGone (cN J) (J 8 2)) := rT_w eS hr4
          have hs4 := zK_t hks (zK_m hq4 kS_Q)
          have hn4 : J4 50 1 = J 8 2 := (hs4 50 1 rfl).trans y2.symm
          have hfr : ∀ p, 0 ≤ p → p < J 8 2 → J4 69 p = tsh S p := fun p q1 q2 => hg.2.2.2.2.1 p q1 q2
          refine z_pop gi_199_39 rfl ?_
          refine z_aload0 gi_199_40 ?_
          refine z_callVP (As := []) (v := (lk (tsh S) (J 8 2).toNat).1) gi_199_41 rfl gk_50 (Nat.le_of_ble_eq_true rfl) (Nat.le_of_ble_eq_true rfl) (likR_k hRr yn hn4 hfr hi.1) ?_
          refine z_istore (ls1 := [some (.ref 50), some (zi s), some (zi v), some (zi ((lk (tsh S) (J 8 2).toNat).1))]) gi_199_44 rfl ?_
          refine z_iload2 gi_199_45 ?_
          refine z_if_neT gi_199_46 (by omega) (by omega) ?_
          refine z_iload3 gi_199_51 ?_
          refine z_if_geT gi_199_52 (by omega) (by omega) ?_
          refine z_pushL (z := 1000000) gi_199_59 rfl ?_
          refine z_aload0 gi_199_62 ?_
          refine z_getR (r := 69) gi_199_63 gk_50 (hRr _ rm_50_28 (by decide)) ?_
          refine z_iload3 gi_199_66 ?_
          have q6 := hi.1 ((lk (tsh S) (J 8 2).toNat).1)
          refine z_iald (v := tsh S ((lk (tsh S) (J 8 2).toNat).1)) gi_199_67 gk_69 (by decide) (by omega) (hfr _ (by omega) (by omega)) ?_
          refine z_i2l gi_199_68 (by omega) ?_
          refine z_lmul (e := 1000000 * (tsh S ((lk (tsh S) (J 8 2).toNat).1))) gi_199_69 rfl ?_
          refine z_aload0 gi_199_70 ?_
          have qg := sGone_r y3
          refine z_callVP (As := []) (v := sGone (cN J) (J 8 2) + sm (tsh S) (J 8 2).toNat) gi_199_71 rfl gk_50 (Nat.le_of_ble_eq_true rfl) (Nat.le_of_ble_eq_true rfl) (lftR_k hRr qg hg.1 yn hn4 hfr hi.1) ?_
          have qm := sm_r hi.1 (J 8 2).toNat
          refine z_i2l gi_199_74 (by omega) ?_
          refine z_ldiv (e := 1000000 * (tsh S ((lk (tsh S) (J 8 2).toNat).1)) / (sGone (cN J) (J 8 2) + sm (tsh S) (J 8 2).toNat)) gi_199_75 (by omega) (by omega) rfl ?_
          refine z_l2i gi_199_76 ?_
          refine z_iret gi_199_77 gr_199 ?_
          refine ⟨?_, ?_⟩
          · first | rfl | exact congrArg (fun v => some (zi v)) (by omega) | (exfalso; omega)
          · exact Rel_S hs4 zK_r hr
        · refine z_pushJ gp_110_74 ?_
          refine z_iret gi_110_75 gr_110 ?_
          refine ⟨_, rfl, ?_⟩
          show zW _ _ _ _ [some (.ref 50), some (zi s), some (zi v), none] _ _ _ _ _
          refine z_iload1 gi_199_0 ?_
          refine z_cS1 gi_199_1 (Nat.le_of_ble_eq_true rfl) gc_248_I ?_
          refine z_iload0 gi_248_0 ?_
          refine z_pushJ gp_248_1 ?_
          refine z_pushJ gp_248_2 ?_
          refine z_cS3 gi_248_3 (Nat.le_of_ble_eq_true rfl) gc_148_III ?_
          refine z_iload0 gi_148_0 ?_
          refine z_iload1 gi_148_1 ?_
          refine z_icmp_ltF gi_148_2 (by omega) zr_0 (by omega) ?_
          refine z_iload0 gi_148_5 ?_
          refine z_iload2 gi_148_6 ?_
          refine z_icmp_gtF gi_148_7 (by omega) zr_5 (by omega) ?_
          refine z_pushJ gp_148_10 ?_
          refine z_goto gi_148_11 ?_
          refine z_bret1 gi_148_15 gr_148 ?_
          show zW _ _ _ _ _ _ _ _ _ _
          refine z_bret1 gi_248_6 gr_248 ?_
          show zW _ _ _ _ _ _ _ _ _ _
          refine z_if_eqF gi_199_4 zr_1 (by decide) ?_
          refine z_iload2 gi_199_7 ?_
          refine z_pushJ gp_199_8 ?_
          refine z_pushJ gp_199_9 ?_
          refine z_cS3 gi_199_10 (Nat.le_of_ble_eq_true rfl) gc_148_III ?_
          refine z_iload0 gi_148_0 ?_
          refine z_iload1 gi_148_1 ?_
          refine z_icmp_ltF gi_148_2 (by omega) zr_0 (by omega) ?_
          refine z_iload0 gi_148_5 ?_
          refine z_iload2 gi_148_6 ?_
          refine z_icmp_gtF gi_148_7 (by omega) zr_1 (by omega) ?_
          refine z_pushJ gp_148_10 ?_
          refine z_goto gi_148_11 ?_
          refine z_bret1 gi_148_15 gr_148 ?_
          show zW _ _ _ _ _ _ _ _ _ _
          refine z_if_neT gi_199_13 zr_1 (by decide) ?_
          refine z_aload0 gi_199_18 ?_
          refine z_iload1 gi_199_19 ?_
          refine z_cV1 gi_199_20 gk_50 go_192 (Nat.le_of_ble_eq_true rfl) gc_192_RI ?_
          refine z_aload0 gi_192_0 ?_
          refine z_getR (r := 83) gi_192_1 gk_50 (hRr _ rm_50_58 (by decide)) ?_
          refine z_iload1 gi_192_4 ?_
          refine z_iald (v := (-2)) gi_192_5 gk_83 (by decide) (by omega) ((hks 83 _ rfl).trans e83n) ?_
          refine z_pushJ gp_192_6 ?_
          refine z_icmp_neT gi_192_7 zrn_2 zrn_1 (by decide) ?_
          refine z_aload0 gi_192_15 ?_
          refine z_getR (r := 83) gi_192_16 gk_50 (hRr _ rm_50_58 (by decide)) ?_
          refine z_iload1 gi_192_19 ?_
          refine z_iald (v := (-2)) gi_192_20 gk_83 (by decide) (by omega) ((hks 83 _ rfl).trans e83n) ?_
          refine z_pushJ gp_192_21 ?_
          refine z_icmp_neF gi_192_23 zrn_2 zrn_2 (by decide) ?_
          refine z_pushJ gp_192_26 ?_
          refine z_goto gi_192_27 ?_
          refine z_iret gi_192_32 gr_192 ?_
          show zW _ _ _ _ _ _ _ _ _ _
          refine z_if_geT gi_199_23 zr_0 (by decide) ?_
          refine z_aload0 gi_199_32 ?_
          refine z_iload1 gi_199_33 ?_
          refine z_pushJ gp_199_34 ?_
          have hV := zK_m hks kV_S
          refine z_callV (As := [_, _]) _ gi_199_36 rfl rfl (Nat.le_of_ble_eq_true rfl) (Nat.le_of_ble_eq_true rfl) (goRound_k (N := (cN J)) (n := J 8 2) (T := T) (s := s) (z := (J (38 + 2 * s.toNat) 3)) (b := (fun i => M (39 + 2 * s.toNat) i)) (w := 0) (most := 60) hRr ((rN_V hV).trans y1.symm) ((hks 50 1 rfl).trans y2.symm) y3 (LawR_V t3 hV) t1 hs6 (fun i i1 i2 => (s8 i i1 i2).symm) hbr ((hks 84 _ rfl).trans s7) s4 (by decide) ((hks 50 35 rfl).trans hW.2) (by decide)) (fun r J4 M4 R4 hr4 => ?_)
          obtain ⟨K2, rfl, hO, hOr, hK2, hq4, hr4, eM, eR⟩ := hr4
          obtain rfl : M = M4 := eM.symm
          obtain rfl : R = R4 := eR.symm
          show zW _ _ _ _ _ (_ :: _) _ _ _ _
          have eK : K2 = K := tEnd_w ⟨hO, (by rcases hOr with h | h; (exfalso; omega); exact h)⟩ hE
          rw [eK] at hr4
          have hg : rTg J4 (J 8 2) S (sGone (cN J) (J 8 2)) := rT_w eS hr4
          have hs4 := zK_t hks (zK_m hq4 kS_Q)
          have hn4 : J4 50 1 = J 8 2 := (hs4 50 1 rfl).trans y2.symm
          have hfr : ∀ p, 0 ≤ p → p < J 8 2 → J4 69 p = tsh S p := fun p q1 q2 => hg.2.2.2.2.1 p q1 q2
          refine z_pop gi_199_39 rfl ?_
          refine z_aload0 gi_199_40 ?_
          refine z_callVP (As := []) (v := (lk (tsh S) (J 8 2).toNat).1) gi_199_41 rfl gk_50 (Nat.le_of_ble_eq_true rfl) (Nat.le_of_ble_eq_true rfl) (likR_k hRr yn hn4 hfr hi.1) ?_
          refine z_istore (ls1 := [some (.ref 50), some (zi s), some (zi v), some (zi ((lk (tsh S) (J 8 2).toNat).1))]) gi_199_44 rfl ?_
          refine z_iload2 gi_199_45 ?_
          refine z_if_neT gi_199_46 (by omega) (by omega) ?_
          refine z_iload3 gi_199_51 ?_
          refine z_if_geT gi_199_52 (by omega) (by omega) ?_
          refine z_pushL (z := 1000000) gi_199_59 rfl ?_
          refine z_aload0 gi_199_62 ?_
          refine z_getR (r := 69) gi_199_63 gk_50 (hRr _ rm_50_28 (by decide)) ?_
          refine z_iload3 gi_199_66 ?_
          have q6 := hi.1 ((lk (tsh S) (J 8 2).toNat).1)
          refine z_iald (v := tsh S ((lk (tsh S) (J 8 2).toNat).1)) gi_199_67 gk_69 (by decide) (by omega) (hfr _ (by omega) (by omega)) ?_
          refine z_i2l gi_199_68 (by omega) ?_
          refine z_lmul (e := 1000000 * (tsh S ((lk (tsh S) (J 8 2).toNat).1))) gi_199_69 rfl ?_
          refine z_aload0 gi_199_70 ?_
          have qg := sGone_r y3
          refine z_callVP (As := []) (v := sGone (cN J) (J 8 2) + sm (tsh S) (J 8 2).toNat) gi_199_71 rfl gk_50 (Nat.le_of_ble_eq_true rfl) (Nat.le_of_ble_eq_true rfl) (lftR_k hRr qg hg.1 yn hn4 hfr hi.1) ?_
          have qm := sm_r hi.1 (J 8 2).toNat
          refine z_i2l gi_199_74 (by omega) ?_
          refine z_ldiv (e := 1000000 * (tsh S ((lk (tsh S) (J 8 2).toNat).1)) / (sGone (cN J) (J 8 2) + sm (tsh S) (J 8 2).toNat)) gi_199_75 (by omega) (by omega) rfl ?_
          refine z_l2i gi_199_76 ?_
          refine z_iret gi_199_77 gr_199 ?_
          refine ⟨?_, ?_⟩
          · first | rfl | exact congrArg (fun v => some (zi v)) (by omega) | (exfalso; omega)
          · exact Rel_S hs4 zK_r hr
theorem st_ifNot {X : Nat × (Nat → Int32)} {d : Nat} {J M : zA} {R : zR} {s v : Int} (hr : Rel X J M R) (hs : -2147483648 ≤ s ∧ s < 2147483648) (hv : -2147483648 ≤ v ∧ v < 2147483648) : zW X (d + 20) 110 0 (gEn 110 [(.ref 0), (zi s), (zi v)]) [] J M R (stP X (d + 20) 199 [(zi s), (zi v)]) := by
  by_cases hs6 : 0 ≤ s ∧ s < 6
  · have hS : RelS J M := hr.2.2.2.2.2.2.2.1
    have h2 := (hS s hs6.1 hs6.2).2.1
    have h4 : J (38 + 2 * s.toNat) 0 = 0 ∨ J (38 + 2 * s.toNat) 0 = 1 ∨ J (38 + 2 * s.toNat) 0 = 2 := by omega
    rcases h4 with hh | hh | hh
    · exact st_ifNot_0 hr hs hv hs6 hh
    · exact st_ifNot_1 hr hs hv hs6 hh
    · by_cases hso : J (38 + 2 * s.toNat) 2 = 0
      · exact st_ifNot_m hr hs hv hs6 hh hso
      · exact st_ifNot_2 hr hs hv hs6 hh hso
  · exact st_ifNot_n hr hs hv hs6
theorem st_dead_n {X : Nat × (Nat → Int32)} {d : Nat} {J M : zA} {R : zR} {s : Int} (hr : Rel X J M R) (hs : -2147483648 ≤ s ∧ s < 2147483648) (hs6 : ¬ (0 ≤ s ∧ s < 6)) : zW X (d + 20) 117 0 (gEn 117 [(.ref 0), (zi s)]) [] J M R (stP X (d + 20) 210 [(zi s)]) := by
  have hr0 := hr
  obtain ⟨hR, hG, hY, hD, hP, hC, hAc, hS, hTp, hX, hW⟩ := hr0
  have hRr : zRoR R := zRoR_of hR
  have hY0 := hY
  obtain ⟨y1, y2, y3⟩ := hY0
  have yn := zNn y3
  show zW _ _ _ _ [some (.ref 0), some (zi s), none, none] _ _ _ _ _
  refine z_iload1 gi_117_0 ?_
  refine z_cS1 gi_117_1 (Nat.le_of_ble_eq_true rfl) gc_143_I ?_
  refine z_iload0 gi_143_0 ?_
  refine z_if_lt gi_143_1 (by omega) (fun h1 => ?_) (fun h1 => ?_)
  · refine z_pushJ gp_143_14 ?_
    refine z_bret0 gi_143_15 gr_143 ?_
    show zW _ _ _ _ _ _ _ _ _ _
    refine z_if_neF gi_117_4 zr_0 (by decide) ?_
    refine z_pushJ gp_117_7 ?_
    refine z_iret gi_117_8 gr_117 ?_
    refine ⟨_, rfl, ?_⟩
    show zW _ _ _ _ [some (.ref 50), some (zi s)] _ _ _ _ _
    refine z_iload1 gi_210_0 ?_
    refine z_cS1 gi_210_1 (Nat.le_of_ble_eq_true rfl) gc_248_I ?_
    refine z_iload0 gi_248_0 ?_
    refine z_pushJ gp_248_1 ?_
    refine z_pushJ gp_248_2 ?_
    refine z_cS3 gi_248_3 (Nat.le_of_ble_eq_true rfl) gc_148_III ?_
    refine z_iload0 gi_148_0 ?_
    refine z_iload1 gi_148_1 ?_
    refine z_icmp_ltT gi_148_2 (by omega) zr_0 (by omega) ?_
    refine z_pushJ gp_148_14 ?_
    refine z_bret0 gi_148_15 gr_148 ?_
    show zW _ _ _ _ _ _ _ _ _ _
    refine z_bret0 gi_248_6 gr_248 ?_
    show zW _ _ _ _ _ _ _ _ _ _
    refine z_if_neF gi_210_4 zr_0 (by decide) ?_
    refine z_pushJ gp_210_7 ?_
    refine z_iret gi_210_8 gr_210 ?_
    refine ⟨?_, ?_⟩
    · first | rfl | exact congrArg (fun v => some (zi v)) (by omega) | (exfalso; omega)
    · exact hr
  · refine z_iload0 gi_143_4 ?_
    refine z_pushJ gp_143_5 ?_
    refine z_icmp_geT gi_143_7 (by omega) zr_6 (by omega) ?_
    refine z_pushJ gp_143_14 ?_
    refine z_bret0 gi_143_15 gr_143 ?_
    show zW _ _ _ _ _ _ _ _ _ _
    refine z_if_neF gi_117_4 zr_0 (by decide) ?_
    refine z_pushJ gp_117_7 ?_
    refine z_iret gi_117_8 gr_117 ?_
    refine ⟨_, rfl, ?_⟩
    show zW _ _ _ _ [some (.ref 50), some (zi s)] _ _ _ _ _
    refine z_iload1 gi_210_0 ?_
    refine z_cS1 gi_210_1 (Nat.le_of_ble_eq_true rfl) gc_248_I ?_
    refine z_iload0 gi_248_0 ?_
    refine z_pushJ gp_248_1 ?_
    refine z_pushJ gp_248_2 ?_
    refine z_cS3 gi_248_3 (Nat.le_of_ble_eq_true rfl) gc_148_III ?_
    refine z_iload0 gi_148_0 ?_
    refine z_iload1 gi_148_1 ?_
    refine z_icmp_ltF gi_148_2 (by omega) zr_0 (by omega) ?_
    refine z_iload0 gi_148_5 ?_
    refine z_iload2 gi_148_6 ?_
    refine z_icmp_gtT gi_148_7 (by omega) zr_5 (by omega) ?_
    refine z_pushJ gp_148_14 ?_
    refine z_bret0 gi_148_15 gr_148 ?_
    show zW _ _ _ _ _ _ _ _ _ _
    refine z_bret0 gi_248_6 gr_248 ?_
    show zW _ _ _ _ _ _ _ _ _ _
    refine z_if_neF gi_210_4 zr_0 (by decide) ?_
    refine z_pushJ gp_210_7 ?_
    refine z_iret gi_210_8 gr_210 ?_
    refine ⟨?_, ?_⟩
    · first | rfl | exact congrArg (fun v => some (zi v)) (by omega) | (exfalso; omega)
    · exact hr
theorem st_dead_0 {X : Nat × (Nat → Int32)} {d : Nat} {J M : zA} {R : zR} {s : Int} (hr : Rel X J M R) (hs : -2147483648 ≤ s ∧ s < 2147483648) (hs6 : 0 ≤ s ∧ s < 6) (hh : J (38 + 2 * s.toNat) 0 = 0) : zW X (d + 20) 117 0 (gEn 117 [(.ref 0), (zi s)]) [] J M R (stP X (d + 20) 210 [(zi s)]) := by
  have hr0 := hr
  obtain ⟨hR, hG, hY, hD, hP, hC, hAc, hS, hTp, hX, hW⟩ := hr0
  have hRr : zRoR R := zRoR_of hR
  have hY0 := hY
  obtain ⟨y1, y2, y3⟩ := hY0
  have yn := zNn y3
  have hA0 := hAc
  obtain ⟨a1, a2, a3, a4, a5, a6⟩ := hA0
  have e83 : J 83 s = -1 := (hS s hs6.1 hs6.2).1.symm.trans (cH_0 hh)
  have s3 : 0 ≤ J (38 + 2 * s.toNat) 2 ∧ J (38 + 2 * s.toNat) 2 ≤ 4 := (hS s hs6.1 hs6.2).2.2.1
  have s4 : 0 ≤ J (38 + 2 * s.toNat) 3 ∧ J (38 + 2 * s.toNat) 3 ≤ 60 := (hS s hs6.1 hs6.2).2.2.2.1
  show zW _ _ _ _ [some (.ref 0), some (zi s), none, none] _ _ _ _ _
  refine z_iload1 gi_117_0 ?_
  refine z_cS1 gi_117_1 (Nat.le_of_ble_eq_true rfl) gc_143_I ?_
  refine z_iload0 gi_143_0 ?_
  refine z_if_ltF gi_143_1 (by omega) (by omega) ?_
  refine z_iload0 gi_143_4 ?_
  refine z_pushJ gp_143_5 ?_
  refine z_icmp_geF gi_143_7 (by omega) zr_6 (by omega) ?_
  refine z_pushJ gp_143_10 ?_
  refine z_goto gi_143_11 ?_
  refine z_bret1 gi_143_15 gr_143 ?_
  show zW _ _ _ _ _ _ _ _ _ _
  refine z_if_neT gi_117_4 zr_1 (by decide) ?_
  refine z_aload0 gi_117_9 ?_
  refine z_getR (r := 10) gi_117_10 gk_0 (hR _ rm_0_2) ?_
  refine z_aload0 gi_117_13 ?_
  refine z_getR (r := 37) gi_117_14 gk_0 (hR _ rm_0_11) ?_
  refine z_iload1 gi_117_17 ?_
  refine z_aald (r := 38 + 2 * s.toNat) gi_117_18 rfl (by decide) (by omega) (rr_shelf hR (by omega)) ?_
  refine z_callVi (As := [_]) (le := [some _, some _, none, none, none]) gi_117_19 rfl gk_10 (Nat.le_of_ble_eq_true rfl) (Nat.le_of_ble_eq_true rfl) rfl ?_
  refine z_aload1 gi_78_0 ?_
  refine z_callVi (As := []) (le := [some _]) gi_78_1 rfl (zk_shelf (by omega)) (Nat.le_of_ble_eq_true rfl) (Nat.le_of_ble_eq_true rfl) rfl ?_
  refine z_aload0 gi_69_0 ?_
  refine z_getI (v := 0) gi_69_1 (zk_shelf (by omega)) (hh) ?_
  refine z_if_neF gi_69_4 zr_0 (by decide) ?_
  refine z_pushJ gp_69_7 ?_
  refine z_iret gi_69_9 gr_69 ?_
  show zW _ _ _ _ _ _ _ _ _ _
  refine z_istore (ls1 := [some (.ref 10), some (.ref (38 + 2 * s.toNat)), some (zi (-11)), none, none]) gi_78_4 rfl ?_
  refine z_iload2 gi_78_5 ?_
  refine z_if_geF gi_78_6 zrn_11 (by decide) ?_
  refine z_iload2 gi_78_9 ?_
  refine z_iret gi_78_10 gr_78 ?_
  show zW _ _ _ _ _ _ _ _ _ _
  refine z_istore (ls1 := [some (.ref 0), some (zi s), some (zi (-11)), none]) gi_117_22 rfl ?_
  refine z_iload2 gi_117_23 ?_
  refine z_if_geF gi_117_24 zrn_11 (by decide) ?_
  refine z_iload2 gi_117_27 ?_
  refine z_iret gi_117_28 gr_117 ?_
  refine ⟨_, rfl, ?_⟩
  show zW _ _ _ _ [some (.ref 50), some (zi s)] _ _ _ _ _
  refine z_iload1 gi_210_0 ?_
  refine z_cS1 gi_210_1 (Nat.le_of_ble_eq_true rfl) gc_248_I ?_
  refine z_iload0 gi_248_0 ?_
  refine z_pushJ gp_248_1 ?_
  refine z_pushJ gp_248_2 ?_
  refine z_cS3 gi_248_3 (Nat.le_of_ble_eq_true rfl) gc_148_III ?_
  refine z_iload0 gi_148_0 ?_
  refine z_iload1 gi_148_1 ?_
  refine z_icmp_ltF gi_148_2 (by omega) zr_0 (by omega) ?_
  refine z_iload0 gi_148_5 ?_
  refine z_iload2 gi_148_6 ?_
  refine z_icmp_gtF gi_148_7 (by omega) zr_5 (by omega) ?_
  refine z_pushJ gp_148_10 ?_
  refine z_goto gi_148_11 ?_
  refine z_bret1 gi_148_15 gr_148 ?_
  show zW _ _ _ _ _ _ _ _ _ _
  refine z_bret1 gi_248_6 gr_248 ?_
  show zW _ _ _ _ _ _ _ _ _ _
  refine z_if_neT gi_210_4 zr_1 (by decide) ?_
  refine z_aload0 gi_210_9 ?_
  refine z_iload1 gi_210_10 ?_
  refine z_cV1 gi_210_11 gk_50 go_192 (Nat.le_of_ble_eq_true rfl) gc_192_RI ?_
  refine z_aload0 gi_192_0 ?_
  refine z_getR (r := 83) gi_192_1 gk_50 (hRr _ rm_50_58 (by decide)) ?_
  refine z_iload1 gi_192_4 ?_
  refine z_iald (v := (-1)) gi_192_5 gk_83 (by decide) (by omega) (e83) ?_
  refine z_pushJ gp_192_6 ?_
  refine z_icmp_neF gi_192_7 zrn_1 zrn_1 (by decide) ?_
  refine z_pushJ gp_192_10 ?_
  refine z_goto gi_192_12 ?_
  refine z_iret gi_192_32 gr_192 ?_
  show zW _ _ _ _ _ _ _ _ _ _
  refine z_if_geF gi_210_14 zrn_11 (by decide) ?_
  refine z_aload0 gi_210_17 ?_
  refine z_iload1 gi_210_18 ?_
  refine z_cV1 gi_210_19 gk_50 go_192 (Nat.le_of_ble_eq_true rfl) gc_192_RI ?_
  refine z_aload0 gi_192_0 ?_
  refine z_getR (r := 83) gi_192_1 gk_50 (hRr _ rm_50_58 (by decide)) ?_
  refine z_iload1 gi_192_4 ?_
  refine z_iald (v := (-1)) gi_192_5 gk_83 (by decide) (by omega) (e83) ?_
  refine z_pushJ gp_192_6 ?_
  refine z_icmp_neF gi_192_7 zrn_1 zrn_1 (by decide) ?_
  refine z_pushJ gp_192_10 ?_
  refine z_goto gi_192_12 ?_
  refine z_iret gi_192_32 gr_192 ?_
  show zW _ _ _ _ _ _ _ _ _ _
  refine z_iret gi_210_22 gr_210 ?_
  refine ⟨?_, ?_⟩
  · first | rfl | exact congrArg (fun v => some (zi v)) (by omega) | (exfalso; omega)
  · exact hr
theorem st_dead_1 {X : Nat × (Nat → Int32)} {d : Nat} {J M : zA} {R : zR} {s : Int} (hr : Rel X J M R) (hs : -2147483648 ≤ s ∧ s < 2147483648) (hs6 : 0 ≤ s ∧ s < 6) (hh : J (38 + 2 * s.toNat) 0 = 1) : zW X (d + 20) 117 0 (gEn 117 [(.ref 0), (zi s)]) [] J M R (stP X (d + 20) 210 [(zi s)]) := by
  have hr0 := hr
  obtain ⟨hR, hG, hY, hD, hP, hC, hAc, hS, hTp, hX, hW⟩ := hr0
  have hRr : zRoR R := zRoR_of hR
  have hY0 := hY
  obtain ⟨y1, y2, y3⟩ := hY0
  have yn := zNn y3
  have hA0 := hAc
  obtain ⟨a1, a2, a3, a4, a5, a6⟩ := hA0
  have e83 : J 83 s = J (38 + 2 * s.toNat) 1 := (hS s hs6.1 hs6.2).1.symm.trans (cH_1 hh)
  have s3 : 0 ≤ J (38 + 2 * s.toNat) 2 ∧ J (38 + 2 * s.toNat) 2 ≤ 4 := (hS s hs6.1 hs6.2).2.2.1
  have s4 : 0 ≤ J (38 + 2 * s.toNat) 3 ∧ J (38 + 2 * s.toNat) 3 ≤ 60 := (hS s hs6.1 hs6.2).2.2.2.1
  have s5 : 0 ≤ J (38 + 2 * s.toNat) 1 ∧ J (38 + 2 * s.toNat) 1 < J 34 1 := (hS s hs6.1 hs6.2).2.2.2.2.1 hh
  show zW _ _ _ _ [some (.ref 0), some (zi s), none, none] _ _ _ _ _
  refine z_iload1 gi_117_0 ?_
  refine z_cS1 gi_117_1 (Nat.le_of_ble_eq_true rfl) gc_143_I ?_
  refine z_iload0 gi_143_0 ?_
  refine z_if_ltF gi_143_1 (by omega) (by omega) ?_
  refine z_iload0 gi_143_4 ?_
  refine z_pushJ gp_143_5 ?_
  refine z_icmp_geF gi_143_7 (by omega) zr_6 (by omega) ?_
  refine z_pushJ gp_143_10 ?_
  refine z_goto gi_143_11 ?_
  refine z_bret1 gi_143_15 gr_143 ?_
  show zW _ _ _ _ _ _ _ _ _ _
  refine z_if_neT gi_117_4 zr_1 (by decide) ?_
  refine z_aload0 gi_117_9 ?_
  refine z_getR (r := 10) gi_117_10 gk_0 (hR _ rm_0_2) ?_
  refine z_aload0 gi_117_13 ?_
  refine z_getR (r := 37) gi_117_14 gk_0 (hR _ rm_0_11) ?_
  refine z_iload1 gi_117_17 ?_
  refine z_aald (r := 38 + 2 * s.toNat) gi_117_18 rfl (by decide) (by omega) (rr_shelf hR (by omega)) ?_
  refine z_callVi (As := [_]) (le := [some _, some _, none, none, none]) gi_117_19 rfl gk_10 (Nat.le_of_ble_eq_true rfl) (Nat.le_of_ble_eq_true rfl) rfl ?_
  refine z_aload1 gi_78_0 ?_
  refine z_callVi (As := []) (le := [some _]) gi_78_1 rfl (zk_shelf (by omega)) (Nat.le_of_ble_eq_true rfl) (Nat.le_of_ble_eq_true rfl) rfl ?_
  refine z_aload0 gi_69_0 ?_
  refine z_getI (v := 1) gi_69_1 (zk_shelf (by omega)) (hh) ?_
  refine z_if_neT gi_69_4 zr_1 (by decide) ?_
  refine z_aload0 gi_69_10 ?_
  refine z_callVi (As := []) (le := [some _]) gi_69_11 rfl (zk_shelf (by omega)) (Nat.le_of_ble_eq_true rfl) (Nat.le_of_ble_eq_true rfl) rfl ?_
  refine z_aload0 gi_64_0 ?_
  refine z_getI (v := 1) gi_64_1 (zk_shelf (by omega)) (hh) ?_
  refine z_pushJ gp_64_4 ?_
  refine z_icmp_neT gi_64_5 zr_1 zr_2 (by decide) ?_
  refine z_pushJ gp_64_19 ?_
  refine z_bret0 gi_64_20 gr_64 ?_
  show zW _ _ _ _ _ _ _ _ _ _
  refine z_if_eqT gi_69_14 zr_0 (by decide) ?_
  refine z_pushJ gp_69_21 ?_
  refine z_iret gi_69_23 gr_69 ?_
  show zW _ _ _ _ _ _ _ _ _ _
  refine z_istore (ls1 := [some (.ref 10), some (.ref (38 + 2 * s.toNat)), some (zi (-12)), none, none]) gi_78_4 rfl ?_
  refine z_iload2 gi_78_5 ?_
  refine z_if_geF gi_78_6 zrn_12 (by decide) ?_
  refine z_iload2 gi_78_9 ?_
  refine z_iret gi_78_10 gr_78 ?_
  show zW _ _ _ _ _ _ _ _ _ _
  refine z_istore (ls1 := [some (.ref 0), some (zi s), some (zi (-12)), none]) gi_117_22 rfl ?_
  refine z_iload2 gi_117_23 ?_
  refine z_if_geF gi_117_24 zrn_12 (by decide) ?_
  refine z_iload2 gi_117_27 ?_
  refine z_iret gi_117_28 gr_117 ?_
  refine ⟨_, rfl, ?_⟩
  show zW _ _ _ _ [some (.ref 50), some (zi s)] _ _ _ _ _
  refine z_iload1 gi_210_0 ?_
  refine z_cS1 gi_210_1 (Nat.le_of_ble_eq_true rfl) gc_248_I ?_
  refine z_iload0 gi_248_0 ?_
  refine z_pushJ gp_248_1 ?_
  refine z_pushJ gp_248_2 ?_
  refine z_cS3 gi_248_3 (Nat.le_of_ble_eq_true rfl) gc_148_III ?_
  refine z_iload0 gi_148_0 ?_
  refine z_iload1 gi_148_1 ?_
  refine z_icmp_ltF gi_148_2 (by omega) zr_0 (by omega) ?_
  refine z_iload0 gi_148_5 ?_
  refine z_iload2 gi_148_6 ?_
  refine z_icmp_gtF gi_148_7 (by omega) zr_5 (by omega) ?_
  refine z_pushJ gp_148_10 ?_
  refine z_goto gi_148_11 ?_
  refine z_bret1 gi_148_15 gr_148 ?_
  show zW _ _ _ _ _ _ _ _ _ _
  refine z_bret1 gi_248_6 gr_248 ?_
  show zW _ _ _ _ _ _ _ _ _ _
  refine z_if_neT gi_210_4 zr_1 (by decide) ?_
  refine z_aload0 gi_210_9 ?_
  refine z_iload1 gi_210_10 ?_
  refine z_cV1 gi_210_11 gk_50 go_192 (Nat.le_of_ble_eq_true rfl) gc_192_RI ?_
  refine z_aload0 gi_192_0 ?_
  refine z_getR (r := 83) gi_192_1 gk_50 (hRr _ rm_50_58 (by decide)) ?_
  refine z_iload1 gi_192_4 ?_
  refine z_iald (v := J (38 + 2 * s.toNat) 1) gi_192_5 gk_83 (by decide) (by omega) (e83) ?_
  refine z_pushJ gp_192_6 ?_
  refine z_icmp_ne gi_192_7 (by omega) zrn_1 (fun h1 => ?_) (fun h1 => ?_)
  · refine z_aload0 gi_192_15 ?_
    refine z_getR (r := 83) gi_192_16 gk_50 (hRr _ rm_50_58 (by decide)) ?_
    refine z_iload1 gi_192_19 ?_
    refine z_iald (v := J (38 + 2 * s.toNat) 1) gi_192_20 gk_83 (by decide) (by omega) (e83) ?_
    refine z_pushJ gp_192_21 ?_
    refine z_icmp_ne gi_192_23 (by omega) zrn_2 (fun h2 => ?_) (fun h2 => ?_)
    · refine z_pushJ gp_192_30 ?_
      refine z_iret gi_192_32 gr_192 ?_
      show zW _ _ _ _ _ _ _ _ _ _
      refine z_if_geF gi_210_14 zrn_12 (by decide) ?_
      refine z_aload0 gi_210_17 ?_
      refine z_iload1 gi_210_18 ?_
      refine z_cV1 gi_210_19 gk_50 go_192 (Nat.le_of_ble_eq_true rfl) gc_192_RI ?_
      refine z_aload0 gi_192_0 ?_
      refine z_getR (r := 83) gi_192_1 gk_50 (hRr _ rm_50_58 (by decide)) ?_
      refine z_iload1 gi_192_4 ?_
      refine z_iald (v := J (38 + 2 * s.toNat) 1) gi_192_5 gk_83 (by decide) (by omega) (e83) ?_
      refine z_pushJ gp_192_6 ?_
      refine z_icmp_ne gi_192_7 (by omega) zrn_1 (fun h3 => ?_) (fun h3 => ?_)
      · refine z_aload0 gi_192_15 ?_
        refine z_getR (r := 83) gi_192_16 gk_50 (hRr _ rm_50_58 (by decide)) ?_
        refine z_iload1 gi_192_19 ?_
        refine z_iald (v := J (38 + 2 * s.toNat) 1) gi_192_20 gk_83 (by decide) (by omega) (e83) ?_
        refine z_pushJ gp_192_21 ?_
        refine z_icmp_ne gi_192_23 (by omega) zrn_2 (fun h4 => ?_) (fun h4 => ?_)
        · refine z_pushJ gp_192_30 ?_
          refine z_iret gi_192_32 gr_192 ?_
          show zW _ _ _ _ _ _ _ _ _ _
          refine z_iret gi_210_22 gr_210 ?_
          refine ⟨?_, ?_⟩
          · first | rfl | exact congrArg (fun v => some (zi v)) (by omega) | (exfalso; omega)
          · exact hr
        · refine z_pushJ gp_192_26 ?_
          refine z_goto gi_192_27 ?_
          refine z_iret gi_192_32 gr_192 ?_
          show zW _ _ _ _ _ _ _ _ _ _
          refine z_iret gi_210_22 gr_210 ?_
          refine ⟨?_, ?_⟩
          · first | rfl | exact congrArg (fun v => some (zi v)) (by omega) | (exfalso; omega)
          · exact hr
      · refine z_pushJ gp_192_10 ?_
        refine z_goto gi_192_12 ?_
        refine z_iret gi_192_32 gr_192 ?_
        show zW _ _ _ _ _ _ _ _ _ _
        refine z_iret gi_210_22 gr_210 ?_
        refine ⟨?_, ?_⟩
        · first | rfl | exact congrArg (fun v => some (zi v)) (by omega) | (exfalso; omega)
        · exact hr
    · refine z_pushJ gp_192_26 ?_
      refine z_goto gi_192_27 ?_
      refine z_iret gi_192_32 gr_192 ?_
      show zW _ _ _ _ _ _ _ _ _ _
      refine z_if_geT gi_210_14 zr_0 (by decide) ?_
      refine z_aload0 gi_210_23 ?_
      refine z_iload1 gi_210_24 ?_
      refine z_pushJ gp_210_25 ?_
      exfalso
      omega
  · refine z_pushJ gp_192_10 ?_
    refine z_goto gi_192_12 ?_
    refine z_iret gi_192_32 gr_192 ?_
    show zW _ _ _ _ _ _ _ _ _ _
    refine z_if_geF gi_210_14 zrn_11 (by decide) ?_
    refine z_aload0 gi_210_17 ?_
    refine z_iload1 gi_210_18 ?_
    refine z_cV1 gi_210_19 gk_50 go_192 (Nat.le_of_ble_eq_true rfl) gc_192_RI ?_
    refine z_aload0 gi_192_0 ?_
    refine z_getR (r := 83) gi_192_1 gk_50 (hRr _ rm_50_58 (by decide)) ?_
    refine z_iload1 gi_192_4 ?_
    refine z_iald (v := J (38 + 2 * s.toNat) 1) gi_192_5 gk_83 (by decide) (by omega) (e83) ?_
    refine z_pushJ gp_192_6 ?_
    refine z_icmp_neF gi_192_7 (by omega) zrn_1 (by omega) ?_
    refine z_pushJ gp_192_10 ?_
    refine z_goto gi_192_12 ?_
    refine z_iret gi_192_32 gr_192 ?_
    show zW _ _ _ _ _ _ _ _ _ _
    refine z_iret gi_210_22 gr_210 ?_
    refine ⟨?_, ?_⟩
    · first | rfl | exact congrArg (fun v => some (zi v)) (by omega) | (exfalso; omega)
    · exact hr
theorem st_dead_2 {X : Nat × (Nat → Int32)} {d : Nat} {J M : zA} {R : zR} {s : Int} (hr : Rel X J M R) (hs : -2147483648 ≤ s ∧ s < 2147483648) (hs6 : 0 ≤ s ∧ s < 6) (hh : J (38 + 2 * s.toNat) 0 = 2) (hso : ¬ J (38 + 2 * s.toNat) 2 = 0) : zW X (d + 20) 117 0 (gEn 117 [(.ref 0), (zi s)]) [] J M R (stP X (d + 20) 210 [(zi s)]) := by
  have hr0 := hr
  obtain ⟨hR, hG, hY, hD, hP, hC, hAc, hS, hTp, hX, hW⟩ := hr0
  have hRr : zRoR R := zRoR_of hR
  have hY0 := hY
  obtain ⟨y1, y2, y3⟩ := hY0
  have yn := zNn y3
  have hA0 := hAc
  obtain ⟨a1, a2, a3, a4, a5, a6⟩ := hA0
  have e83 : J 83 s = -2 - J (38 + 2 * s.toNat) 2 := (hS s hs6.1 hs6.2).1.symm.trans (cH_2 hh)
  have s3 : 0 ≤ J (38 + 2 * s.toNat) 2 ∧ J (38 + 2 * s.toNat) 2 ≤ 4 := (hS s hs6.1 hs6.2).2.2.1
  have s4 : 0 ≤ J (38 + 2 * s.toNat) 3 ∧ J (38 + 2 * s.toNat) 3 ≤ 60 := (hS s hs6.1 hs6.2).2.2.2.1
  have s6 := (hS s hs6.1 hs6.2).2.2.2.2.2 hh
  have s7 : J 84 s = J (38 + 2 * s.toNat) 3 := s6.1.symm
  have s8 : ∀ i, 0 ≤ i → i < J (38 + 2 * s.toNat) 3 → M (39 + 2 * s.toNat) i = M 85 (60 * s + i) := s6.2.1
  show zW _ _ _ _ [some (.ref 0), some (zi s), none, none] _ _ _ _ _
  refine z_iload1 gi_117_0 ?_
  refine z_cS1 gi_117_1 (Nat.le_of_ble_eq_true rfl) gc_143_I ?_
  refine z_iload0 gi_143_0 ?_
  refine z_if_ltF gi_143_1 (by omega) (by omega) ?_
  refine z_iload0 gi_143_4 ?_
  refine z_pushJ gp_143_5 ?_
  refine z_icmp_geF gi_143_7 (by omega) zr_6 (by omega) ?_
  refine z_pushJ gp_143_10 ?_
  refine z_goto gi_143_11 ?_
  refine z_bret1 gi_143_15 gr_143 ?_
  show zW _ _ _ _ _ _ _ _ _ _
  refine z_if_neT gi_117_4 zr_1 (by decide) ?_
  refine z_aload0 gi_117_9 ?_
  refine z_getR (r := 10) gi_117_10 gk_0 (hR _ rm_0_2) ?_
  refine z_aload0 gi_117_13 ?_
  refine z_getR (r := 37) gi_117_14 gk_0 (hR _ rm_0_11) ?_
  refine z_iload1 gi_117_17 ?_
  refine z_aald (r := 38 + 2 * s.toNat) gi_117_18 rfl (by decide) (by omega) (rr_shelf hR (by omega)) ?_
  refine z_callVi (As := [_]) (le := [some _, some _, none, none, none]) gi_117_19 rfl gk_10 (Nat.le_of_ble_eq_true rfl) (Nat.le_of_ble_eq_true rfl) rfl ?_
  refine z_aload1 gi_78_0 ?_
  refine z_callVi (As := []) (le := [some _]) gi_78_1 rfl (zk_shelf (by omega)) (Nat.le_of_ble_eq_true rfl) (Nat.le_of_ble_eq_true rfl) rfl ?_
  refine z_aload0 gi_69_0 ?_
  refine z_getI (v := 2) gi_69_1 (zk_shelf (by omega)) (hh) ?_
  refine z_if_neT gi_69_4 zr_2 (by decide) ?_
  refine z_aload0 gi_69_10 ?_
  refine z_callVi (As := []) (le := [some _]) gi_69_11 rfl (zk_shelf (by omega)) (Nat.le_of_ble_eq_true rfl) (Nat.le_of_ble_eq_true rfl) rfl ?_
  refine z_aload0 gi_64_0 ?_
  refine z_getI (v := 2) gi_64_1 (zk_shelf (by omega)) (hh) ?_
  refine z_pushJ gp_64_4 ?_
  refine z_icmp_neF gi_64_5 zr_2 zr_2 (by decide) ?_
  refine z_aload0 gi_64_8 ?_
  refine z_getI (v := J (38 + 2 * s.toNat) 2) gi_64_9 (zk_shelf (by omega)) (rfl) ?_
  refine z_if_neT gi_64_12 (by omega) (by omega) ?_
  refine z_pushJ gp_64_19 ?_
  refine z_bret0 gi_64_20 gr_64 ?_
  show zW _ _ _ _ _ _ _ _ _ _
  refine z_if_eqT gi_69_14 zr_0 (by decide) ?_
  refine z_pushJ gp_69_21 ?_
  refine z_iret gi_69_23 gr_69 ?_
  show zW _ _ _ _ _ _ _ _ _ _
  refine z_istore (ls1 := [some (.ref 10), some (.ref (38 + 2 * s.toNat)), some (zi (-12)), none, none]) gi_78_4 rfl ?_
  refine z_iload2 gi_78_5 ?_
  refine z_if_geF gi_78_6 zrn_12 (by decide) ?_
  refine z_iload2 gi_78_9 ?_
  refine z_iret gi_78_10 gr_78 ?_
  show zW _ _ _ _ _ _ _ _ _ _
  refine z_istore (ls1 := [some (.ref 0), some (zi s), some (zi (-12)), none]) gi_117_22 rfl ?_
  refine z_iload2 gi_117_23 ?_
  refine z_if_geF gi_117_24 zrn_12 (by decide) ?_
  refine z_iload2 gi_117_27 ?_
  refine z_iret gi_117_28 gr_117 ?_
  refine ⟨_, rfl, ?_⟩
  show zW _ _ _ _ [some (.ref 50), some (zi s)] _ _ _ _ _
  refine z_iload1 gi_210_0 ?_
  refine z_cS1 gi_210_1 (Nat.le_of_ble_eq_true rfl) gc_248_I ?_
  refine z_iload0 gi_248_0 ?_
  refine z_pushJ gp_248_1 ?_
  refine z_pushJ gp_248_2 ?_
  refine z_cS3 gi_248_3 (Nat.le_of_ble_eq_true rfl) gc_148_III ?_
  refine z_iload0 gi_148_0 ?_
  refine z_iload1 gi_148_1 ?_
  refine z_icmp_ltF gi_148_2 (by omega) zr_0 (by omega) ?_
  refine z_iload0 gi_148_5 ?_
  refine z_iload2 gi_148_6 ?_
  refine z_icmp_gtF gi_148_7 (by omega) zr_5 (by omega) ?_
  refine z_pushJ gp_148_10 ?_
  refine z_goto gi_148_11 ?_
  refine z_bret1 gi_148_15 gr_148 ?_
  show zW _ _ _ _ _ _ _ _ _ _
  refine z_bret1 gi_248_6 gr_248 ?_
  show zW _ _ _ _ _ _ _ _ _ _
  refine z_if_neT gi_210_4 zr_1 (by decide) ?_
  refine z_aload0 gi_210_9 ?_
  refine z_iload1 gi_210_10 ?_
  refine z_cV1 gi_210_11 gk_50 go_192 (Nat.le_of_ble_eq_true rfl) gc_192_RI ?_
  refine z_aload0 gi_192_0 ?_
  refine z_getR (r := 83) gi_192_1 gk_50 (hRr _ rm_50_58 (by decide)) ?_
  refine z_iload1 gi_192_4 ?_
  refine z_iald (v := (-2) - (J (38 + 2 * s.toNat) 2)) gi_192_5 gk_83 (by decide) (by omega) (e83) ?_
  refine z_pushJ gp_192_6 ?_
  refine z_icmp_neT gi_192_7 (by omega) zrn_1 (by omega) ?_
  refine z_aload0 gi_192_15 ?_
  refine z_getR (r := 83) gi_192_16 gk_50 (hRr _ rm_50_58 (by decide)) ?_
  refine z_iload1 gi_192_19 ?_
  refine z_iald (v := (-2) - (J (38 + 2 * s.toNat) 2)) gi_192_20 gk_83 (by decide) (by omega) (e83) ?_
  refine z_pushJ gp_192_21 ?_
  refine z_icmp_neT gi_192_23 (by omega) zrn_2 (by omega) ?_
  refine z_pushJ gp_192_30 ?_
  refine z_iret gi_192_32 gr_192 ?_
  show zW _ _ _ _ _ _ _ _ _ _
  refine z_if_geF gi_210_14 zrn_12 (by decide) ?_
  refine z_aload0 gi_210_17 ?_
  refine z_iload1 gi_210_18 ?_
  refine z_cV1 gi_210_19 gk_50 go_192 (Nat.le_of_ble_eq_true rfl) gc_192_RI ?_
  refine z_aload0 gi_192_0 ?_
  refine z_getR (r := 83) gi_192_1 gk_50 (hRr _ rm_50_58 (by decide)) ?_
  refine z_iload1 gi_192_4 ?_
  refine z_iald (v := (-2) - (J (38 + 2 * s.toNat) 2)) gi_192_5 gk_83 (by decide) (by omega) (e83) ?_
  refine z_pushJ gp_192_6 ?_
  refine z_icmp_neT gi_192_7 (by omega) zrn_1 (by omega) ?_
  refine z_aload0 gi_192_15 ?_
  refine z_getR (r := 83) gi_192_16 gk_50 (hRr _ rm_50_58 (by decide)) ?_
  refine z_iload1 gi_192_19 ?_
  refine z_iald (v := (-2) - (J (38 + 2 * s.toNat) 2)) gi_192_20 gk_83 (by decide) (by omega) (e83) ?_
  refine z_pushJ gp_192_21 ?_
  refine z_icmp_neT gi_192_23 (by omega) zrn_2 (by omega) ?_
  refine z_pushJ gp_192_30 ?_
  refine z_iret gi_192_32 gr_192 ?_
  show zW _ _ _ _ _ _ _ _ _ _
  refine z_iret gi_210_22 gr_210 ?_
  refine ⟨?_, ?_⟩
  · first | rfl | exact congrArg (fun v => some (zi v)) (by omega) | (exfalso; omega)
  · exact hr
theorem st_dead_m {X : Nat × (Nat → Int32)} {d : Nat} {J M : zA} {R : zR} {s : Int} (hr : Rel X J M R) (hs : -2147483648 ≤ s ∧ s < 2147483648) (hs6 : 0 ≤ s ∧ s < 6) (hh : J (38 + 2 * s.toNat) 0 = 2) (hso : J (38 + 2 * s.toNat) 2 = 0) : zW X (d + 20) 117 0 (gEn 117 [(.ref 0), (zi s)]) [] J M R (stP X (d + 20) 210 [(zi s)]) := by
  have hr0 := hr
  obtain ⟨hR, hG, hY, hD, hP, hC, hAc, hS, hTp, hX, hW⟩ := hr0
  have hRr : zRoR R := zRoR_of hR
  have hY0 := hY
  obtain ⟨y1, y2, y3⟩ := hY0
  have yn := zNn y3
  have e83 : J 83 s = -2 - J (38 + 2 * s.toNat) 2 := (hS s hs6.1 hs6.2).1.symm.trans (cH_2 hh)
  have s3 : 0 ≤ J (38 + 2 * s.toNat) 2 ∧ J (38 + 2 * s.toNat) 2 ≤ 4 := (hS s hs6.1 hs6.2).2.2.1
  have s4 : 0 ≤ J (38 + 2 * s.toNat) 3 ∧ J (38 + 2 * s.toNat) 3 ≤ 60 := (hS s hs6.1 hs6.2).2.2.2.1
  have s6 := (hS s hs6.1 hs6.2).2.2.2.2.2 hh
  have s7 : J 84 s = J (38 + 2 * s.toNat) 3 := s6.1.symm
  have s8 : ∀ i, 0 ≤ i → i < J (38 + 2 * s.toNat) 3 → M (39 + 2 * s.toNat) i = M 85 (60 * s + i) := s6.2.1
  have e83n : J 83 s = -2 := e83.trans (by omega)
  have hbr := s6.2.2 hso
  have hX0 := hX
  obtain ⟨T, t1, t2, t3⟩ := hX0
  show zW _ _ _ _ [some (.ref 0), some (zi s), none, none] _ _ _ _ _
  refine z_iload1 gi_117_0 ?_
  refine z_cS1 gi_117_1 (Nat.le_of_ble_eq_true rfl) gc_143_I ?_
  refine z_iload0 gi_143_0 ?_
  refine z_if_ltF gi_143_1 (by omega) (by omega) ?_
  refine z_iload0 gi_143_4 ?_
  refine z_pushJ gp_143_5 ?_
  refine z_icmp_geF gi_143_7 (by omega) zr_6 (by omega) ?_
  refine z_pushJ gp_143_10 ?_
  refine z_goto gi_143_11 ?_
  refine z_bret1 gi_143_15 gr_143 ?_
  show zW _ _ _ _ _ _ _ _ _ _
  refine z_if_neT gi_117_4 zr_1 (by decide) ?_
  refine z_aload0 gi_117_9 ?_
  refine z_getR (r := 10) gi_117_10 gk_0 (hR _ rm_0_2) ?_
  refine z_aload0 gi_117_13 ?_
  refine z_getR (r := 37) gi_117_14 gk_0 (hR _ rm_0_11) ?_
  refine z_iload1 gi_117_17 ?_
  refine z_aald (r := 38 + 2 * s.toNat) gi_117_18 rfl (by decide) (by omega) (rr_shelf hR (by omega)) ?_
  have hk1 : zK kP J J := zK_r
  refine z_callV (As := [_]) _ gi_117_19 rfl rfl (Nat.le_of_ble_eq_true rfl) (Nat.le_of_ble_eq_true rfl) (follow_k (J := J) (N := (cN J)) (n := J 8 2) (T := T) (s := s) (w := J 10 12) (z := (J (38 + 2 * s.toNat) 3)) (b := (fun i => M (39 + 2 * s.toNat) i)) hR (cN_P hk1) (hk1 8 2 rfl) y3 (LawC_P t2 hk1) t1 hs6 (fun _ _ _ => rfl) hbr (hk1 _ 3 (kP_b (by omega))) s4 ((hk1 _ 0 (kP_b (by omega))).trans hh) ((hk1 _ 2 (kP_b (by omega))).trans hso) rfl hW.1) (fun r J2 M2 R2 hr2 => ?_)
  obtain ⟨rfl, K, hE, hK30, hk3, hc2, hw2, eM, eR⟩ := hr2
  obtain rfl : M = M2 := eM.symm
  obtain rfl : R = R2 := eR.symm
  show zW _ _ _ _ _ (_ :: _) _ _ _ _
  have hk2 := zK_t hk1 hk3
  have hn2 : J2 8 2 = J 8 2 := hk2 8 2 rfl
  have hks : zK kS J J2 := kS_Pw hk3 (hc2.2.2.2.2.1.trans (Eq.symm rfl))
  obtain ⟨S, eS⟩ : ∃ S, S = tS T (cN J) (J 8 2) (fun i => M (39 + 2 * s.toNat) i) (J 10 12) K := ⟨_, rfl⟩
  have hi0 := (tS_r y3 K hE.1).1
  have hz0 := tS_z K hE.1
  rw [← eS] at hc2 hi0 hz0
  have hi := tI_30 hi0 (by omega)
  have qi := hi.2.2
  have hfc : ∀ p, 0 ≤ p → p < 8 → J2 11 p = tsh S p := fun p q1 q2 => hc2.2.2.2.2.2.2.1 p q1 q2
  refine z_istore (ls1 := [some (.ref 0), some (zi s), some (zi 0), none]) gi_117_22 rfl ?_
  refine z_iload2 gi_117_23 ?_
  refine z_if_geT gi_117_24 zr_0 (by decide) ?_
  refine z_aload0 rfl ?_
  refine z_getR (r := 10) rfl gk_0 (hR _ rm_0_2) ?_
  refine z_callVP (As := []) (v := sGone (cN J) (J 8 2) + sm (tsh S) (J 8 2).toNat) rfl rfl gk_10 (Nat.le_of_ble_eq_true rfl) (Nat.le_of_ble_eq_true rfl) (by rw [← sm_z yn hz0]; exact lftC_k hR (A := J2) zK_r (cN_P hk2) hn2 y3 hfc hi.1) ?_
  have qm := sm_r hi.1 (J 8 2).toNat
  have qg := sGone_r y3
  refine z_istore (ls1 := [some (.ref 0), some (zi s), some (zi 0), some (zi (sGone (cN J) (J 8 2) + sm (tsh S) (J 8 2).toNat))]) rfl rfl ?_
  refine z_aload0 rfl ?_
  refine z_getR (r := 10) rfl gk_0 (hR _ rm_0_2) ?_
  refine z_getI (v := tat S) rfl gk_10 (hc2.2.2.2.1) ?_
  refine z_if_lt rfl (by omega) (fun h1 => ?_) (fun h1 => ?_)
  · refine z_pushJ gp_117_51 ?_
    refine z_iret gi_117_53 gr_117 ?_
    refine ⟨_, rfl, ?_⟩
    show zW _ _ _ _ [some (.ref 50), some (zi s)] _ _ _ _ _
    refine z_iload1 gi_210_0 ?_
    refine z_cS1 gi_210_1 (Nat.le_of_ble_eq_true rfl) gc_248_I ?_
    refine z_iload0 gi_248_0 ?_
    refine z_pushJ gp_248_1 ?_
    refine z_pushJ gp_248_2 ?_
    refine z_cS3 gi_248_3 (Nat.le_of_ble_eq_true rfl) gc_148_III ?_
    refine z_iload0 gi_148_0 ?_
    refine z_iload1 gi_148_1 ?_
    refine z_icmp_ltF gi_148_2 (by omega) zr_0 (by omega) ?_
    refine z_iload0 gi_148_5 ?_
    refine z_iload2 gi_148_6 ?_
    refine z_icmp_gtF gi_148_7 (by omega) zr_5 (by omega) ?_
    refine z_pushJ gp_148_10 ?_
    refine z_goto gi_148_11 ?_
    refine z_bret1 gi_148_15 gr_148 ?_
    show zW _ _ _ _ _ _ _ _ _ _
    refine z_bret1 gi_248_6 gr_248 ?_
    show zW _ _ _ _ _ _ _ _ _ _
    refine z_if_neT gi_210_4 zr_1 (by decide) ?_
    refine z_aload0 gi_210_9 ?_
    refine z_iload1 gi_210_10 ?_
    refine z_cV1 gi_210_11 gk_50 go_192 (Nat.le_of_ble_eq_true rfl) gc_192_RI ?_
    refine z_aload0 gi_192_0 ?_
    refine z_getR (r := 83) gi_192_1 gk_50 (hRr _ rm_50_58 (by decide)) ?_
    refine z_iload1 gi_192_4 ?_
    refine z_iald (v := (-2)) gi_192_5 gk_83 (by decide) (by omega) ((hks 83 _ rfl).trans e83n) ?_
    refine z_pushJ gp_192_6 ?_
    refine z_icmp_neT gi_192_7 zrn_2 zrn_1 (by decide) ?_
    refine z_aload0 gi_192_15 ?_
    refine z_getR (r := 83) gi_192_16 gk_50 (hRr _ rm_50_58 (by decide)) ?_
    refine z_iload1 gi_192_19 ?_
    refine z_iald (v := (-2)) gi_192_20 gk_83 (by decide) (by omega) ((hks 83 _ rfl).trans e83n) ?_
    refine z_pushJ gp_192_21 ?_
    refine z_icmp_neF gi_192_23 zrn_2 zrn_2 (by decide) ?_
    refine z_pushJ gp_192_26 ?_
    refine z_goto gi_192_27 ?_
    refine z_iret gi_192_32 gr_192 ?_
    show zW _ _ _ _ _ _ _ _ _ _
    refine z_if_geT gi_210_14 zr_0 (by decide) ?_
    refine z_aload0 gi_210_23 ?_
    refine z_iload1 gi_210_24 ?_
    refine z_pushJ gp_210_25 ?_
    have hV := zK_m hks kV_S
    refine z_callV (As := [_, _]) _ gi_210_27 rfl rfl (Nat.le_of_ble_eq_true rfl) (Nat.le_of_ble_eq_true rfl) (goRound_k (N := (cN J)) (n := J 8 2) (T := T) (s := s) (z := (J (38 + 2 * s.toNat) 3)) (b := (fun i => M (39 + 2 * s.toNat) i)) (w := 0) (most := 60) hRr ((rN_V hV).trans y1.symm) ((hks 50 1 rfl).trans y2.symm) y3 (LawR_V t3 hV) t1 hs6 (fun i i1 i2 => (s8 i i1 i2).symm) hbr ((hks 84 _ rfl).trans s7) s4 (by decide) ((hks 50 35 rfl).trans hW.2) (by decide)) (fun r J4 M4 R4 hr4 => ?_)
    obtain ⟨K2, rfl, hO, hOr, hK2, hq4, hr4, eM, eR⟩ := hr4
    obtain rfl : M = M4 := eM.symm
    obtain rfl : R = R4 := eR.symm
    show zW _ _ _ _ _ (_ :: _) _ _ _ _
    have eK : K2 = K := tEnd_w ⟨hO, (by rcases hOr with h | h; (exfalso; omega); exact h)⟩ hE
    rw [eK] at hr4
    have hg : rTg J4 (J 8 2) S (sGone (cN J) (J 8 2)) := rT_w eS hr4
    have hs4 := zK_t hks (zK_m hq4 kS_Q)
    have hn4 : J4 50 1 = J 8 2 := (hs4 50 1 rfl).trans y2.symm
    have hfr : ∀ p, 0 ≤ p → p < J 8 2 → J4 69 p = tsh S p := fun p q1 q2 => hg.2.2.2.2.1 p q1 q2
    refine z_pop gi_210_30 rfl ?_
    refine z_aload0 gi_210_31 ?_
    refine z_getI (v := tat S) gi_210_32 gk_50 (hg.2.1) ?_
    refine z_if_ltT gi_210_35 (by omega) (by omega) ?_
    refine z_pushJ gp_210_45 ?_
    refine z_goto gi_210_47 ?_
    refine z_iret gi_210_67 gr_210 ?_
    refine ⟨?_, ?_⟩
    · first | rfl | exact congrArg (fun v => some (zi v)) (by omega) | (exfalso; omega)
    · exact Rel_S hs4 zK_r hr
  · refine z_iload3 rfl ?_
    refine z_if_gt rfl (by omega) (fun h2 => ?_) (fun h2 => ?_)
    · refine z_pushJ gp_117_54 ?_
      refine z_aload0 rfl ?_
      refine z_getR (r := 10) rfl gk_0 (hR _ rm_0_2) ?_
      refine z_getR (r := 11) rfl gk_10 (hR _ rm_10_1) ?_
      refine z_aload0 rfl ?_
      refine z_getR (r := 10) rfl gk_0 (hR _ rm_0_2) ?_
      refine z_getI (v := tat S) rfl gk_10 (hc2.2.2.2.1) ?_
      have q3 := hi.1 (tat S)
      refine z_iald (v := tsh S (tat S)) rfl gk_11 (by decide) (by omega) (hc2.2.2.2.2.2.2.1 _ (by omega) (by omega)) ?_
      refine z_imul (e := 12 * (tsh S (tat S))) rfl rfl ?_
      refine z_iload3 rfl ?_
      refine z_idiv (e := 12 * (tsh S (tat S)) / (sGone (cN J) (J 8 2) + sm (tsh S) (J 8 2).toNat)) rfl (by omega) (by omega) rfl ?_
      refine z_iret rfl gr_117 ?_
      refine ⟨_, rfl, ?_⟩
      show zW _ _ _ _ [some (.ref 50), some (zi s)] _ _ _ _ _
      refine z_iload1 gi_210_0 ?_
      refine z_cS1 gi_210_1 (Nat.le_of_ble_eq_true rfl) gc_248_I ?_
      refine z_iload0 gi_248_0 ?_
      refine z_pushJ gp_248_1 ?_
      refine z_pushJ gp_248_2 ?_
      refine z_cS3 gi_248_3 (Nat.le_of_ble_eq_true rfl) gc_148_III ?_
      refine z_iload0 gi_148_0 ?_
      refine z_iload1 gi_148_1 ?_
      refine z_icmp_ltF gi_148_2 (by omega) zr_0 (by omega) ?_
      refine z_iload0 gi_148_5 ?_
      refine z_iload2 gi_148_6 ?_
      refine z_icmp_gtF gi_148_7 (by omega) zr_5 (by omega) ?_
      refine z_pushJ gp_148_10 ?_
      refine z_goto gi_148_11 ?_
      refine z_bret1 gi_148_15 gr_148 ?_
      show zW _ _ _ _ _ _ _ _ _ _
      refine z_bret1 gi_248_6 gr_248 ?_
      show zW _ _ _ _ _ _ _ _ _ _
      refine z_if_neT gi_210_4 zr_1 (by decide) ?_
      refine z_aload0 gi_210_9 ?_
      refine z_iload1 gi_210_10 ?_
      refine z_cV1 gi_210_11 gk_50 go_192 (Nat.le_of_ble_eq_true rfl) gc_192_RI ?_
      refine z_aload0 gi_192_0 ?_
      refine z_getR (r := 83) gi_192_1 gk_50 (hRr _ rm_50_58 (by decide)) ?_
      refine z_iload1 gi_192_4 ?_
      refine z_iald (v := (-2)) gi_192_5 gk_83 (by decide) (by omega) ((hks 83 _ rfl).trans e83n) ?_
      refine z_pushJ gp_192_6 ?_
      refine z_icmp_neT gi_192_7 zrn_2 zrn_1 (by decide) ?_
      refine z_aload0 gi_192_15 ?_
      refine z_getR (r := 83) gi_192_16 gk_50 (hRr _ rm_50_58 (by decide)) ?_
      refine z_iload1 gi_192_19 ?_
      refine z_iald (v := (-2)) gi_192_20 gk_83 (by decide) (by omega) ((hks 83 _ rfl).trans e83n) ?_
      refine z_pushJ gp_192_21 ?_
      refine z_icmp_neF gi_192_23 zrn_2 zrn_2 (by decide) ?_
      refine z_pushJ gp_192_26 ?_
      refine z_goto gi_192_27 ?_
      refine z_iret gi_192_32 gr_192 ?_
      show zW _ _ _ _ _ _ _ _ _ _
      refine z_if_geT gi_210_14 zr_0 (by decide) ?_
      refine z_aload0 gi_210_23 ?_
      refine z_iload1 gi_210_24 ?_
      refine z_pushJ gp_210_25 ?_
      have hV := zK_m hks kV_S
      refine z_callV (As := [_, _]) _ gi_210_27 rfl rfl (Nat.le_of_ble_eq_true rfl) (Nat.le_of_ble_eq_true rfl) (goRound_k (N := (cN J)) (n := J 8 2) (T := T) (s := s) (z := (J (38 + 2 * s.toNat) 3)) (b := (fun i => M (39 + 2 * s.toNat) i)) (w := 0) (most := 60) hRr ((rN_V hV).trans y1.symm) ((hks 50 1 rfl).trans y2.symm) y3 (LawR_V t3 hV) t1 hs6 (fun i i1 i2 => (s8 i i1 i2).symm) hbr ((hks 84 _ rfl).trans s7) s4 (by decide) ((hks 50 35 rfl).trans hW.2) (by decide)) (fun r J4 M4 R4 hr4 => ?_)
      obtain ⟨K2, rfl, hO, hOr, hK2, hq4, hr4, eM, eR⟩ := hr4
      obtain rfl : M = M4 := eM.symm
      obtain rfl : R = R4 := eR.symm
      show zW _ _ _ _ _ (_ :: _) _ _ _ _
      have eK : K2 = K := tEnd_w ⟨hO, (by rcases hOr with h | h; (exfalso; omega); exact h)⟩ hE
      rw [eK] at hr4
      have hg : rTg J4 (J 8 2) S (sGone (cN J) (J 8 2)) := rT_w eS hr4
      have hs4 := zK_t hks (zK_m hq4 kS_Q)
      have hn4 : J4 50 1 = J 8 2 := (hs4 50 1 rfl).trans y2.symm
      have hfr : ∀ p, 0 ≤ p → p < J 8 2 → J4 69 p = tsh S p := fun p q1 q2 => hg.2.2.2.2.1 p q1 q2
      refine z_pop gi_210_30 rfl ?_
      refine z_aload0 gi_210_31 ?_
      refine z_getI (v := tat S) gi_210_32 gk_50 (hg.2.1) ?_
      refine z_if_ltF gi_210_35 (by omega) (by omega) ?_
      refine z_aload0 gi_210_38 ?_
      have qg := sGone_r y3
      refine z_callVP (As := []) (v := sGone (cN J) (J 8 2) + sm (tsh S) (J 8 2).toNat) gi_210_39 rfl gk_50 (Nat.le_of_ble_eq_true rfl) (Nat.le_of_ble_eq_true rfl) (lftR_k hRr qg hg.1 yn hn4 hfr hi.1) ?_
      have qm := sm_r hi.1 (J 8 2).toNat
      refine z_if_neT gi_210_42 (by omega) (by omega) ?_
      refine z_pushJ gp_210_50 ?_
      refine z_aload0 gi_210_52 ?_
      refine z_getR (r := 69) gi_210_53 gk_50 (hRr _ rm_50_28 (by decide)) ?_
      refine z_aload0 gi_210_56 ?_
      refine z_getI (v := tat S) gi_210_57 gk_50 (hg.2.1) ?_
      have q4 := hi.1 (tat S)
      refine z_iald (v := tsh S (tat S)) gi_210_60 gk_69 (by decide) (by omega) (hfr _ (by omega) (by omega)) ?_
      refine z_imul (e := 12 * (tsh S (tat S))) gi_210_61 rfl ?_
      refine z_aload0 gi_210_62 ?_
      have qg := sGone_r y3
      refine z_callVP (As := []) (v := sGone (cN J) (J 8 2) + sm (tsh S) (J 8 2).toNat) gi_210_63 rfl gk_50 (Nat.le_of_ble_eq_true rfl) (Nat.le_of_ble_eq_true rfl) (lftR_k hRr qg hg.1 yn hn4 hfr hi.1) ?_
      have qm := sm_r hi.1 (J 8 2).toNat
      refine z_idiv (e := 12 * (tsh S (tat S)) / (sGone (cN J) (J 8 2) + sm (tsh S) (J 8 2).toNat)) gi_210_66 (by omega) (by omega) rfl ?_
      refine z_iret gi_210_67 gr_210 ?_
      refine ⟨?_, ?_⟩
      · first | rfl | exact congrArg (fun v => some (zi v)) (by omega) | (exfalso; omega)
      · exact Rel_S hs4 zK_r hr
    · refine z_pushJ gp_117_51 ?_
      refine z_iret gi_117_53 gr_117 ?_
      refine ⟨_, rfl, ?_⟩
      show zW _ _ _ _ [some (.ref 50), some (zi s)] _ _ _ _ _
      refine z_iload1 gi_210_0 ?_
      refine z_cS1 gi_210_1 (Nat.le_of_ble_eq_true rfl) gc_248_I ?_
      refine z_iload0 gi_248_0 ?_
      refine z_pushJ gp_248_1 ?_
      refine z_pushJ gp_248_2 ?_
      refine z_cS3 gi_248_3 (Nat.le_of_ble_eq_true rfl) gc_148_III ?_
      refine z_iload0 gi_148_0 ?_
      refine z_iload1 gi_148_1 ?_
      refine z_icmp_ltF gi_148_2 (by omega) zr_0 (by omega) ?_
      refine z_iload0 gi_148_5 ?_
      refine z_iload2 gi_148_6 ?_
      refine z_icmp_gtF gi_148_7 (by omega) zr_5 (by omega) ?_
      refine z_pushJ gp_148_10 ?_
      refine z_goto gi_148_11 ?_
      refine z_bret1 gi_148_15 gr_148 ?_
      show zW _ _ _ _ _ _ _ _ _ _
      refine z_bret1 gi_248_6 gr_248 ?_
      show zW _ _ _ _ _ _ _ _ _ _
      refine z_if_neT gi_210_4 zr_1 (by decide) ?_
      refine z_aload0 gi_210_9 ?_
      refine z_iload1 gi_210_10 ?_
      refine z_cV1 gi_210_11 gk_50 go_192 (Nat.le_of_ble_eq_true rfl) gc_192_RI ?_
      refine z_aload0 gi_192_0 ?_
      refine z_getR (r := 83) gi_192_1 gk_50 (hRr _ rm_50_58 (by decide)) ?_
      refine z_iload1 gi_192_4 ?_
      refine z_iald (v := (-2)) gi_192_5 gk_83 (by decide) (by omega) ((hks 83 _ rfl).trans e83n) ?_
      refine z_pushJ gp_192_6 ?_
      refine z_icmp_neT gi_192_7 zrn_2 zrn_1 (by decide) ?_
      refine z_aload0 gi_192_15 ?_
      refine z_getR (r := 83) gi_192_16 gk_50 (hRr _ rm_50_58 (by decide)) ?_
      refine z_iload1 gi_192_19 ?_
      refine z_iald (v := (-2)) gi_192_20 gk_83 (by decide) (by omega) ((hks 83 _ rfl).trans e83n) ?_
      refine z_pushJ gp_192_21 ?_
      refine z_icmp_neF gi_192_23 zrn_2 zrn_2 (by decide) ?_
      refine z_pushJ gp_192_26 ?_
      refine z_goto gi_192_27 ?_
      refine z_iret gi_192_32 gr_192 ?_
      show zW _ _ _ _ _ _ _ _ _ _
      refine z_if_geT gi_210_14 zr_0 (by decide) ?_
      refine z_aload0 gi_210_23 ?_
      refine z_iload1 gi_210_24 ?_
      refine z_pushJ gp_210_25 ?_
      have hV := zK_m hks kV_S
      refine z_callV (As := [_, _]) _ gi_210_27 rfl rfl (Nat.le_of_ble_eq_true rfl) (Nat.le_of_ble_eq_true rfl) (goRound_k (N := (cN J)) (n := J 8 2) (T := T) (s := s) (z := (J (38 + 2 * s.toNat) 3)) (b := (fun i => M (39 + 2 * s.toNat) i)) (w := 0) (most := 60) hRr ((rN_V hV).trans y1.symm) ((hks 50 1 rfl).trans y2.symm) y3 (LawR_V t3 hV) t1 hs6 (fun i i1 i2 => (s8 i i1 i2).symm) hbr ((hks 84 _ rfl).trans s7) s4 (by decide) ((hks 50 35 rfl).trans hW.2) (by decide)) (fun r J4 M4 R4 hr4 => ?_)
      obtain ⟨K2, rfl, hO, hOr, hK2, hq4, hr4, eM, eR⟩ := hr4
      obtain rfl : M = M4 := eM.symm
      obtain rfl : R = R4 := eR.symm
      show zW _ _ _ _ _ (_ :: _) _ _ _ _
      have eK : K2 = K := tEnd_w ⟨hO, (by rcases hOr with h | h; (exfalso; omega); exact h)⟩ hE
      rw [eK] at hr4
      have hg : rTg J4 (J 8 2) S (sGone (cN J) (J 8 2)) := rT_w eS hr4
      have hs4 := zK_t hks (zK_m hq4 kS_Q)
      have hn4 : J4 50 1 = J 8 2 := (hs4 50 1 rfl).trans y2.symm
      have hfr : ∀ p, 0 ≤ p → p < J 8 2 → J4 69 p = tsh S p := fun p q1 q2 => hg.2.2.2.2.1 p q1 q2
      refine z_pop gi_210_30 rfl ?_
      refine z_aload0 gi_210_31 ?_
      refine z_getI (v := tat S) gi_210_32 gk_50 (hg.2.1) ?_
      refine z_if_ltF gi_210_35 (by omega) (by omega) ?_
      refine z_aload0 gi_210_38 ?_
      have qg := sGone_r y3
      refine z_callVP (As := []) (v := sGone (cN J) (J 8 2) + sm (tsh S) (J 8 2).toNat) gi_210_39 rfl gk_50 (Nat.le_of_ble_eq_true rfl) (Nat.le_of_ble_eq_true rfl) (lftR_k hRr qg hg.1 yn hn4 hfr hi.1) ?_
      have qm := sm_r hi.1 (J 8 2).toNat
      refine z_if_ne gi_210_42 (by omega) (fun h4 => ?_) (fun h4 => ?_)
      · refine z_pushJ gp_210_50 ?_
        refine z_aload0 gi_210_52 ?_
        refine z_getR (r := 69) gi_210_53 gk_50 (hRr _ rm_50_28 (by decide)) ?_
        refine z_aload0 gi_210_56 ?_
        refine z_getI (v := tat S) gi_210_57 gk_50 (hg.2.1) ?_
        have q5 := hi.1 (tat S)
        refine z_iald (v := tsh S (tat S)) gi_210_60 gk_69 (by decide) (by omega) (hfr _ (by omega) (by omega)) ?_
        refine z_imul (e := 12 * (tsh S (tat S))) gi_210_61 rfl ?_
        refine z_aload0 gi_210_62 ?_
        have qg := sGone_r y3
        refine z_callVP (As := []) (v := sGone (cN J) (J 8 2) + sm (tsh S) (J 8 2).toNat) gi_210_63 rfl gk_50 (Nat.le_of_ble_eq_true rfl) (Nat.le_of_ble_eq_true rfl) (lftR_k hRr qg hg.1 yn hn4 hfr hi.1) ?_
        have qm := sm_r hi.1 (J 8 2).toNat
        refine z_idiv (e := 12 * (tsh S (tat S)) / (sGone (cN J) (J 8 2) + sm (tsh S) (J 8 2).toNat)) gi_210_66 (by omega) (by omega) rfl ?_
        refine z_iret gi_210_67 gr_210 ?_
        refine ⟨?_, ?_⟩
        · first | rfl | exact congrArg (fun v => some (zi v)) (by omega) | (exfalso; omega)
        · exact Rel_S hs4 zK_r hr
      · refine z_pushJ gp_210_45 ?_
        refine z_goto gi_210_47 ?_
        refine z_iret gi_210_67 gr_210 ?_
        refine ⟨?_, ?_⟩
        · first | rfl | exact congrArg (fun v => some (zi v)) (by omega) | (exfalso; omega)
        · exact Rel_S hs4 zK_r hr
theorem st_dead {X : Nat × (Nat → Int32)} {d : Nat} {J M : zA} {R : zR} {s : Int} (hr : Rel X J M R) (hs : -2147483648 ≤ s ∧ s < 2147483648) : zW X (d + 20) 117 0 (gEn 117 [(.ref 0), (zi s)]) [] J M R (stP X (d + 20) 210 [(zi s)]) := by
  by_cases hs6 : 0 ≤ s ∧ s < 6
  · have hS : RelS J M := hr.2.2.2.2.2.2.2.1
    have h2 := (hS s hs6.1 hs6.2).2.1
    have h4 : J (38 + 2 * s.toNat) 0 = 0 ∨ J (38 + 2 * s.toNat) 0 = 1 ∨ J (38 + 2 * s.toNat) 0 = 2 := by omega
    rcases h4 with hh | hh | hh
    · exact st_dead_0 hr hs hs6 hh
    · exact st_dead_1 hr hs hs6 hh
    · by_cases hso : J (38 + 2 * s.toNat) 2 = 0
      · exact st_dead_m hr hs hs6 hh hso
      · exact st_dead_2 hr hs hs6 hh hso
  · exact st_dead_n hr hs hs6
