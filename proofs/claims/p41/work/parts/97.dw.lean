theorem tEnd_v {T : zX} {N : Int → Int → Int} {n : Int} {b : Int → Int} {z w : Int} {K : Nat} (v : Int) (h : tEnd T N n b w z K) : tEnd T N n b v z K := ⟨fun k hk => tOk_w v (h.1 k hk), fun q => h.2 (tOk_w w q)⟩
theorem st_drawn_n {X : Nat × (Nat → Int32)} {d : Nat} {J M : zA} {R : zR} {s sd c v : Int} (hr : Rel X J M R) (hs : -2147483648 ≤ s ∧ s < 2147483648) (hsd : -2147483648 ≤ sd ∧ sd < 2147483648) (hc : -2147483648 ≤ c ∧ c < 2147483648) (hv : -2147483648 ≤ v ∧ v < 2147483648) (hs6 : ¬ (0 ≤ s ∧ s < 6)) : zW X (d + 20) 123 0 (gEn 123 [(.ref 0), (zi s), (zi sd), (zi c), (zi v)]) [] J M R (stP X (d + 20) 221 [(zi s), (zi sd), (zi c), (zi v)]) := by
  have hr0 := hr
  obtain ⟨hR, hG, hY, hD, hP, hC, hAc, hS, hTp, hX, hW⟩ := hr0
  have hRr : zRoR R := zRoR_of hR
  have hY0 := hY
  obtain ⟨y1, y2, y3⟩ := hY0
  have yn := zNn y3
  show zW _ _ _ _ [some (.ref 0), some (zi s), some (zi sd), some (zi c), some (zi v), none] _ _ _ _ _
  refine z_iload1 gi_123_0 ?_
  refine z_cS1 gi_123_1 (Nat.le_of_ble_eq_true rfl) gc_143_I ?_
  refine z_iload0 gi_143_0 ?_
  refine z_if_lt gi_143_1 (by omega) (fun h1 => ?_) (fun h1 => ?_)
  · refine z_pushJ gp_143_14 ?_
    refine z_bret0 gi_143_15 gr_143 ?_
    show zW _ _ _ _ _ _ _ _ _ _
    refine z_if_eqT gi_123_4 zr_0 (by decide) ?_
    refine z_pushJ gp_123_26 ?_
    refine z_iret gi_123_27 gr_123 ?_
    refine ⟨_, rfl, ?_⟩
    show zW _ _ _ _ [some (.ref 50), some (zi s), some (zi sd), some (zi c), some (zi v), none, none, none, none, none, none] _ _ _ _ _
    refine z_iload1 gi_221_0 ?_
    refine z_cS1 gi_221_1 (Nat.le_of_ble_eq_true rfl) gc_248_I ?_
    refine z_iload0 gi_248_0 ?_
    refine z_pushJ gp_248_1 ?_
    refine z_pushJ gp_248_2 ?_
    refine z_cS3 gi_248_3 (Nat.le_of_ble_eq_true rfl) gc_148_III ?_
    refine z_iload0 gi_148_0 ?_
    refine z_iload1 gi_148_1 ?_
    refine z_icmp_ltT gi_148_2 (by omega) zr_0 (by omega) ?_
    refine z_pushJ gp_148_14 ?_
    refine z_bret0 gi_148_15 gr_148 ?_
    show zW _ _ _ _ _ _ _ _ _ _
    refine z_bret0 gi_248_6 gr_248 ?_
    show zW _ _ _ _ _ _ _ _ _ _
    refine z_if_eqT gi_221_4 zr_0 (by decide) ?_
    refine z_pushJ gp_221_27 ?_
    refine z_iret gi_221_28 gr_221 ?_
    refine ⟨?_, ?_⟩
    · first | rfl | exact congrArg (fun v => some (zi v)) (by omega) | (exfalso; omega)
    · exact hr
  · refine z_iload0 gi_143_4 ?_
    refine z_pushJ gp_143_5 ?_
    refine z_icmp_geT gi_143_7 (by omega) zr_6 (by omega) ?_
    refine z_pushJ gp_143_14 ?_
    refine z_bret0 gi_143_15 gr_143 ?_
    show zW _ _ _ _ _ _ _ _ _ _
    refine z_if_eqT gi_123_4 zr_0 (by decide) ?_
    refine z_pushJ gp_123_26 ?_
    refine z_iret gi_123_27 gr_123 ?_
    refine ⟨_, rfl, ?_⟩
    show zW _ _ _ _ [some (.ref 50), some (zi s), some (zi sd), some (zi c), some (zi v), none, none, none, none, none, none] _ _ _ _ _
    refine z_iload1 gi_221_0 ?_
    refine z_cS1 gi_221_1 (Nat.le_of_ble_eq_true rfl) gc_248_I ?_
    refine z_iload0 gi_248_0 ?_
    refine z_pushJ gp_248_1 ?_
    refine z_pushJ gp_248_2 ?_
    refine z_cS3 gi_248_3 (Nat.le_of_ble_eq_true rfl) gc_148_III ?_
    refine z_iload0 gi_148_0 ?_
    refine z_iload1 gi_148_1 ?_
    refine z_icmp_ltF gi_148_2 (by omega) zr_0 (by omega) ?_
    refine z_iload0 gi_148_5 ?_
    refine z_iload2 gi_148_6 ?_
    refine z_icmp_gtT gi_148_7 (by omega) zr_5 (by omega) ?_
    refine z_pushJ gp_148_14 ?_
    refine z_bret0 gi_148_15 gr_148 ?_
    show zW _ _ _ _ _ _ _ _ _ _
    refine z_bret0 gi_248_6 gr_248 ?_
    show zW _ _ _ _ _ _ _ _ _ _
    refine z_if_eqT gi_221_4 zr_0 (by decide) ?_
    refine z_pushJ gp_221_27 ?_
    refine z_iret gi_221_28 gr_221 ?_
    refine ⟨?_, ?_⟩
    · first | rfl | exact congrArg (fun v => some (zi v)) (by omega) | (exfalso; omega)
    · exact hr
theorem st_drawn_0 {X : Nat × (Nat → Int32)} {d : Nat} {J M : zA} {R : zR} {s sd c v : Int} (hr : Rel X J M R) (hs : -2147483648 ≤ s ∧ s < 2147483648) (hsd : -2147483648 ≤ sd ∧ sd < 2147483648) (hc : -2147483648 ≤ c ∧ c < 2147483648) (hv : -2147483648 ≤ v ∧ v < 2147483648) (hs6 : 0 ≤ s ∧ s < 6) (hh : J (38 + 2 * s.toNat) 0 = 0) : zW X (d + 20) 123 0 (gEn 123 [(.ref 0), (zi s), (zi sd), (zi c), (zi v)]) [] J M R (stP X (d + 20) 221 [(zi s), (zi sd), (zi c), (zi v)]) := by
  have hr0 := hr
  obtain ⟨hR, hG, hY, hD, hP, hC, hAc, hS, hTp, hX, hW⟩ := hr0
  have hRr : zRoR R := zRoR_of hR
  have hY0 := hY
  obtain ⟨y1, y2, y3⟩ := hY0
  have yn := zNn y3
  have hA0 := hAc
  obtain ⟨a1, a2, a3, a4, a5, a6⟩ := hA0
  have e83 : J 83 s = -1 := (hS s hs6.1 hs6.2).1.symm.trans (cH_0 hh)
  have s3 : 0 ≤ J (38 + 2 * s.toNat) 2 ∧ J (38 + 2 * s.toNat) 2 ≤ 4 := (hS s hs6.1 hs6.2).2.2.1
  have s4 : 0 ≤ J (38 + 2 * s.toNat) 3 ∧ J (38 + 2 * s.toNat) 3 ≤ 60 := (hS s hs6.1 hs6.2).2.2.2.1
  show zW _ _ _ _ [some (.ref 0), some (zi s), some (zi sd), some (zi c), some (zi v), none] _ _ _ _ _
  refine z_iload1 gi_123_0 ?_
  refine z_cS1 gi_123_1 (Nat.le_of_ble_eq_true rfl) gc_143_I ?_
  refine z_iload0 gi_143_0 ?_
  refine z_if_ltF gi_143_1 (by omega) (by omega) ?_
  refine z_iload0 gi_143_4 ?_
  refine z_pushJ gp_143_5 ?_
  refine z_icmp_geF gi_143_7 (by omega) zr_6 (by omega) ?_
  refine z_pushJ gp_143_10 ?_
  refine z_goto gi_143_11 ?_
  refine z_bret1 gi_143_15 gr_143 ?_
  show zW _ _ _ _ _ _ _ _ _ _
  refine z_if_eqF gi_123_4 zr_1 (by decide) ?_
  refine z_iload3 gi_123_7 ?_
  refine z_pushJ gp_123_8 ?_
  refine z_icmp_lt gi_123_9 (by omega) zr_1 (fun h1 => ?_) (fun h1 => ?_)
  · refine z_pushJ gp_123_26 ?_
    refine z_iret gi_123_27 gr_123 ?_
    refine ⟨_, rfl, ?_⟩
    show zW _ _ _ _ [some (.ref 50), some (zi s), some (zi sd), some (zi c), some (zi v), none, none, none, none, none, none] _ _ _ _ _
    refine z_iload1 gi_221_0 ?_
    refine z_cS1 gi_221_1 (Nat.le_of_ble_eq_true rfl) gc_248_I ?_
    refine z_iload0 gi_248_0 ?_
    refine z_pushJ gp_248_1 ?_
    refine z_pushJ gp_248_2 ?_
    refine z_cS3 gi_248_3 (Nat.le_of_ble_eq_true rfl) gc_148_III ?_
    refine z_iload0 gi_148_0 ?_
    refine z_iload1 gi_148_1 ?_
    refine z_icmp_ltF gi_148_2 (by omega) zr_0 (by omega) ?_
    refine z_iload0 gi_148_5 ?_
    refine z_iload2 gi_148_6 ?_
    refine z_icmp_gtF gi_148_7 (by omega) zr_5 (by omega) ?_
    refine z_pushJ gp_148_10 ?_
    refine z_goto gi_148_11 ?_
    refine z_bret1 gi_148_15 gr_148 ?_
    show zW _ _ _ _ _ _ _ _ _ _
    refine z_bret1 gi_248_6 gr_248 ?_
    show zW _ _ _ _ _ _ _ _ _ _
    refine z_if_eqF gi_221_4 zr_1 (by decide) ?_
    refine z_iload3 gi_221_7 ?_
    refine z_pushJ gp_221_8 ?_
    refine z_pushJ gp_221_9 ?_
    refine z_cS3 gi_221_11 (Nat.le_of_ble_eq_true rfl) gc_148_III ?_
    refine z_iload0 gi_148_0 ?_
    refine z_iload1 gi_148_1 ?_
    refine z_icmp_ltT gi_148_2 (by omega) zr_1 (by omega) ?_
    refine z_pushJ gp_148_14 ?_
    refine z_bret0 gi_148_15 gr_148 ?_
    show zW _ _ _ _ _ _ _ _ _ _
    refine z_if_eqT gi_221_14 zr_0 (by decide) ?_
    refine z_pushJ gp_221_27 ?_
    refine z_iret gi_221_28 gr_221 ?_
    refine ⟨?_, ?_⟩
    · first | rfl | exact congrArg (fun v => some (zi v)) (by omega) | (exfalso; omega)
    · exact hr
  · refine z_iload3 gi_123_12 ?_
    refine z_pushJ gp_123_13 ?_
    refine z_icmp_gt gi_123_15 (by omega) zr_30 (fun h2 => ?_) (fun h2 => ?_)
    · refine z_pushJ gp_123_26 ?_
      refine z_iret gi_123_27 gr_123 ?_
      refine ⟨_, rfl, ?_⟩
      show zW _ _ _ _ [some (.ref 50), some (zi s), some (zi sd), some (zi c), some (zi v), none, none, none, none, none, none] _ _ _ _ _
      refine z_iload1 gi_221_0 ?_
      refine z_cS1 gi_221_1 (Nat.le_of_ble_eq_true rfl) gc_248_I ?_
      refine z_iload0 gi_248_0 ?_
      refine z_pushJ gp_248_1 ?_
      refine z_pushJ gp_248_2 ?_
      refine z_cS3 gi_248_3 (Nat.le_of_ble_eq_true rfl) gc_148_III ?_
      refine z_iload0 gi_148_0 ?_
      refine z_iload1 gi_148_1 ?_
      refine z_icmp_ltF gi_148_2 (by omega) zr_0 (by omega) ?_
      refine z_iload0 gi_148_5 ?_
      refine z_iload2 gi_148_6 ?_
      refine z_icmp_gtF gi_148_7 (by omega) zr_5 (by omega) ?_
      refine z_pushJ gp_148_10 ?_
      refine z_goto gi_148_11 ?_
      refine z_bret1 gi_148_15 gr_148 ?_
      show zW _ _ _ _ _ _ _ _ _ _
      refine z_bret1 gi_248_6 gr_248 ?_
      show zW _ _ _ _ _ _ _ _ _ _
      refine z_if_eqF gi_221_4 zr_1 (by decide) ?_
      refine z_iload3 gi_221_7 ?_
      refine z_pushJ gp_221_8 ?_
      refine z_pushJ gp_221_9 ?_
      refine z_cS3 gi_221_11 (Nat.le_of_ble_eq_true rfl) gc_148_III ?_
      refine z_iload0 gi_148_0 ?_
      refine z_iload1 gi_148_1 ?_
      refine z_icmp_ltF gi_148_2 (by omega) zr_1 (by omega) ?_
      refine z_iload0 gi_148_5 ?_
      refine z_iload2 gi_148_6 ?_
      refine z_icmp_gtT gi_148_7 (by omega) zr_30 (by omega) ?_
      refine z_pushJ gp_148_14 ?_
      refine z_bret0 gi_148_15 gr_148 ?_
      show zW _ _ _ _ _ _ _ _ _ _
      refine z_if_eqT gi_221_14 zr_0 (by decide) ?_
      refine z_pushJ gp_221_27 ?_
      refine z_iret gi_221_28 gr_221 ?_
      refine ⟨?_, ?_⟩
      · first | rfl | exact congrArg (fun v => some (zi v)) (by omega) | (exfalso; omega)
      · exact hr
    · refine z_iload4 gi_123_18 ?_
      refine z_cS1 gi_123_20 (Nat.le_of_ble_eq_true rfl) gc_146_I ?_
      refine z_iload0 gi_146_0 ?_
      refine z_if_eq gi_146_1 (by omega) (fun h3 => ?_) (fun h3 => ?_)
      · refine z_pushJ gp_146_9 ?_
        refine z_goto gi_146_10 ?_
        refine z_bret1 gi_146_14 gr_146 ?_
        show zW _ _ _ _ _ _ _ _ _ _
        refine z_if_neT gi_123_23 zr_1 (by decide) ?_
        refine z_aload0 gi_123_28 ?_
        refine z_getR (r := 10) gi_123_29 gk_0 (hR _ rm_0_2) ?_
        refine z_aload0 gi_123_32 ?_
        refine z_getR (r := 37) gi_123_33 gk_0 (hR _ rm_0_11) ?_
        refine z_iload1 gi_123_36 ?_
        refine z_aald (r := 38 + 2 * s.toNat) gi_123_37 rfl (by decide) (by omega) (rr_shelf hR (by omega)) ?_
        refine z_callVi (As := [_]) (le := [some _, some _, none, none, none]) gi_123_38 rfl gk_10 (Nat.le_of_ble_eq_true rfl) (Nat.le_of_ble_eq_true rfl) rfl ?_
        refine z_aload1 gi_78_0 ?_
        refine z_callVi (As := []) (le := [some _]) gi_78_1 rfl (zk_shelf (by omega)) (Nat.le_of_ble_eq_true rfl) (Nat.le_of_ble_eq_true rfl) rfl ?_
        refine z_aload0 gi_69_0 ?_
        refine z_getI (v := 0) gi_69_1 (zk_shelf (by omega)) (hh) ?_
        refine z_if_neF gi_69_4 zr_0 (by decide) ?_
        refine z_pushJ gp_69_7 ?_
        refine z_iret gi_69_9 gr_69 ?_
        show zW _ _ _ _ _ _ _ _ _ _
        refine z_istore (ls1 := [some (.ref 10), some (.ref (38 + 2 * s.toNat)), some (zi (-11)), none, none]) gi_78_4 rfl ?_
        refine z_iload2 gi_78_5 ?_
        refine z_if_geF gi_78_6 zrn_11 (by decide) ?_
        refine z_iload2 gi_78_9 ?_
        refine z_iret gi_78_10 gr_78 ?_
        show zW _ _ _ _ _ _ _ _ _ _
        refine z_istore (ls1 := [some (.ref 0), some (zi s), some (zi sd), some (zi c), some (zi v), some (zi (-11))]) gi_123_41 rfl ?_
        refine z_iload5 gi_123_43 ?_
        refine z_if_geF gi_123_45 zrn_11 (by decide) ?_
        refine z_iload5 gi_123_48 ?_
        refine z_iret gi_123_50 gr_123 ?_
        refine ⟨_, rfl, ?_⟩
        show zW _ _ _ _ [some (.ref 50), some (zi s), some (zi sd), some (zi c), some (zi v), none, none, none, none, none, none] _ _ _ _ _
        refine z_iload1 gi_221_0 ?_
        refine z_cS1 gi_221_1 (Nat.le_of_ble_eq_true rfl) gc_248_I ?_
        refine z_iload0 gi_248_0 ?_
        refine z_pushJ gp_248_1 ?_
        refine z_pushJ gp_248_2 ?_
        refine z_cS3 gi_248_3 (Nat.le_of_ble_eq_true rfl) gc_148_III ?_
        refine z_iload0 gi_148_0 ?_
        refine z_iload1 gi_148_1 ?_
        refine z_icmp_ltF gi_148_2 (by omega) zr_0 (by omega) ?_
        refine z_iload0 gi_148_5 ?_
        refine z_iload2 gi_148_6 ?_
        refine z_icmp_gtF gi_148_7 (by omega) zr_5 (by omega) ?_
        refine z_pushJ gp_148_10 ?_
        refine z_goto gi_148_11 ?_
        refine z_bret1 gi_148_15 gr_148 ?_
        show zW _ _ _ _ _ _ _ _ _ _
        refine z_bret1 gi_248_6 gr_248 ?_
        show zW _ _ _ _ _ _ _ _ _ _
        refine z_if_eqF gi_221_4 zr_1 (by decide) ?_
        refine z_iload3 gi_221_7 ?_
        refine z_pushJ gp_221_8 ?_
        refine z_pushJ gp_221_9 ?_
        refine z_cS3 gi_221_11 (Nat.le_of_ble_eq_true rfl) gc_148_III ?_
        refine z_iload0 gi_148_0 ?_
        refine z_iload1 gi_148_1 ?_
        refine z_icmp_ltF gi_148_2 (by omega) zr_1 (by omega) ?_
        refine z_iload0 gi_148_5 ?_
        refine z_iload2 gi_148_6 ?_
        refine z_icmp_gtF gi_148_7 (by omega) zr_30 (by omega) ?_
        refine z_pushJ gp_148_10 ?_
        refine z_goto gi_148_11 ?_
        refine z_bret1 gi_148_15 gr_148 ?_
        show zW _ _ _ _ _ _ _ _ _ _
        refine z_if_eqF gi_221_14 zr_1 (by decide) ?_
        refine z_iload4 gi_221_17 ?_
        refine z_pushJ gp_221_19 ?_
        refine z_pushJ gp_221_20 ?_
        refine z_cS3 gi_221_21 (Nat.le_of_ble_eq_true rfl) gc_148_III ?_
        refine z_iload0 gi_148_0 ?_
        refine z_iload1 gi_148_1 ?_
        refine z_icmp_ltF gi_148_2 (by omega) zr_0 (by omega) ?_
        refine z_iload0 gi_148_5 ?_
        refine z_iload2 gi_148_6 ?_
        refine z_icmp_gtF gi_148_7 (by omega) zr_1 (by omega) ?_
        refine z_pushJ gp_148_10 ?_
        refine z_goto gi_148_11 ?_
        refine z_bret1 gi_148_15 gr_148 ?_
        show zW _ _ _ _ _ _ _ _ _ _
        refine z_if_neT gi_221_24 zr_1 (by decide) ?_
        refine z_aload0 gi_221_29 ?_
        refine z_iload1 gi_221_30 ?_
        refine z_cV1 gi_221_31 gk_50 go_192 (Nat.le_of_ble_eq_true rfl) gc_192_RI ?_
        refine z_aload0 gi_192_0 ?_
        refine z_getR (r := 83) gi_192_1 gk_50 (hRr _ rm_50_58 (by decide)) ?_
        refine z_iload1 gi_192_4 ?_
        refine z_iald (v := (-1)) gi_192_5 gk_83 (by decide) (by omega) (e83) ?_
        refine z_pushJ gp_192_6 ?_
        refine z_icmp_neF gi_192_7 zrn_1 zrn_1 (by decide) ?_
        refine z_pushJ gp_192_10 ?_
        refine z_goto gi_192_12 ?_
        refine z_iret gi_192_32 gr_192 ?_
        show zW _ _ _ _ _ _ _ _ _ _
        refine z_if_geF gi_221_34 zrn_11 (by decide) ?_
        refine z_aload0 gi_221_37 ?_
        refine z_iload1 gi_221_38 ?_
        refine z_cV1 gi_221_39 gk_50 go_192 (Nat.le_of_ble_eq_true rfl) gc_192_RI ?_
        refine z_aload0 gi_192_0 ?_
        refine z_getR (r := 83) gi_192_1 gk_50 (hRr _ rm_50_58 (by decide)) ?_
        refine z_iload1 gi_192_4 ?_
        refine z_iald (v := (-1)) gi_192_5 gk_83 (by decide) (by omega) (e83) ?_
        refine z_pushJ gp_192_6 ?_
        refine z_icmp_neF gi_192_7 zrn_1 zrn_1 (by decide) ?_
        refine z_pushJ gp_192_10 ?_
        refine z_goto gi_192_12 ?_
        refine z_iret gi_192_32 gr_192 ?_
        show zW _ _ _ _ _ _ _ _ _ _
        refine z_iret gi_221_42 gr_221 ?_
        refine ⟨?_, ?_⟩
        · first | rfl | exact congrArg (fun v => some (zi v)) (by omega) | (exfalso; omega)
        · exact hr
      · refine z_iload0 gi_146_4 ?_
        refine z_pushJ gp_146_5 ?_
        refine z_icmp_ne gi_146_6 (by omega) zr_1 (fun h4 => ?_) (fun h4 => ?_)
        · refine z_pushJ gp_146_13 ?_
          refine z_bret0 gi_146_14 gr_146 ?_
          show zW _ _ _ _ _ _ _ _ _ _
          refine z_if_neF gi_123_23 zr_0 (by decide) ?_
          refine z_pushJ gp_123_26 ?_
          refine z_iret gi_123_27 gr_123 ?_
          refine ⟨_, rfl, ?_⟩
          show zW _ _ _ _ [some (.ref 50), some (zi s), some (zi sd), some (zi c), some (zi v), none, none, none, none, none, none] _ _ _ _ _
          refine z_iload1 gi_221_0 ?_
          refine z_cS1 gi_221_1 (Nat.le_of_ble_eq_true rfl) gc_248_I ?_
          refine z_iload0 gi_248_0 ?_
          refine z_pushJ gp_248_1 ?_
          refine z_pushJ gp_248_2 ?_
          refine z_cS3 gi_248_3 (Nat.le_of_ble_eq_true rfl) gc_148_III ?_
          refine z_iload0 gi_148_0 ?_
          refine z_iload1 gi_148_1 ?_
          refine z_icmp_ltF gi_148_2 (by omega) zr_0 (by omega) ?_
          refine z_iload0 gi_148_5 ?_
          refine z_iload2 gi_148_6 ?_
          refine z_icmp_gtF gi_148_7 (by omega) zr_5 (by omega) ?_
          refine z_pushJ gp_148_10 ?_
          refine z_goto gi_148_11 ?_
          refine z_bret1 gi_148_15 gr_148 ?_
          show zW _ _ _ _ _ _ _ _ _ _
          refine z_bret1 gi_248_6 gr_248 ?_
          show zW _ _ _ _ _ _ _ _ _ _
          refine z_if_eqF gi_221_4 zr_1 (by decide) ?_
          refine z_iload3 gi_221_7 ?_
          refine z_pushJ gp_221_8 ?_
          refine z_pushJ gp_221_9 ?_
          refine z_cS3 gi_221_11 (Nat.le_of_ble_eq_true rfl) gc_148_III ?_
          refine z_iload0 gi_148_0 ?_
          refine z_iload1 gi_148_1 ?_
          refine z_icmp_ltF gi_148_2 (by omega) zr_1 (by omega) ?_
          refine z_iload0 gi_148_5 ?_
          refine z_iload2 gi_148_6 ?_
          refine z_icmp_gtF gi_148_7 (by omega) zr_30 (by omega) ?_
          refine z_pushJ gp_148_10 ?_
          refine z_goto gi_148_11 ?_
          refine z_bret1 gi_148_15 gr_148 ?_
          show zW _ _ _ _ _ _ _ _ _ _
          refine z_if_eqF gi_221_14 zr_1 (by decide) ?_
          refine z_iload4 gi_221_17 ?_
          refine z_pushJ gp_221_19 ?_
          refine z_pushJ gp_221_20 ?_
          refine z_cS3 gi_221_21 (Nat.le_of_ble_eq_true rfl) gc_148_III ?_
          refine z_iload0 gi_148_0 ?_
          refine z_iload1 gi_148_1 ?_
          refine z_icmp_lt gi_148_2 (by omega) zr_0 (fun h5 => ?_) (fun h5 => ?_)
          · refine z_pushJ gp_148_14 ?_
            refine z_bret0 gi_148_15 gr_148 ?_
            show zW _ _ _ _ _ _ _ _ _ _
            refine z_if_neF gi_221_24 zr_0 (by decide) ?_
            refine z_pushJ gp_221_27 ?_
            refine z_iret gi_221_28 gr_221 ?_
            refine ⟨?_, ?_⟩
            · first | rfl | exact congrArg (fun v => some (zi v)) (by omega) | (exfalso; omega)
            · exact hr
          · refine z_iload0 gi_148_5 ?_
            refine z_iload2 gi_148_6 ?_
            refine z_icmp_gt gi_148_7 (by omega) zr_1 (fun h6 => ?_) (fun h6 => ?_)
            · refine z_pushJ gp_148_14 ?_
              refine z_bret0 gi_148_15 gr_148 ?_
              show zW _ _ _ _ _ _ _ _ _ _
              refine z_if_neF gi_221_24 zr_0 (by decide) ?_
              refine z_pushJ gp_221_27 ?_
              refine z_iret gi_221_28 gr_221 ?_
              refine ⟨?_, ?_⟩
              · first | rfl | exact congrArg (fun v => some (zi v)) (by omega) | (exfalso; omega)
              · exact hr
            · refine z_pushJ gp_148_10 ?_
              refine z_goto gi_148_11 ?_
              refine z_bret1 gi_148_15 gr_148 ?_
              show zW _ _ _ _ _ _ _ _ _ _
              refine z_if_neT gi_221_24 zr_1 (by decide) ?_
              refine z_aload0 gi_221_29 ?_
              refine z_iload1 gi_221_30 ?_
              refine z_cV1 gi_221_31 gk_50 go_192 (Nat.le_of_ble_eq_true rfl) gc_192_RI ?_
              refine z_aload0 gi_192_0 ?_
              refine z_getR (r := 83) gi_192_1 gk_50 (hRr _ rm_50_58 (by decide)) ?_
              refine z_iload1 gi_192_4 ?_
              refine z_iald (v := (-1)) gi_192_5 gk_83 (by decide) (by omega) (e83) ?_
              refine z_pushJ gp_192_6 ?_
              refine z_icmp_neF gi_192_7 zrn_1 zrn_1 (by decide) ?_
              refine z_pushJ gp_192_10 ?_
              refine z_goto gi_192_12 ?_
              refine z_iret gi_192_32 gr_192 ?_
              show zW _ _ _ _ _ _ _ _ _ _
              refine z_if_geF gi_221_34 zrn_11 (by decide) ?_
              refine z_aload0 gi_221_37 ?_
              refine z_iload1 gi_221_38 ?_
              refine z_cV1 gi_221_39 gk_50 go_192 (Nat.le_of_ble_eq_true rfl) gc_192_RI ?_
              refine z_aload0 gi_192_0 ?_
              refine z_getR (r := 83) gi_192_1 gk_50 (hRr _ rm_50_58 (by decide)) ?_
              refine z_iload1 gi_192_4 ?_
              refine z_iald (v := (-1)) gi_192_5 gk_83 (by decide) (by omega) (e83) ?_
              refine z_pushJ gp_192_6 ?_
              refine z_icmp_neF gi_192_7 zrn_1 zrn_1 (by decide) ?_
              refine z_pushJ gp_192_10 ?_
              refine z_goto gi_192_12 ?_
              refine z_iret gi_192_32 gr_192 ?_
              show zW _ _ _ _ _ _ _ _ _ _
              refine z_iret gi_221_42 gr_221 ?_
              refine ⟨?_, ?_⟩
              · first | rfl | exact congrArg (fun v => some (zi v)) (by omega) | (exfalso; omega)
              · exact hr
        · refine z_pushJ gp_146_9 ?_
          refine z_goto gi_146_10 ?_
          refine z_bret1 gi_146_14 gr_146 ?_
          show zW _ _ _ _ _ _ _ _ _ _
          refine z_if_neT gi_123_23 zr_1 (by decide) ?_
          refine z_aload0 gi_123_28 ?_
          refine z_getR (r := 10) gi_123_29 gk_0 (hR _ rm_0_2) ?_
          refine z_aload0 gi_123_32 ?_
          refine z_getR (r := 37) gi_123_33 gk_0 (hR _ rm_0_11) ?_
          refine z_iload1 gi_123_36 ?_
          refine z_aald (r := 38 + 2 * s.toNat) gi_123_37 rfl (by decide) (by omega) (rr_shelf hR (by omega)) ?_
          refine z_callVi (As := [_]) (le := [some _, some _, none, none, none]) gi_123_38 rfl gk_10 (Nat.le_of_ble_eq_true rfl) (Nat.le_of_ble_eq_true rfl) rfl ?_
          refine z_aload1 gi_78_0 ?_
          refine z_callVi (As := []) (le := [some _]) gi_78_1 rfl (zk_shelf (by omega)) (Nat.le_of_ble_eq_true rfl) (Nat.le_of_ble_eq_true rfl) rfl ?_
          refine z_aload0 gi_69_0 ?_
          refine z_getI (v := 0) gi_69_1 (zk_shelf (by omega)) (hh) ?_
          refine z_if_neF gi_69_4 zr_0 (by decide) ?_
          refine z_pushJ gp_69_7 ?_
          refine z_iret gi_69_9 gr_69 ?_
          show zW _ _ _ _ _ _ _ _ _ _
          refine z_istore (ls1 := [some (.ref 10), some (.ref (38 + 2 * s.toNat)), some (zi (-11)), none, none]) gi_78_4 rfl ?_
          refine z_iload2 gi_78_5 ?_
          refine z_if_geF gi_78_6 zrn_11 (by decide) ?_
          refine z_iload2 gi_78_9 ?_
          refine z_iret gi_78_10 gr_78 ?_
          show zW _ _ _ _ _ _ _ _ _ _
          refine z_istore (ls1 := [some (.ref 0), some (zi s), some (zi sd), some (zi c), some (zi v), some (zi (-11))]) gi_123_41 rfl ?_
          refine z_iload5 gi_123_43 ?_
          refine z_if_geF gi_123_45 zrn_11 (by decide) ?_
          refine z_iload5 gi_123_48 ?_
          refine z_iret gi_123_50 gr_123 ?_
          refine ⟨_, rfl, ?_⟩
          show zW _ _ _ _ [some (.ref 50), some (zi s), some (zi sd), some (zi c), some (zi v), none, none, none, none, none, none] _ _ _ _ _
          refine z_iload1 gi_221_0 ?_
          refine z_cS1 gi_221_1 (Nat.le_of_ble_eq_true rfl) gc_248_I ?_
          refine z_iload0 gi_248_0 ?_
          refine z_pushJ gp_248_1 ?_
          refine z_pushJ gp_248_2 ?_
          refine z_cS3 gi_248_3 (Nat.le_of_ble_eq_true rfl) gc_148_III ?_
          refine z_iload0 gi_148_0 ?_
          refine z_iload1 gi_148_1 ?_
          refine z_icmp_ltF gi_148_2 (by omega) zr_0 (by omega) ?_
          refine z_iload0 gi_148_5 ?_
          refine z_iload2 gi_148_6 ?_
          refine z_icmp_gtF gi_148_7 (by omega) zr_5 (by omega) ?_
          refine z_pushJ gp_148_10 ?_
          refine z_goto gi_148_11 ?_
          refine z_bret1 gi_148_15 gr_148 ?_
          show zW _ _ _ _ _ _ _ _ _ _
          refine z_bret1 gi_248_6 gr_248 ?_
          show zW _ _ _ _ _ _ _ _ _ _
          refine z_if_eqF gi_221_4 zr_1 (by decide) ?_
          refine z_iload3 gi_221_7 ?_
          refine z_pushJ gp_221_8 ?_
          refine z_pushJ gp_221_9 ?_
          refine z_cS3 gi_221_11 (Nat.le_of_ble_eq_true rfl) gc_148_III ?_
          refine z_iload0 gi_148_0 ?_
          refine z_iload1 gi_148_1 ?_
          refine z_icmp_ltF gi_148_2 (by omega) zr_1 (by omega) ?_
          refine z_iload0 gi_148_5 ?_
          refine z_iload2 gi_148_6 ?_
          refine z_icmp_gtF gi_148_7 (by omega) zr_30 (by omega) ?_
          refine z_pushJ gp_148_10 ?_
          refine z_goto gi_148_11 ?_
          refine z_bret1 gi_148_15 gr_148 ?_
          show zW _ _ _ _ _ _ _ _ _ _
          refine z_if_eqF gi_221_14 zr_1 (by decide) ?_
          refine z_iload4 gi_221_17 ?_
          refine z_pushJ gp_221_19 ?_
          refine z_pushJ gp_221_20 ?_
          refine z_cS3 gi_221_21 (Nat.le_of_ble_eq_true rfl) gc_148_III ?_
          refine z_iload0 gi_148_0 ?_
          refine z_iload1 gi_148_1 ?_
          refine z_icmp_ltF gi_148_2 (by omega) zr_0 (by omega) ?_
          refine z_iload0 gi_148_5 ?_
          refine z_iload2 gi_148_6 ?_
          refine z_icmp_gtF gi_148_7 (by omega) zr_1 (by omega) ?_
          refine z_pushJ gp_148_10 ?_
          refine z_goto gi_148_11 ?_
          refine z_bret1 gi_148_15 gr_148 ?_
          show zW _ _ _ _ _ _ _ _ _ _
          refine z_if_neT gi_221_24 zr_1 (by decide) ?_
          refine z_aload0 gi_221_29 ?_
          refine z_iload1 gi_221_30 ?_
          refine z_cV1 gi_221_31 gk_50 go_192 (Nat.le_of_ble_eq_true rfl) gc_192_RI ?_
          refine z_aload0 gi_192_0 ?_
          refine z_getR (r := 83) gi_192_1 gk_50 (hRr _ rm_50_58 (by decide)) ?_
          refine z_iload1 gi_192_4 ?_
          refine z_iald (v := (-1)) gi_192_5 gk_83 (by decide) (by omega) (e83) ?_
          refine z_pushJ gp_192_6 ?_
          refine z_icmp_neF gi_192_7 zrn_1 zrn_1 (by decide) ?_
          refine z_pushJ gp_192_10 ?_
          refine z_goto gi_192_12 ?_
          refine z_iret gi_192_32 gr_192 ?_
          show zW _ _ _ _ _ _ _ _ _ _
          refine z_if_geF gi_221_34 zrn_11 (by decide) ?_
          refine z_aload0 gi_221_37 ?_
          refine z_iload1 gi_221_38 ?_
          refine z_cV1 gi_221_39 gk_50 go_192 (Nat.le_of_ble_eq_true rfl) gc_192_RI ?_
          refine z_aload0 gi_192_0 ?_
          refine z_getR (r := 83) gi_192_1 gk_50 (hRr _ rm_50_58 (by decide)) ?_
          refine z_iload1 gi_192_4 ?_
          refine z_iald (v := (-1)) gi_192_5 gk_83 (by decide) (by omega) (e83) ?_
          refine z_pushJ gp_192_6 ?_
          refine z_icmp_neF gi_192_7 zrn_1 zrn_1 (by decide) ?_
          refine z_pushJ gp_192_10 ?_
          refine z_goto gi_192_12 ?_
          refine z_iret gi_192_32 gr_192 ?_
          show zW _ _ _ _ _ _ _ _ _ _
          refine z_iret gi_221_42 gr_221 ?_
          refine ⟨?_, ?_⟩
          · first | rfl | exact congrArg (fun v => some (zi v)) (by omega) | (exfalso; omega)
          · exact hr
theorem st_drawn_1 {X : Nat × (Nat → Int32)} {d : Nat} {J M : zA} {R : zR} {s sd c v : Int} (hr : Rel X J M R) (hs : -2147483648 ≤ s ∧ s < 2147483648) (hsd : -2147483648 ≤ sd ∧ sd < 2147483648) (hc : -2147483648 ≤ c ∧ c < 2147483648) (hv : -2147483648 ≤ v ∧ v < 2147483648) (hs6 : 0 ≤ s ∧ s < 6) (hh : J (38 + 2 * s.toNat) 0 = 1) : zW X (d + 20) 123 0 (gEn 123 [(.ref 0), (zi s), (zi sd), (zi c), (zi v)]) [] J M R (stP X (d + 20) 221 [(zi s), (zi sd), (zi c), (zi v)]) := by
  have hr0 := hr
  obtain ⟨hR, hG, hY, hD, hP, hC, hAc, hS, hTp, hX, hW⟩ := hr0
  have hRr : zRoR R := zRoR_of hR
  have hY0 := hY
  obtain ⟨y1, y2, y3⟩ := hY0
  have yn := zNn y3
  have hA0 := hAc
  obtain ⟨a1, a2, a3, a4, a5, a6⟩ := hA0
  have e83 : J 83 s = J (38 + 2 * s.toNat) 1 := (hS s hs6.1 hs6.2).1.symm.trans (cH_1 hh)
  have s3 : 0 ≤ J (38 + 2 * s.toNat) 2 ∧ J (38 + 2 * s.toNat) 2 ≤ 4 := (hS s hs6.1 hs6.2).2.2.1
  have s4 : 0 ≤ J (38 + 2 * s.toNat) 3 ∧ J (38 + 2 * s.toNat) 3 ≤ 60 := (hS s hs6.1 hs6.2).2.2.2.1
  have s5 : 0 ≤ J (38 + 2 * s.toNat) 1 ∧ J (38 + 2 * s.toNat) 1 < J 34 1 := (hS s hs6.1 hs6.2).2.2.2.2.1 hh
  show zW _ _ _ _ [some (.ref 0), some (zi s), some (zi sd), some (zi c), some (zi v), none] _ _ _ _ _
  refine z_iload1 gi_123_0 ?_
  refine z_cS1 gi_123_1 (Nat.le_of_ble_eq_true rfl) gc_143_I ?_
  refine z_iload0 gi_143_0 ?_
  refine z_if_ltF gi_143_1 (by omega) (by omega) ?_
  refine z_iload0 gi_143_4 ?_
  refine z_pushJ gp_143_5 ?_
  refine z_icmp_geF gi_143_7 (by omega) zr_6 (by omega) ?_
  refine z_pushJ gp_143_10 ?_
  refine z_goto gi_143_11 ?_
  refine z_bret1 gi_143_15 gr_143 ?_
  show zW _ _ _ _ _ _ _ _ _ _
  refine z_if_eqF gi_123_4 zr_1 (by decide) ?_
  refine z_iload3 gi_123_7 ?_
  refine z_pushJ gp_123_8 ?_
  refine z_icmp_lt gi_123_9 (by omega) zr_1 (fun h1 => ?_) (fun h1 => ?_)
  · refine z_pushJ gp_123_26 ?_
    refine z_iret gi_123_27 gr_123 ?_
    refine ⟨_, rfl, ?_⟩
    show zW _ _ _ _ [some (.ref 50), some (zi s), some (zi sd), some (zi c), some (zi v), none, none, none, none, none, none] _ _ _ _ _
    refine z_iload1 gi_221_0 ?_
    refine z_cS1 gi_221_1 (Nat.le_of_ble_eq_true rfl) gc_248_I ?_
    refine z_iload0 gi_248_0 ?_
    refine z_pushJ gp_248_1 ?_
    refine z_pushJ gp_248_2 ?_
    refine z_cS3 gi_248_3 (Nat.le_of_ble_eq_true rfl) gc_148_III ?_
    refine z_iload0 gi_148_0 ?_
    refine z_iload1 gi_148_1 ?_
    refine z_icmp_ltF gi_148_2 (by omega) zr_0 (by omega) ?_
    refine z_iload0 gi_148_5 ?_
    refine z_iload2 gi_148_6 ?_
    refine z_icmp_gtF gi_148_7 (by omega) zr_5 (by omega) ?_
    refine z_pushJ gp_148_10 ?_
    refine z_goto gi_148_11 ?_
    refine z_bret1 gi_148_15 gr_148 ?_
    show zW _ _ _ _ _ _ _ _ _ _
    refine z_bret1 gi_248_6 gr_248 ?_
    show zW _ _ _ _ _ _ _ _ _ _
    refine z_if_eqF gi_221_4 zr_1 (by decide) ?_
    refine z_iload3 gi_221_7 ?_
    refine z_pushJ gp_221_8 ?_
    refine z_pushJ gp_221_9 ?_
    refine z_cS3 gi_221_11 (Nat.le_of_ble_eq_true rfl) gc_148_III ?_
    refine z_iload0 gi_148_0 ?_
    refine z_iload1 gi_148_1 ?_
    refine z_icmp_ltT gi_148_2 (by omega) zr_1 (by omega) ?_
    refine z_pushJ gp_148_14 ?_
    refine z_bret0 gi_148_15 gr_148 ?_
    show zW _ _ _ _ _ _ _ _ _ _
    refine z_if_eqT gi_221_14 zr_0 (by decide) ?_
    refine z_pushJ gp_221_27 ?_
    refine z_iret gi_221_28 gr_221 ?_
    refine ⟨?_, ?_⟩
    · first | rfl | exact congrArg (fun v => some (zi v)) (by omega) | (exfalso; omega)
    · exact hr
  · refine z_iload3 gi_123_12 ?_
    refine z_pushJ gp_123_13 ?_
    refine z_icmp_gt gi_123_15 (by omega) zr_30 (fun h2 => ?_) (fun h2 => ?_)
    · refine z_pushJ gp_123_26 ?_
      refine z_iret gi_123_27 gr_123 ?_
      refine ⟨_, rfl, ?_⟩
      show zW _ _ _ _ [some (.ref 50), some (zi s), some (zi sd), some (zi c), some (zi v), none, none, none, none, none, none] _ _ _ _ _
      refine z_iload1 gi_221_0 ?_
      refine z_cS1 gi_221_1 (Nat.le_of_ble_eq_true rfl) gc_248_I ?_
      refine z_iload0 gi_248_0 ?_
      refine z_pushJ gp_248_1 ?_
      refine z_pushJ gp_248_2 ?_
      refine z_cS3 gi_248_3 (Nat.le_of_ble_eq_true rfl) gc_148_III ?_
      refine z_iload0 gi_148_0 ?_
      refine z_iload1 gi_148_1 ?_
      refine z_icmp_ltF gi_148_2 (by omega) zr_0 (by omega) ?_
      refine z_iload0 gi_148_5 ?_
      refine z_iload2 gi_148_6 ?_
      refine z_icmp_gtF gi_148_7 (by omega) zr_5 (by omega) ?_
      refine z_pushJ gp_148_10 ?_
      refine z_goto gi_148_11 ?_
      refine z_bret1 gi_148_15 gr_148 ?_
      show zW _ _ _ _ _ _ _ _ _ _
      refine z_bret1 gi_248_6 gr_248 ?_
      show zW _ _ _ _ _ _ _ _ _ _
      refine z_if_eqF gi_221_4 zr_1 (by decide) ?_
      refine z_iload3 gi_221_7 ?_
      refine z_pushJ gp_221_8 ?_
      refine z_pushJ gp_221_9 ?_
      refine z_cS3 gi_221_11 (Nat.le_of_ble_eq_true rfl) gc_148_III ?_
      refine z_iload0 gi_148_0 ?_
      refine z_iload1 gi_148_1 ?_
      refine z_icmp_ltF gi_148_2 (by omega) zr_1 (by omega) ?_
      refine z_iload0 gi_148_5 ?_
      refine z_iload2 gi_148_6 ?_
      refine z_icmp_gtT gi_148_7 (by omega) zr_30 (by omega) ?_
      refine z_pushJ gp_148_14 ?_
      refine z_bret0 gi_148_15 gr_148 ?_
      show zW _ _ _ _ _ _ _ _ _ _
      refine z_if_eqT gi_221_14 zr_0 (by decide) ?_
      refine z_pushJ gp_221_27 ?_
      refine z_iret gi_221_28 gr_221 ?_
      refine ⟨?_, ?_⟩
      · first | rfl | exact congrArg (fun v => some (zi v)) (by omega) | (exfalso; omega)
      · exact hr
    · refine z_iload4 gi_123_18 ?_
      refine z_cS1 gi_123_20 (Nat.le_of_ble_eq_true rfl) gc_146_I ?_
      refine z_iload0 gi_146_0 ?_
      refine z_if_eq gi_146_1 (by omega) (fun h3 => ?_) (fun h3 => ?_)
      · refine z_pushJ gp_146_9 ?_
        refine z_goto gi_146_10 ?_
        refine z_bret1 gi_146_14 gr_146 ?_
        show zW _ _ _ _ _ _ _ _ _ _
        refine z_if_neT gi_123_23 zr_1 (by decide) ?_
        refine z_aload0 gi_123_28 ?_
        refine z_getR (r := 10) gi_123_29 gk_0 (hR _ rm_0_2) ?_
        refine z_aload0 gi_123_32 ?_
        refine z_getR (r := 37) gi_123_33 gk_0 (hR _ rm_0_11) ?_
        refine z_iload1 gi_123_36 ?_
        refine z_aald (r := 38 + 2 * s.toNat) gi_123_37 rfl (by decide) (by omega) (rr_shelf hR (by omega)) ?_
        refine z_callVi (As := [_]) (le := [some _, some _, none, none, none]) gi_123_38 rfl gk_10 (Nat.le_of_ble_eq_true rfl) (Nat.le_of_ble_eq_true rfl) rfl ?_
        refine z_aload1 gi_78_0 ?_
        refine z_callVi (As := []) (le := [some _]) gi_78_1 rfl (zk_shelf (by omega)) (Nat.le_of_ble_eq_true rfl) (Nat.le_of_ble_eq_true rfl) rfl ?_
        refine z_aload0 gi_69_0 ?_
        refine z_getI (v := 1) gi_69_1 (zk_shelf (by omega)) (hh) ?_
        refine z_if_neT gi_69_4 zr_1 (by decide) ?_
        refine z_aload0 gi_69_10 ?_
        refine z_callVi (As := []) (le := [some _]) gi_69_11 rfl (zk_shelf (by omega)) (Nat.le_of_ble_eq_true rfl) (Nat.le_of_ble_eq_true rfl) rfl ?_
        refine z_aload0 gi_64_0 ?_
        refine z_getI (v := 1) gi_64_1 (zk_shelf (by omega)) (hh) ?_
        refine z_pushJ gp_64_4 ?_
        refine z_icmp_neT gi_64_5 zr_1 zr_2 (by decide) ?_
        refine z_pushJ gp_64_19 ?_
        refine z_bret0 gi_64_20 gr_64 ?_
        show zW _ _ _ _ _ _ _ _ _ _
        refine z_if_eqT gi_69_14 zr_0 (by decide) ?_
        refine z_pushJ gp_69_21 ?_
        refine z_iret gi_69_23 gr_69 ?_
        show zW _ _ _ _ _ _ _ _ _ _
        refine z_istore (ls1 := [some (.ref 10), some (.ref (38 + 2 * s.toNat)), some (zi (-12)), none, none]) gi_78_4 rfl ?_
        refine z_iload2 gi_78_5 ?_
        refine z_if_geF gi_78_6 zrn_12 (by decide) ?_
        refine z_iload2 gi_78_9 ?_
        refine z_iret gi_78_10 gr_78 ?_
        show zW _ _ _ _ _ _ _ _ _ _
        refine z_istore (ls1 := [some (.ref 0), some (zi s), some (zi sd), some (zi c), some (zi v), some (zi (-12))]) gi_123_41 rfl ?_
        refine z_iload5 gi_123_43 ?_
        refine z_if_geF gi_123_45 zrn_12 (by decide) ?_
        refine z_iload5 gi_123_48 ?_
        refine z_iret gi_123_50 gr_123 ?_
        refine ⟨_, rfl, ?_⟩
        show zW _ _ _ _ [some (.ref 50), some (zi s), some (zi sd), some (zi c), some (zi v), none, none, none, none, none, none] _ _ _ _ _
        refine z_iload1 gi_221_0 ?_
        refine z_cS1 gi_221_1 (Nat.le_of_ble_eq_true rfl) gc_248_I ?_
        refine z_iload0 gi_248_0 ?_
        refine z_pushJ gp_248_1 ?_
        refine z_pushJ gp_248_2 ?_
        refine z_cS3 gi_248_3 (Nat.le_of_ble_eq_true rfl) gc_148_III ?_
        refine z_iload0 gi_148_0 ?_
        refine z_iload1 gi_148_1 ?_
        refine z_icmp_ltF gi_148_2 (by omega) zr_0 (by omega) ?_
        refine z_iload0 gi_148_5 ?_
        refine z_iload2 gi_148_6 ?_
        refine z_icmp_gtF gi_148_7 (by omega) zr_5 (by omega) ?_
        refine z_pushJ gp_148_10 ?_
        refine z_goto gi_148_11 ?_
        refine z_bret1 gi_148_15 gr_148 ?_
        show zW _ _ _ _ _ _ _ _ _ _
        refine z_bret1 gi_248_6 gr_248 ?_
        show zW _ _ _ _ _ _ _ _ _ _
        refine z_if_eqF gi_221_4 zr_1 (by decide) ?_
        refine z_iload3 gi_221_7 ?_
        refine z_pushJ gp_221_8 ?_
        refine z_pushJ gp_221_9 ?_
        refine z_cS3 gi_221_11 (Nat.le_of_ble_eq_true rfl) gc_148_III ?_
        refine z_iload0 gi_148_0 ?_
        refine z_iload1 gi_148_1 ?_
        refine z_icmp_ltF gi_148_2 (by omega) zr_1 (by omega) ?_
        refine z_iload0 gi_148_5 ?_
        refine z_iload2 gi_148_6 ?_
        refine z_icmp_gtF gi_148_7 (by omega) zr_30 (by omega) ?_
        refine z_pushJ gp_148_10 ?_
        refine z_goto gi_148_11 ?_
        refine z_bret1 gi_148_15 gr_148 ?_
        show zW _ _ _ _ _ _ _ _ _ _
        refine z_if_eqF gi_221_14 zr_1 (by decide) ?_
        refine z_iload4 gi_221_17 ?_
        refine z_pushJ gp_221_19 ?_
        refine z_pushJ gp_221_20 ?_
        refine z_cS3 gi_221_21 (Nat.le_of_ble_eq_true rfl) gc_148_III ?_
        refine z_iload0 gi_148_0 ?_
        refine z_iload1 gi_148_1 ?_
        refine z_icmp_ltF gi_148_2 (by omega) zr_0 (by omega) ?_
        refine z_iload0 gi_148_5 ?_
        refine z_iload2 gi_148_6 ?_
        refine z_icmp_gtF gi_148_7 (by omega) zr_1 (by omega) ?_
        refine z_pushJ gp_148_10 ?_
        refine z_goto gi_148_11 ?_
        refine z_bret1 gi_148_15 gr_148 ?_
        show zW _ _ _ _ _ _ _ _ _ _
        refine z_if_neT gi_221_24 zr_1 (by decide) ?_
        refine z_aload0 gi_221_29 ?_
        refine z_iload1 gi_221_30 ?_
        refine z_cV1 gi_221_31 gk_50 go_192 (Nat.le_of_ble_eq_true rfl) gc_192_RI ?_
        refine z_aload0 gi_192_0 ?_
        refine z_getR (r := 83) gi_192_1 gk_50 (hRr _ rm_50_58 (by decide)) ?_
        refine z_iload1 gi_192_4 ?_
        refine z_iald (v := J (38 + 2 * s.toNat) 1) gi_192_5 gk_83 (by decide) (by omega) (e83) ?_
        refine z_pushJ gp_192_6 ?_
        refine z_icmp_ne gi_192_7 (by omega) zrn_1 (fun h4 => ?_) (fun h4 => ?_)
        · refine z_aload0 gi_192_15 ?_
          refine z_getR (r := 83) gi_192_16 gk_50 (hRr _ rm_50_58 (by decide)) ?_
          refine z_iload1 gi_192_19 ?_
          refine z_iald (v := J (38 + 2 * s.toNat) 1) gi_192_20 gk_83 (by decide) (by omega) (e83) ?_
          refine z_pushJ gp_192_21 ?_
          refine z_icmp_ne gi_192_23 (by omega) zrn_2 (fun h5 => ?_) (fun h5 => ?_)
          · refine z_pushJ gp_192_30 ?_
            refine z_iret gi_192_32 gr_192 ?_
            show zW _ _ _ _ _ _ _ _ _ _
            refine z_if_geF gi_221_34 zrn_12 (by decide) ?_
            refine z_aload0 gi_221_37 ?_
            refine z_iload1 gi_221_38 ?_
            refine z_cV1 gi_221_39 gk_50 go_192 (Nat.le_of_ble_eq_true rfl) gc_192_RI ?_
            refine z_aload0 gi_192_0 ?_
            refine z_getR (r := 83) gi_192_1 gk_50 (hRr _ rm_50_58 (by decide)) ?_
            refine z_iload1 gi_192_4 ?_
            refine z_iald (v := J (38 + 2 * s.toNat) 1) gi_192_5 gk_83 (by decide) (by omega) (e83) ?_
            refine z_pushJ gp_192_6 ?_
            refine z_icmp_ne gi_192_7 (by omega) zrn_1 (fun h6 => ?_) (fun h6 => ?_)
            · refine z_aload0 gi_192_15 ?_
              refine z_getR (r := 83) gi_192_16 gk_50 (hRr _ rm_50_58 (by decide)) ?_
              refine z_iload1 gi_192_19 ?_
              refine z_iald (v := J (38 + 2 * s.toNat) 1) gi_192_20 gk_83 (by decide) (by omega) (e83) ?_
              refine z_pushJ gp_192_21 ?_
              refine z_icmp_ne gi_192_23 (by omega) zrn_2 (fun h7 => ?_) (fun h7 => ?_)
              · refine z_pushJ gp_192_30 ?_
                refine z_iret gi_192_32 gr_192 ?_
                show zW _ _ _ _ _ _ _ _ _ _
                refine z_iret gi_221_42 gr_221 ?_
                refine ⟨?_, ?_⟩
                · first | rfl | exact congrArg (fun v => some (zi v)) (by omega) | (exfalso; omega)
                · exact hr
              · refine z_pushJ gp_192_26 ?_
                refine z_goto gi_192_27 ?_
                refine z_iret gi_192_32 gr_192 ?_
                show zW _ _ _ _ _ _ _ _ _ _
                refine z_iret gi_221_42 gr_221 ?_
                refine ⟨?_, ?_⟩
                · first | rfl | exact congrArg (fun v => some (zi v)) (by omega) | (exfalso; omega)
                · exact hr
            · refine z_pushJ gp_192_10 ?_
              refine z_goto gi_192_12 ?_
              refine z_iret gi_192_32 gr_192 ?_
              show zW _ _ _ _ _ _ _ _ _ _
              refine z_iret gi_221_42 gr_221 ?_
              refine ⟨?_, ?_⟩
              · first | rfl | exact congrArg (fun v => some (zi v)) (by omega) | (exfalso; omega)
              · exact hr
          · refine z_pushJ gp_192_26 ?_
            refine z_goto gi_192_27 ?_
            refine z_iret gi_192_32 gr_192 ?_
            show zW _ _ _ _ _ _ _ _ _ _
            refine z_if_geT gi_221_34 zr_0 (by decide) ?_
            refine z_aload0 gi_221_43 ?_
            refine z_iload2 gi_221_44 ?_
            refine z_putI (y := 41) gi_221_45 rfl gk_50 ?_
            refine z_pushJ gp_221_48 ?_
            refine z_istore (ls1 := [some (.ref 50), some (zi s), some (zi sd), some (zi c), some (zi v), some (zi 0), none, none, none, none, none]) gi_221_49 rfl ?_
            refine z_pushJ gp_221_51 ?_
            refine z_istore (ls1 := [some (.ref 50), some (zi s), some (zi sd), some (zi c), some (zi v), some (zi 0), some (zi 0), none, none, none, none]) gi_221_52 rfl ?_
            refine z_aload0 gi_221_54 ?_
            exfalso
            omega
        · refine z_pushJ gp_192_10 ?_
          refine z_goto gi_192_12 ?_
          refine z_iret gi_192_32 gr_192 ?_
          show zW _ _ _ _ _ _ _ _ _ _
          refine z_if_geF gi_221_34 zrn_11 (by decide) ?_
          refine z_aload0 gi_221_37 ?_
          refine z_iload1 gi_221_38 ?_
          refine z_cV1 gi_221_39 gk_50 go_192 (Nat.le_of_ble_eq_true rfl) gc_192_RI ?_
          refine z_aload0 gi_192_0 ?_
          refine z_getR (r := 83) gi_192_1 gk_50 (hRr _ rm_50_58 (by decide)) ?_
          refine z_iload1 gi_192_4 ?_
          refine z_iald (v := J (38 + 2 * s.toNat) 1) gi_192_5 gk_83 (by decide) (by omega) (e83) ?_
          refine z_pushJ gp_192_6 ?_
          refine z_icmp_neF gi_192_7 (by omega) zrn_1 (by omega) ?_
          refine z_pushJ gp_192_10 ?_
          refine z_goto gi_192_12 ?_
          refine z_iret gi_192_32 gr_192 ?_
          show zW _ _ _ _ _ _ _ _ _ _
          refine z_iret gi_221_42 gr_221 ?_
          refine ⟨?_, ?_⟩
          · first | rfl | exact congrArg (fun v => some (zi v)) (by omega) | (exfalso; omega)
          · exact hr
      · refine z_iload0 gi_146_4 ?_
        refine z_pushJ gp_146_5 ?_
        refine z_icmp_ne gi_146_6 (by omega) zr_1 (fun h4 => ?_) (fun h4 => ?_)
        · refine z_pushJ gp_146_13 ?_
          refine z_bret0 gi_146_14 gr_146 ?_
          show zW _ _ _ _ _ _ _ _ _ _
          refine z_if_neF gi_123_23 zr_0 (by decide) ?_
          refine z_pushJ gp_123_26 ?_
          refine z_iret gi_123_27 gr_123 ?_
          refine ⟨_, rfl, ?_⟩
          show zW _ _ _ _ [some (.ref 50), some (zi s), some (zi sd), some (zi c), some (zi v), none, none, none, none, none, none] _ _ _ _ _
          refine z_iload1 gi_221_0 ?_
          refine z_cS1 gi_221_1 (Nat.le_of_ble_eq_true rfl) gc_248_I ?_
          refine z_iload0 gi_248_0 ?_
          refine z_pushJ gp_248_1 ?_
          refine z_pushJ gp_248_2 ?_
          refine z_cS3 gi_248_3 (Nat.le_of_ble_eq_true rfl) gc_148_III ?_
          refine z_iload0 gi_148_0 ?_
          refine z_iload1 gi_148_1 ?_
          refine z_icmp_ltF gi_148_2 (by omega) zr_0 (by omega) ?_
          refine z_iload0 gi_148_5 ?_
          refine z_iload2 gi_148_6 ?_
          refine z_icmp_gtF gi_148_7 (by omega) zr_5 (by omega) ?_
          refine z_pushJ gp_148_10 ?_
          refine z_goto gi_148_11 ?_
          refine z_bret1 gi_148_15 gr_148 ?_
          show zW _ _ _ _ _ _ _ _ _ _
          refine z_bret1 gi_248_6 gr_248 ?_
          show zW _ _ _ _ _ _ _ _ _ _
          refine z_if_eqF gi_221_4 zr_1 (by decide) ?_
          refine z_iload3 gi_221_7 ?_
          refine z_pushJ gp_221_8 ?_
          refine z_pushJ gp_221_9 ?_
          refine z_cS3 gi_221_11 (Nat.le_of_ble_eq_true rfl) gc_148_III ?_
          refine z_iload0 gi_148_0 ?_
          refine z_iload1 gi_148_1 ?_
          refine z_icmp_ltF gi_148_2 (by omega) zr_1 (by omega) ?_
          refine z_iload0 gi_148_5 ?_
          refine z_iload2 gi_148_6 ?_
          refine z_icmp_gtF gi_148_7 (by omega) zr_30 (by omega) ?_
          refine z_pushJ gp_148_10 ?_
          refine z_goto gi_148_11 ?_
          refine z_bret1 gi_148_15 gr_148 ?_
          show zW _ _ _ _ _ _ _ _ _ _
          refine z_if_eqF gi_221_14 zr_1 (by decide) ?_
          refine z_iload4 gi_221_17 ?_
          refine z_pushJ gp_221_19 ?_
          refine z_pushJ gp_221_20 ?_
          refine z_cS3 gi_221_21 (Nat.le_of_ble_eq_true rfl) gc_148_III ?_
          refine z_iload0 gi_148_0 ?_
          refine z_iload1 gi_148_1 ?_
          refine z_icmp_lt gi_148_2 (by omega) zr_0 (fun h5 => ?_) (fun h5 => ?_)
          · refine z_pushJ gp_148_14 ?_
            refine z_bret0 gi_148_15 gr_148 ?_
            show zW _ _ _ _ _ _ _ _ _ _
            refine z_if_neF gi_221_24 zr_0 (by decide) ?_
            refine z_pushJ gp_221_27 ?_
            refine z_iret gi_221_28 gr_221 ?_
            refine ⟨?_, ?_⟩
            · first | rfl | exact congrArg (fun v => some (zi v)) (by omega) | (exfalso; omega)
            · exact hr
          · refine z_iload0 gi_148_5 ?_
            refine z_iload2 gi_148_6 ?_
            refine z_icmp_gt gi_148_7 (by omega) zr_1 (fun h6 => ?_) (fun h6 => ?_)
            · refine z_pushJ gp_148_14 ?_
              refine z_bret0 gi_148_15 gr_148 ?_
              show zW _ _ _ _ _ _ _ _ _ _
              refine z_if_neF gi_221_24 zr_0 (by decide) ?_
              refine z_pushJ gp_221_27 ?_
              refine z_iret gi_221_28 gr_221 ?_
              refine ⟨?_, ?_⟩
              · first | rfl | exact congrArg (fun v => some (zi v)) (by omega) | (exfalso; omega)
              · exact hr
            · refine z_pushJ gp_148_10 ?_
              refine z_goto gi_148_11 ?_
              refine z_bret1 gi_148_15 gr_148 ?_
              show zW _ _ _ _ _ _ _ _ _ _
              refine z_if_neT gi_221_24 zr_1 (by decide) ?_
              refine z_aload0 gi_221_29 ?_
              refine z_iload1 gi_221_30 ?_
              refine z_cV1 gi_221_31 gk_50 go_192 (Nat.le_of_ble_eq_true rfl) gc_192_RI ?_
              refine z_aload0 gi_192_0 ?_
              refine z_getR (r := 83) gi_192_1 gk_50 (hRr _ rm_50_58 (by decide)) ?_
              refine z_iload1 gi_192_4 ?_
              refine z_iald (v := J (38 + 2 * s.toNat) 1) gi_192_5 gk_83 (by decide) (by omega) (e83) ?_
              refine z_pushJ gp_192_6 ?_
              refine z_icmp_ne gi_192_7 (by omega) zrn_1 (fun h7 => ?_) (fun h7 => ?_)
              · refine z_aload0 gi_192_15 ?_
                refine z_getR (r := 83) gi_192_16 gk_50 (hRr _ rm_50_58 (by decide)) ?_
                refine z_iload1 gi_192_19 ?_
                refine z_iald (v := J (38 + 2 * s.toNat) 1) gi_192_20 gk_83 (by decide) (by omega) (e83) ?_
                refine z_pushJ gp_192_21 ?_
                refine z_icmp_ne gi_192_23 (by omega) zrn_2 (fun h8 => ?_) (fun h8 => ?_)
                · refine z_pushJ gp_192_30 ?_
                  refine z_iret gi_192_32 gr_192 ?_
                  show zW _ _ _ _ _ _ _ _ _ _
                  refine z_if_geF gi_221_34 zrn_12 (by decide) ?_
                  refine z_aload0 gi_221_37 ?_
                  refine z_iload1 gi_221_38 ?_
                  refine z_cV1 gi_221_39 gk_50 go_192 (Nat.le_of_ble_eq_true rfl) gc_192_RI ?_
                  refine z_aload0 gi_192_0 ?_
                  refine z_getR (r := 83) gi_192_1 gk_50 (hRr _ rm_50_58 (by decide)) ?_
                  refine z_iload1 gi_192_4 ?_
                  refine z_iald (v := J (38 + 2 * s.toNat) 1) gi_192_5 gk_83 (by decide) (by omega) (e83) ?_
                  refine z_pushJ gp_192_6 ?_
                  refine z_icmp_ne gi_192_7 (by omega) zrn_1 (fun h9 => ?_) (fun h9 => ?_)
                  · refine z_aload0 gi_192_15 ?_
                    refine z_getR (r := 83) gi_192_16 gk_50 (hRr _ rm_50_58 (by decide)) ?_
                    refine z_iload1 gi_192_19 ?_
                    refine z_iald (v := J (38 + 2 * s.toNat) 1) gi_192_20 gk_83 (by decide) (by omega) (e83) ?_
                    refine z_pushJ gp_192_21 ?_
                    refine z_icmp_ne gi_192_23 (by omega) zrn_2 (fun h10 => ?_) (fun h10 => ?_)
                    · refine z_pushJ gp_192_30 ?_
                      refine z_iret gi_192_32 gr_192 ?_
                      show zW _ _ _ _ _ _ _ _ _ _
                      refine z_iret gi_221_42 gr_221 ?_
                      refine ⟨?_, ?_⟩
                      · first | rfl | exact congrArg (fun v => some (zi v)) (by omega) | (exfalso; omega)
                      · exact hr
                    · refine z_pushJ gp_192_26 ?_
                      refine z_goto gi_192_27 ?_
                      refine z_iret gi_192_32 gr_192 ?_
                      show zW _ _ _ _ _ _ _ _ _ _
                      refine z_iret gi_221_42 gr_221 ?_
                      refine ⟨?_, ?_⟩
                      · first | rfl | exact congrArg (fun v => some (zi v)) (by omega) | (exfalso; omega)
                      · exact hr
                  · refine z_pushJ gp_192_10 ?_
                    refine z_goto gi_192_12 ?_
                    refine z_iret gi_192_32 gr_192 ?_
                    show zW _ _ _ _ _ _ _ _ _ _
                    refine z_iret gi_221_42 gr_221 ?_
                    refine ⟨?_, ?_⟩
                    · first | rfl | exact congrArg (fun v => some (zi v)) (by omega) | (exfalso; omega)
                    · exact hr
                · refine z_pushJ gp_192_26 ?_
                  refine z_goto gi_192_27 ?_
                  refine z_iret gi_192_32 gr_192 ?_
                  show zW _ _ _ _ _ _ _ _ _ _
                  refine z_if_geT gi_221_34 zr_0 (by decide) ?_
                  refine z_aload0 gi_221_43 ?_
                  refine z_iload2 gi_221_44 ?_
                  refine z_putI (y := 41) gi_221_45 rfl gk_50 ?_
                  refine z_pushJ gp_221_48 ?_
                  refine z_istore (ls1 := [some (.ref 50), some (zi s), some (zi sd), some (zi c), some (zi v), some (zi 0), none, none, none, none, none]) gi_221_49 rfl ?_
                  refine z_pushJ gp_221_51 ?_
                  refine z_istore (ls1 := [some (.ref 50), some (zi s), some (zi sd), some (zi c), some (zi v), some (zi 0), some (zi 0), none, none, none, none]) gi_221_52 rfl ?_
                  refine z_aload0 gi_221_54 ?_
                  exfalso
                  omega
              · refine z_pushJ gp_192_10 ?_
                refine z_goto gi_192_12 ?_
                refine z_iret gi_192_32 gr_192 ?_
                show zW _ _ _ _ _ _ _ _ _ _
                refine z_if_geF gi_221_34 zrn_11 (by decide) ?_
                refine z_aload0 gi_221_37 ?_
                refine z_iload1 gi_221_38 ?_
                refine z_cV1 gi_221_39 gk_50 go_192 (Nat.le_of_ble_eq_true rfl) gc_192_RI ?_
                refine z_aload0 gi_192_0 ?_
                refine z_getR (r := 83) gi_192_1 gk_50 (hRr _ rm_50_58 (by decide)) ?_
                refine z_iload1 gi_192_4 ?_
                refine z_iald (v := J (38 + 2 * s.toNat) 1) gi_192_5 gk_83 (by decide) (by omega) (e83) ?_
                refine z_pushJ gp_192_6 ?_
                refine z_icmp_neF gi_192_7 (by omega) zrn_1 (by omega) ?_
                refine z_pushJ gp_192_10 ?_
                refine z_goto gi_192_12 ?_
                refine z_iret gi_192_32 gr_192 ?_
                show zW _ _ _ _ _ _ _ _ _ _
                refine z_iret gi_221_42 gr_221 ?_
                refine ⟨?_, ?_⟩
                · first | rfl | exact congrArg (fun v => some (zi v)) (by omega) | (exfalso; omega)
                · exact hr
        · refine z_pushJ gp_146_9 ?_
          refine z_goto gi_146_10 ?_
          refine z_bret1 gi_146_14 gr_146 ?_
          show zW _ _ _ _ _ _ _ _ _ _
          refine z_if_neT gi_123_23 zr_1 (by decide) ?_
          refine z_aload0 gi_123_28 ?_
          refine z_getR (r := 10) gi_123_29 gk_0 (hR _ rm_0_2) ?_
          refine z_aload0 gi_123_32 ?_
          refine z_getR (r := 37) gi_123_33 gk_0 (hR _ rm_0_11) ?_
          refine z_iload1 gi_123_36 ?_
          refine z_aald (r := 38 + 2 * s.toNat) gi_123_37 rfl (by decide) (by omega) (rr_shelf hR (by omega)) ?_
          refine z_callVi (As := [_]) (le := [some _, some _, none, none, none]) gi_123_38 rfl gk_10 (Nat.le_of_ble_eq_true rfl) (Nat.le_of_ble_eq_true rfl) rfl ?_
          refine z_aload1 gi_78_0 ?_
          refine z_callVi (As := []) (le := [some _]) gi_78_1 rfl (zk_shelf (by omega)) (Nat.le_of_ble_eq_true rfl) (Nat.le_of_ble_eq_true rfl) rfl ?_
          refine z_aload0 gi_69_0 ?_
          refine z_getI (v := 1) gi_69_1 (zk_shelf (by omega)) (hh) ?_
          refine z_if_neT gi_69_4 zr_1 (by decide) ?_
          refine z_aload0 gi_69_10 ?_
          refine z_callVi (As := []) (le := [some _]) gi_69_11 rfl (zk_shelf (by omega)) (Nat.le_of_ble_eq_true rfl) (Nat.le_of_ble_eq_true rfl) rfl ?_
          refine z_aload0 gi_64_0 ?_
          refine z_getI (v := 1) gi_64_1 (zk_shelf (by omega)) (hh) ?_
          refine z_pushJ gp_64_4 ?_
          refine z_icmp_neT gi_64_5 zr_1 zr_2 (by decide) ?_
          refine z_pushJ gp_64_19 ?_
          refine z_bret0 gi_64_20 gr_64 ?_
          show zW _ _ _ _ _ _ _ _ _ _
          refine z_if_eqT gi_69_14 zr_0 (by decide) ?_
          refine z_pushJ gp_69_21 ?_
          refine z_iret gi_69_23 gr_69 ?_
          show zW _ _ _ _ _ _ _ _ _ _
          refine z_istore (ls1 := [some (.ref 10), some (.ref (38 + 2 * s.toNat)), some (zi (-12)), none, none]) gi_78_4 rfl ?_
          refine z_iload2 gi_78_5 ?_
          refine z_if_geF gi_78_6 zrn_12 (by decide) ?_
          refine z_iload2 gi_78_9 ?_
          refine z_iret gi_78_10 gr_78 ?_
          show zW _ _ _ _ _ _ _ _ _ _
          refine z_istore (ls1 := [some (.ref 0), some (zi s), some (zi sd), some (zi c), some (zi v), some (zi (-12))]) gi_123_41 rfl ?_
          refine z_iload5 gi_123_43 ?_
          refine z_if_geF gi_123_45 zrn_12 (by decide) ?_
          refine z_iload5 gi_123_48 ?_
          refine z_iret gi_123_50 gr_123 ?_
          refine ⟨_, rfl, ?_⟩
          show zW _ _ _ _ [some (.ref 50), some (zi s), some (zi sd), some (zi c), some (zi v), none, none, none, none, none, none] _ _ _ _ _
          refine z_iload1 gi_221_0 ?_
          refine z_cS1 gi_221_1 (Nat.le_of_ble_eq_true rfl) gc_248_I ?_
          refine z_iload0 gi_248_0 ?_
          refine z_pushJ gp_248_1 ?_
          refine z_pushJ gp_248_2 ?_
          refine z_cS3 gi_248_3 (Nat.le_of_ble_eq_true rfl) gc_148_III ?_
          refine z_iload0 gi_148_0 ?_
          refine z_iload1 gi_148_1 ?_
          refine z_icmp_ltF gi_148_2 (by omega) zr_0 (by omega) ?_
          refine z_iload0 gi_148_5 ?_
          refine z_iload2 gi_148_6 ?_
          refine z_icmp_gtF gi_148_7 (by omega) zr_5 (by omega) ?_
          refine z_pushJ gp_148_10 ?_
          refine z_goto gi_148_11 ?_
          refine z_bret1 gi_148_15 gr_148 ?_
          show zW _ _ _ _ _ _ _ _ _ _
          refine z_bret1 gi_248_6 gr_248 ?_
          show zW _ _ _ _ _ _ _ _ _ _
          refine z_if_eqF gi_221_4 zr_1 (by decide) ?_
          refine z_iload3 gi_221_7 ?_
          refine z_pushJ gp_221_8 ?_
          refine z_pushJ gp_221_9 ?_
          refine z_cS3 gi_221_11 (Nat.le_of_ble_eq_true rfl) gc_148_III ?_
          refine z_iload0 gi_148_0 ?_
          refine z_iload1 gi_148_1 ?_
          refine z_icmp_ltF gi_148_2 (by omega) zr_1 (by omega) ?_
          refine z_iload0 gi_148_5 ?_
          refine z_iload2 gi_148_6 ?_
          refine z_icmp_gtF gi_148_7 (by omega) zr_30 (by omega) ?_
          refine z_pushJ gp_148_10 ?_
          refine z_goto gi_148_11 ?_
          refine z_bret1 gi_148_15 gr_148 ?_
          show zW _ _ _ _ _ _ _ _ _ _
          refine z_if_eqF gi_221_14 zr_1 (by decide) ?_
          refine z_iload4 gi_221_17 ?_
          refine z_pushJ gp_221_19 ?_
          refine z_pushJ gp_221_20 ?_
          refine z_cS3 gi_221_21 (Nat.le_of_ble_eq_true rfl) gc_148_III ?_
          refine z_iload0 gi_148_0 ?_
          refine z_iload1 gi_148_1 ?_
          refine z_icmp_ltF gi_148_2 (by omega) zr_0 (by omega) ?_
          refine z_iload0 gi_148_5 ?_
          refine z_iload2 gi_148_6 ?_
          refine z_icmp_gtF gi_148_7 (by omega) zr_1 (by omega) ?_
          refine z_pushJ gp_148_10 ?_
          refine z_goto gi_148_11 ?_
          refine z_bret1 gi_148_15 gr_148 ?_
          show zW _ _ _ _ _ _ _ _ _ _
          refine z_if_neT gi_221_24 zr_1 (by decide) ?_
          refine z_aload0 gi_221_29 ?_
          refine z_iload1 gi_221_30 ?_
          refine z_cV1 gi_221_31 gk_50 go_192 (Nat.le_of_ble_eq_true rfl) gc_192_RI ?_
          refine z_aload0 gi_192_0 ?_
          refine z_getR (r := 83) gi_192_1 gk_50 (hRr _ rm_50_58 (by decide)) ?_
          refine z_iload1 gi_192_4 ?_
          refine z_iald (v := J (38 + 2 * s.toNat) 1) gi_192_5 gk_83 (by decide) (by omega) (e83) ?_
          refine z_pushJ gp_192_6 ?_
          refine z_icmp_ne gi_192_7 (by omega) zrn_1 (fun h5 => ?_) (fun h5 => ?_)
          · refine z_aload0 gi_192_15 ?_
            refine z_getR (r := 83) gi_192_16 gk_50 (hRr _ rm_50_58 (by decide)) ?_
            refine z_iload1 gi_192_19 ?_
            refine z_iald (v := J (38 + 2 * s.toNat) 1) gi_192_20 gk_83 (by decide) (by omega) (e83) ?_
            refine z_pushJ gp_192_21 ?_
            refine z_icmp_ne gi_192_23 (by omega) zrn_2 (fun h6 => ?_) (fun h6 => ?_)
            · refine z_pushJ gp_192_30 ?_
              refine z_iret gi_192_32 gr_192 ?_
              show zW _ _ _ _ _ _ _ _ _ _
              refine z_if_geF gi_221_34 zrn_12 (by decide) ?_
              refine z_aload0 gi_221_37 ?_
              refine z_iload1 gi_221_38 ?_
              refine z_cV1 gi_221_39 gk_50 go_192 (Nat.le_of_ble_eq_true rfl) gc_192_RI ?_
              refine z_aload0 gi_192_0 ?_
              refine z_getR (r := 83) gi_192_1 gk_50 (hRr _ rm_50_58 (by decide)) ?_
              refine z_iload1 gi_192_4 ?_
              refine z_iald (v := J (38 + 2 * s.toNat) 1) gi_192_5 gk_83 (by decide) (by omega) (e83) ?_
              refine z_pushJ gp_192_6 ?_
              refine z_icmp_ne gi_192_7 (by omega) zrn_1 (fun h7 => ?_) (fun h7 => ?_)
              · refine z_aload0 gi_192_15 ?_
                refine z_getR (r := 83) gi_192_16 gk_50 (hRr _ rm_50_58 (by decide)) ?_
                refine z_iload1 gi_192_19 ?_
                refine z_iald (v := J (38 + 2 * s.toNat) 1) gi_192_20 gk_83 (by decide) (by omega) (e83) ?_
                refine z_pushJ gp_192_21 ?_
                refine z_icmp_ne gi_192_23 (by omega) zrn_2 (fun h8 => ?_) (fun h8 => ?_)
                · refine z_pushJ gp_192_30 ?_
                  refine z_iret gi_192_32 gr_192 ?_
                  show zW _ _ _ _ _ _ _ _ _ _
                  refine z_iret gi_221_42 gr_221 ?_
                  refine ⟨?_, ?_⟩
                  · first | rfl | exact congrArg (fun v => some (zi v)) (by omega) | (exfalso; omega)
                  · exact hr
                · refine z_pushJ gp_192_26 ?_
                  refine z_goto gi_192_27 ?_
                  refine z_iret gi_192_32 gr_192 ?_
                  show zW _ _ _ _ _ _ _ _ _ _
                  refine z_iret gi_221_42 gr_221 ?_
                  refine ⟨?_, ?_⟩
                  · first | rfl | exact congrArg (fun v => some (zi v)) (by omega) | (exfalso; omega)
                  · exact hr
              · refine z_pushJ gp_192_10 ?_
                refine z_goto gi_192_12 ?_
                refine z_iret gi_192_32 gr_192 ?_
                show zW _ _ _ _ _ _ _ _ _ _
                refine z_iret gi_221_42 gr_221 ?_
                refine ⟨?_, ?_⟩
                · first | rfl | exact congrArg (fun v => some (zi v)) (by omega) | (exfalso; omega)
                · exact hr
            · refine z_pushJ gp_192_26 ?_
              refine z_goto gi_192_27 ?_
              refine z_iret gi_192_32 gr_192 ?_
              show zW _ _ _ _ _ _ _ _ _ _
              refine z_if_geT gi_221_34 zr_0 (by decide) ?_
              refine z_aload0 gi_221_43 ?_
              refine z_iload2 gi_221_44 ?_
              refine z_putI (y := 41) gi_221_45 rfl gk_50 ?_
              refine z_pushJ gp_221_48 ?_
              refine z_istore (ls1 := [some (.ref 50), some (zi s), some (zi sd), some (zi c), some (zi v), some (zi 0), none, none, none, none, none]) gi_221_49 rfl ?_
              refine z_pushJ gp_221_51 ?_
              refine z_istore (ls1 := [some (.ref 50), some (zi s), some (zi sd), some (zi c), some (zi v), some (zi 0), some (zi 0), none, none, none, none]) gi_221_52 rfl ?_
              refine z_aload0 gi_221_54 ?_
              exfalso
              omega
          · refine z_pushJ gp_192_10 ?_
            refine z_goto gi_192_12 ?_
            refine z_iret gi_192_32 gr_192 ?_
            show zW _ _ _ _ _ _ _ _ _ _
            refine z_if_geF gi_221_34 zrn_11 (by decide) ?_
            refine z_aload0 gi_221_37 ?_
            refine z_iload1 gi_221_38 ?_
            refine z_cV1 gi_221_39 gk_50 go_192 (Nat.le_of_ble_eq_true rfl) gc_192_RI ?_
            refine z_aload0 gi_192_0 ?_
            refine z_getR (r := 83) gi_192_1 gk_50 (hRr _ rm_50_58 (by decide)) ?_
            refine z_iload1 gi_192_4 ?_
            refine z_iald (v := J (38 + 2 * s.toNat) 1) gi_192_5 gk_83 (by decide) (by omega) (e83) ?_
            refine z_pushJ gp_192_6 ?_
            refine z_icmp_neF gi_192_7 (by omega) zrn_1 (by omega) ?_
            refine z_pushJ gp_192_10 ?_
            refine z_goto gi_192_12 ?_
            refine z_iret gi_192_32 gr_192 ?_
            show zW _ _ _ _ _ _ _ _ _ _
            refine z_iret gi_221_42 gr_221 ?_
            refine ⟨?_, ?_⟩
            · first | rfl | exact congrArg (fun v => some (zi v)) (by omega) | (exfalso; omega)
            · exact hr
theorem st_drawn_2 {X : Nat × (Nat → Int32)} {d : Nat} {J M : zA} {R : zR} {s sd c v : Int} (hr : Rel X J M R) (hs : -2147483648 ≤ s ∧ s < 2147483648) (hsd : -2147483648 ≤ sd ∧ sd < 2147483648) (hc : -2147483648 ≤ c ∧ c < 2147483648) (hv : -2147483648 ≤ v ∧ v < 2147483648) (hs6 : 0 ≤ s ∧ s < 6) (hh : J (38 + 2 * s.toNat) 0 = 2) (hso : ¬ J (38 + 2 * s.toNat) 2 = 0) : zW X (d + 20) 123 0 (gEn 123 [(.ref 0), (zi s), (zi sd), (zi c), (zi v)]) [] J M R (stP X (d + 20) 221 [(zi s), (zi sd), (zi c), (zi v)]) := by
  have hr0 := hr
  obtain ⟨hR, hG, hY, hD, hP, hC, hAc, hS, hTp, hX, hW⟩ := hr0
  have hRr : zRoR R := zRoR_of hR
  have hY0 := hY
  obtain ⟨y1, y2, y3⟩ := hY0
  have yn := zNn y3
  have hA0 := hAc
  obtain ⟨a1, a2, a3, a4, a5, a6⟩ := hA0
  have e83 : J 83 s = -2 - J (38 + 2 * s.toNat) 2 := (hS s hs6.1 hs6.2).1.symm.trans (cH_2 hh)
  have s3 : 0 ≤ J (38 + 2 * s.toNat) 2 ∧ J (38 + 2 * s.toNat) 2 ≤ 4 := (hS s hs6.1 hs6.2).2.2.1
  have s4 : 0 ≤ J (38 + 2 * s.toNat) 3 ∧ J (38 + 2 * s.toNat) 3 ≤ 60 := (hS s hs6.1 hs6.2).2.2.2.1
  have s6 := (hS s hs6.1 hs6.2).2.2.2.2.2 hh
  have s7 : J 84 s = J (38 + 2 * s.toNat) 3 := s6.1.symm
  have s8 : ∀ i, 0 ≤ i → i < J (38 + 2 * s.toNat) 3 → M (39 + 2 * s.toNat) i = M 85 (60 * s + i) := s6.2.1
  show zW _ _ _ _ [some (.ref 0), some (zi s), some (zi sd), some (zi c), some (zi v), none] _ _ _ _ _
  refine z_iload1 gi_123_0 ?_
  refine z_cS1 gi_123_1 (Nat.le_of_ble_eq_true rfl) gc_143_I ?_
  refine z_iload0 gi_143_0 ?_
  refine z_if_ltF gi_143_1 (by omega) (by omega) ?_
  refine z_iload0 gi_143_4 ?_
  refine z_pushJ gp_143_5 ?_
  refine z_icmp_geF gi_143_7 (by omega) zr_6 (by omega) ?_
  refine z_pushJ gp_143_10 ?_
  refine z_goto gi_143_11 ?_
  refine z_bret1 gi_143_15 gr_143 ?_
  show zW _ _ _ _ _ _ _ _ _ _
  refine z_if_eqF gi_123_4 zr_1 (by decide) ?_
  refine z_iload3 gi_123_7 ?_
  refine z_pushJ gp_123_8 ?_
  refine z_icmp_lt gi_123_9 (by omega) zr_1 (fun h1 => ?_) (fun h1 => ?_)
  · refine z_pushJ gp_123_26 ?_
    refine z_iret gi_123_27 gr_123 ?_
    refine ⟨_, rfl, ?_⟩
    show zW _ _ _ _ [some (.ref 50), some (zi s), some (zi sd), some (zi c), some (zi v), none, none, none, none, none, none] _ _ _ _ _
    refine z_iload1 gi_221_0 ?_
    refine z_cS1 gi_221_1 (Nat.le_of_ble_eq_true rfl) gc_248_I ?_
    refine z_iload0 gi_248_0 ?_
    refine z_pushJ gp_248_1 ?_
    refine z_pushJ gp_248_2 ?_
    refine z_cS3 gi_248_3 (Nat.le_of_ble_eq_true rfl) gc_148_III ?_
    refine z_iload0 gi_148_0 ?_
    refine z_iload1 gi_148_1 ?_
    refine z_icmp_ltF gi_148_2 (by omega) zr_0 (by omega) ?_
    refine z_iload0 gi_148_5 ?_
    refine z_iload2 gi_148_6 ?_
    refine z_icmp_gtF gi_148_7 (by omega) zr_5 (by omega) ?_
    refine z_pushJ gp_148_10 ?_
    refine z_goto gi_148_11 ?_
    refine z_bret1 gi_148_15 gr_148 ?_
    show zW _ _ _ _ _ _ _ _ _ _
    refine z_bret1 gi_248_6 gr_248 ?_
    show zW _ _ _ _ _ _ _ _ _ _
    refine z_if_eqF gi_221_4 zr_1 (by decide) ?_
    refine z_iload3 gi_221_7 ?_
    refine z_pushJ gp_221_8 ?_
    refine z_pushJ gp_221_9 ?_
    refine z_cS3 gi_221_11 (Nat.le_of_ble_eq_true rfl) gc_148_III ?_
    refine z_iload0 gi_148_0 ?_
    refine z_iload1 gi_148_1 ?_
    refine z_icmp_ltT gi_148_2 (by omega) zr_1 (by omega) ?_
    refine z_pushJ gp_148_14 ?_
    refine z_bret0 gi_148_15 gr_148 ?_
    show zW _ _ _ _ _ _ _ _ _ _
    refine z_if_eqT gi_221_14 zr_0 (by decide) ?_
    refine z_pushJ gp_221_27 ?_
    refine z_iret gi_221_28 gr_221 ?_
    refine ⟨?_, ?_⟩
    · first | rfl | exact congrArg (fun v => some (zi v)) (by omega) | (exfalso; omega)
    · exact hr
  · refine z_iload3 gi_123_12 ?_
    refine z_pushJ gp_123_13 ?_
    refine z_icmp_gt gi_123_15 (by omega) zr_30 (fun h2 => ?_) (fun h2 => ?_)
    · refine z_pushJ gp_123_26 ?_
      refine z_iret gi_123_27 gr_123 ?_
      refine ⟨_, rfl, ?_⟩
      show zW _ _ _ _ [some (.ref 50), some (zi s), some (zi sd), some (zi c), some (zi v), none, none, none, none, none, none] _ _ _ _ _
      refine z_iload1 gi_221_0 ?_
      refine z_cS1 gi_221_1 (Nat.le_of_ble_eq_true rfl) gc_248_I ?_
      refine z_iload0 gi_248_0 ?_
      refine z_pushJ gp_248_1 ?_
      refine z_pushJ gp_248_2 ?_
      refine z_cS3 gi_248_3 (Nat.le_of_ble_eq_true rfl) gc_148_III ?_
      refine z_iload0 gi_148_0 ?_
      refine z_iload1 gi_148_1 ?_
      refine z_icmp_ltF gi_148_2 (by omega) zr_0 (by omega) ?_
      refine z_iload0 gi_148_5 ?_
      refine z_iload2 gi_148_6 ?_
      refine z_icmp_gtF gi_148_7 (by omega) zr_5 (by omega) ?_
      refine z_pushJ gp_148_10 ?_
      refine z_goto gi_148_11 ?_
      refine z_bret1 gi_148_15 gr_148 ?_
      show zW _ _ _ _ _ _ _ _ _ _
      refine z_bret1 gi_248_6 gr_248 ?_
      show zW _ _ _ _ _ _ _ _ _ _
      refine z_if_eqF gi_221_4 zr_1 (by decide) ?_
      refine z_iload3 gi_221_7 ?_
      refine z_pushJ gp_221_8 ?_
      refine z_pushJ gp_221_9 ?_
      refine z_cS3 gi_221_11 (Nat.le_of_ble_eq_true rfl) gc_148_III ?_
      refine z_iload0 gi_148_0 ?_
      refine z_iload1 gi_148_1 ?_
      refine z_icmp_ltF gi_148_2 (by omega) zr_1 (by omega) ?_
      refine z_iload0 gi_148_5 ?_
      refine z_iload2 gi_148_6 ?_
      refine z_icmp_gtT gi_148_7 (by omega) zr_30 (by omega) ?_
      refine z_pushJ gp_148_14 ?_
      refine z_bret0 gi_148_15 gr_148 ?_
      show zW _ _ _ _ _ _ _ _ _ _
      refine z_if_eqT gi_221_14 zr_0 (by decide) ?_
      refine z_pushJ gp_221_27 ?_
      refine z_iret gi_221_28 gr_221 ?_
      refine ⟨?_, ?_⟩
      · first | rfl | exact congrArg (fun v => some (zi v)) (by omega) | (exfalso; omega)
      · exact hr
    · refine z_iload4 gi_123_18 ?_
      refine z_cS1 gi_123_20 (Nat.le_of_ble_eq_true rfl) gc_146_I ?_
      refine z_iload0 gi_146_0 ?_
      refine z_if_eq gi_146_1 (by omega) (fun h3 => ?_) (fun h3 => ?_)
      · refine z_pushJ gp_146_9 ?_
        refine z_goto gi_146_10 ?_
        refine z_bret1 gi_146_14 gr_146 ?_
        show zW _ _ _ _ _ _ _ _ _ _
        refine z_if_neT gi_123_23 zr_1 (by decide) ?_
        refine z_aload0 gi_123_28 ?_
        refine z_getR (r := 10) gi_123_29 gk_0 (hR _ rm_0_2) ?_
        refine z_aload0 gi_123_32 ?_
        refine z_getR (r := 37) gi_123_33 gk_0 (hR _ rm_0_11) ?_
        refine z_iload1 gi_123_36 ?_
        refine z_aald (r := 38 + 2 * s.toNat) gi_123_37 rfl (by decide) (by omega) (rr_shelf hR (by omega)) ?_
        refine z_callVi (As := [_]) (le := [some _, some _, none, none, none]) gi_123_38 rfl gk_10 (Nat.le_of_ble_eq_true rfl) (Nat.le_of_ble_eq_true rfl) rfl ?_
        refine z_aload1 gi_78_0 ?_
        refine z_callVi (As := []) (le := [some _]) gi_78_1 rfl (zk_shelf (by omega)) (Nat.le_of_ble_eq_true rfl) (Nat.le_of_ble_eq_true rfl) rfl ?_
        refine z_aload0 gi_69_0 ?_
        refine z_getI (v := 2) gi_69_1 (zk_shelf (by omega)) (hh) ?_
        refine z_if_neT gi_69_4 zr_2 (by decide) ?_
        refine z_aload0 gi_69_10 ?_
        refine z_callVi (As := []) (le := [some _]) gi_69_11 rfl (zk_shelf (by omega)) (Nat.le_of_ble_eq_true rfl) (Nat.le_of_ble_eq_true rfl) rfl ?_
        refine z_aload0 gi_64_0 ?_
        refine z_getI (v := 2) gi_64_1 (zk_shelf (by omega)) (hh) ?_
        refine z_pushJ gp_64_4 ?_
        refine z_icmp_neF gi_64_5 zr_2 zr_2 (by decide) ?_
        refine z_aload0 gi_64_8 ?_
        refine z_getI (v := J (38 + 2 * s.toNat) 2) gi_64_9 (zk_shelf (by omega)) (rfl) ?_
        refine z_if_neT gi_64_12 (by omega) (by omega) ?_
        refine z_pushJ gp_64_19 ?_
        refine z_bret0 gi_64_20 gr_64 ?_
        show zW _ _ _ _ _ _ _ _ _ _
        refine z_if_eqT gi_69_14 zr_0 (by decide) ?_
        refine z_pushJ gp_69_21 ?_
        refine z_iret gi_69_23 gr_69 ?_
        show zW _ _ _ _ _ _ _ _ _ _
        refine z_istore (ls1 := [some (.ref 10), some (.ref (38 + 2 * s.toNat)), some (zi (-12)), none, none]) gi_78_4 rfl ?_
        refine z_iload2 gi_78_5 ?_
        refine z_if_geF gi_78_6 zrn_12 (by decide) ?_
        refine z_iload2 gi_78_9 ?_
        refine z_iret gi_78_10 gr_78 ?_
        show zW _ _ _ _ _ _ _ _ _ _
        refine z_istore (ls1 := [some (.ref 0), some (zi s), some (zi sd), some (zi c), some (zi v), some (zi (-12))]) gi_123_41 rfl ?_
        refine z_iload5 gi_123_43 ?_
        refine z_if_geF gi_123_45 zrn_12 (by decide) ?_
        refine z_iload5 gi_123_48 ?_
        refine z_iret gi_123_50 gr_123 ?_
        refine ⟨_, rfl, ?_⟩
        show zW _ _ _ _ [some (.ref 50), some (zi s), some (zi sd), some (zi c), some (zi v), none, none, none, none, none, none] _ _ _ _ _
        refine z_iload1 gi_221_0 ?_
        refine z_cS1 gi_221_1 (Nat.le_of_ble_eq_true rfl) gc_248_I ?_
        refine z_iload0 gi_248_0 ?_
        refine z_pushJ gp_248_1 ?_
        refine z_pushJ gp_248_2 ?_
        refine z_cS3 gi_248_3 (Nat.le_of_ble_eq_true rfl) gc_148_III ?_
        refine z_iload0 gi_148_0 ?_
        refine z_iload1 gi_148_1 ?_
        refine z_icmp_ltF gi_148_2 (by omega) zr_0 (by omega) ?_
        refine z_iload0 gi_148_5 ?_
        refine z_iload2 gi_148_6 ?_
        refine z_icmp_gtF gi_148_7 (by omega) zr_5 (by omega) ?_
        refine z_pushJ gp_148_10 ?_
        refine z_goto gi_148_11 ?_
        refine z_bret1 gi_148_15 gr_148 ?_
        show zW _ _ _ _ _ _ _ _ _ _
        refine z_bret1 gi_248_6 gr_248 ?_
        show zW _ _ _ _ _ _ _ _ _ _
        refine z_if_eqF gi_221_4 zr_1 (by decide) ?_
        refine z_iload3 gi_221_7 ?_
        refine z_pushJ gp_221_8 ?_
        refine z_pushJ gp_221_9 ?_
        refine z_cS3 gi_221_11 (Nat.le_of_ble_eq_true rfl) gc_148_III ?_
        refine z_iload0 gi_148_0 ?_
        refine z_iload1 gi_148_1 ?_
        refine z_icmp_ltF gi_148_2 (by omega) zr_1 (by omega) ?_
        refine z_iload0 gi_148_5 ?_
        refine z_iload2 gi_148_6 ?_
        refine z_icmp_gtF gi_148_7 (by omega) zr_30 (by omega) ?_
        refine z_pushJ gp_148_10 ?_
        refine z_goto gi_148_11 ?_
        refine z_bret1 gi_148_15 gr_148 ?_
        show zW _ _ _ _ _ _ _ _ _ _
        refine z_if_eqF gi_221_14 zr_1 (by decide) ?_
        refine z_iload4 gi_221_17 ?_
        refine z_pushJ gp_221_19 ?_
        refine z_pushJ gp_221_20 ?_
        refine z_cS3 gi_221_21 (Nat.le_of_ble_eq_true rfl) gc_148_III ?_
        refine z_iload0 gi_148_0 ?_
        refine z_iload1 gi_148_1 ?_
        refine z_icmp_ltF gi_148_2 (by omega) zr_0 (by omega) ?_
        refine z_iload0 gi_148_5 ?_
        refine z_iload2 gi_148_6 ?_
        refine z_icmp_gtF gi_148_7 (by omega) zr_1 (by omega) ?_
        refine z_pushJ gp_148_10 ?_
        refine z_goto gi_148_11 ?_
        refine z_bret1 gi_148_15 gr_148 ?_
        show zW _ _ _ _ _ _ _ _ _ _
        refine z_if_neT gi_221_24 zr_1 (by decide) ?_
        refine z_aload0 gi_221_29 ?_
        refine z_iload1 gi_221_30 ?_
        refine z_cV1 gi_221_31 gk_50 go_192 (Nat.le_of_ble_eq_true rfl) gc_192_RI ?_
        refine z_aload0 gi_192_0 ?_
        refine z_getR (r := 83) gi_192_1 gk_50 (hRr _ rm_50_58 (by decide)) ?_
        refine z_iload1 gi_192_4 ?_
        refine z_iald (v := (-2) - (J (38 + 2 * s.toNat) 2)) gi_192_5 gk_83 (by decide) (by omega) (e83) ?_
        refine z_pushJ gp_192_6 ?_
        refine z_icmp_neT gi_192_7 (by omega) zrn_1 (by omega) ?_
        refine z_aload0 gi_192_15 ?_
        refine z_getR (r := 83) gi_192_16 gk_50 (hRr _ rm_50_58 (by decide)) ?_
        refine z_iload1 gi_192_19 ?_
        refine z_iald (v := (-2) - (J (38 + 2 * s.toNat) 2)) gi_192_20 gk_83 (by decide) (by omega) (e83) ?_
        refine z_pushJ gp_192_21 ?_
        refine z_icmp_neT gi_192_23 (by omega) zrn_2 (by omega) ?_
        refine z_pushJ gp_192_30 ?_
        refine z_iret gi_192_32 gr_192 ?_
        show zW _ _ _ _ _ _ _ _ _ _
        refine z_if_geF gi_221_34 zrn_12 (by decide) ?_
        refine z_aload0 gi_221_37 ?_
        refine z_iload1 gi_221_38 ?_
        refine z_cV1 gi_221_39 gk_50 go_192 (Nat.le_of_ble_eq_true rfl) gc_192_RI ?_
        refine z_aload0 gi_192_0 ?_
        refine z_getR (r := 83) gi_192_1 gk_50 (hRr _ rm_50_58 (by decide)) ?_
        refine z_iload1 gi_192_4 ?_
        refine z_iald (v := (-2) - (J (38 + 2 * s.toNat) 2)) gi_192_5 gk_83 (by decide) (by omega) (e83) ?_
        refine z_pushJ gp_192_6 ?_
        refine z_icmp_neT gi_192_7 (by omega) zrn_1 (by omega) ?_
        refine z_aload0 gi_192_15 ?_
        refine z_getR (r := 83) gi_192_16 gk_50 (hRr _ rm_50_58 (by decide)) ?_
        refine z_iload1 gi_192_19 ?_
        refine z_iald (v := (-2) - (J (38 + 2 * s.toNat) 2)) gi_192_20 gk_83 (by decide) (by omega) (e83) ?_
        refine z_pushJ gp_192_21 ?_
        refine z_icmp_neT gi_192_23 (by omega) zrn_2 (by omega) ?_
        refine z_pushJ gp_192_30 ?_
        refine z_iret gi_192_32 gr_192 ?_
        show zW _ _ _ _ _ _ _ _ _ _
        refine z_iret gi_221_42 gr_221 ?_
        refine ⟨?_, ?_⟩
        · first | rfl | exact congrArg (fun v => some (zi v)) (by omega) | (exfalso; omega)
        · exact hr
      · refine z_iload0 gi_146_4 ?_
        refine z_pushJ gp_146_5 ?_
        refine z_icmp_ne gi_146_6 (by omega) zr_1 (fun h4 => ?_) (fun h4 => ?_)
        · refine z_pushJ gp_146_13 ?_
          refine z_bret0 gi_146_14 gr_146 ?_
          show zW _ _ _ _ _ _ _ _ _ _
          refine z_if_neF gi_123_23 zr_0 (by decide) ?_
          refine z_pushJ gp_123_26 ?_
          refine z_iret gi_123_27 gr_123 ?_
          refine ⟨_, rfl, ?_⟩
          show zW _ _ _ _ [some (.ref 50), some (zi s), some (zi sd), some (zi c), some (zi v), none, none, none, none, none, none] _ _ _ _ _
          refine z_iload1 gi_221_0 ?_
          refine z_cS1 gi_221_1 (Nat.le_of_ble_eq_true rfl) gc_248_I ?_
          refine z_iload0 gi_248_0 ?_
          refine z_pushJ gp_248_1 ?_
          refine z_pushJ gp_248_2 ?_
          refine z_cS3 gi_248_3 (Nat.le_of_ble_eq_true rfl) gc_148_III ?_
          refine z_iload0 gi_148_0 ?_
          refine z_iload1 gi_148_1 ?_
          refine z_icmp_ltF gi_148_2 (by omega) zr_0 (by omega) ?_
          refine z_iload0 gi_148_5 ?_
          refine z_iload2 gi_148_6 ?_
          refine z_icmp_gtF gi_148_7 (by omega) zr_5 (by omega) ?_
          refine z_pushJ gp_148_10 ?_
          refine z_goto gi_148_11 ?_
          refine z_bret1 gi_148_15 gr_148 ?_
          show zW _ _ _ _ _ _ _ _ _ _
          refine z_bret1 gi_248_6 gr_248 ?_
          show zW _ _ _ _ _ _ _ _ _ _
          refine z_if_eqF gi_221_4 zr_1 (by decide) ?_
          refine z_iload3 gi_221_7 ?_
          refine z_pushJ gp_221_8 ?_
          refine z_pushJ gp_221_9 ?_
          refine z_cS3 gi_221_11 (Nat.le_of_ble_eq_true rfl) gc_148_III ?_
          refine z_iload0 gi_148_0 ?_
          refine z_iload1 gi_148_1 ?_
          refine z_icmp_ltF gi_148_2 (by omega) zr_1 (by omega) ?_
          refine z_iload0 gi_148_5 ?_
          refine z_iload2 gi_148_6 ?_
          refine z_icmp_gtF gi_148_7 (by omega) zr_30 (by omega) ?_
          refine z_pushJ gp_148_10 ?_
          refine z_goto gi_148_11 ?_
          refine z_bret1 gi_148_15 gr_148 ?_
          show zW _ _ _ _ _ _ _ _ _ _
          refine z_if_eqF gi_221_14 zr_1 (by decide) ?_
          refine z_iload4 gi_221_17 ?_
          refine z_pushJ gp_221_19 ?_
          refine z_pushJ gp_221_20 ?_
          refine z_cS3 gi_221_21 (Nat.le_of_ble_eq_true rfl) gc_148_III ?_
          refine z_iload0 gi_148_0 ?_
          refine z_iload1 gi_148_1 ?_
          refine z_icmp_lt gi_148_2 (by omega) zr_0 (fun h5 => ?_) (fun h5 => ?_)
          · refine z_pushJ gp_148_14 ?_
            refine z_bret0 gi_148_15 gr_148 ?_
            show zW _ _ _ _ _ _ _ _ _ _
            refine z_if_neF gi_221_24 zr_0 (by decide) ?_
            refine z_pushJ gp_221_27 ?_
            refine z_iret gi_221_28 gr_221 ?_
            refine ⟨?_, ?_⟩
            · first | rfl | exact congrArg (fun v => some (zi v)) (by omega) | (exfalso; omega)
            · exact hr
          · refine z_iload0 gi_148_5 ?_
            refine z_iload2 gi_148_6 ?_
            refine z_icmp_gt gi_148_7 (by omega) zr_1 (fun h6 => ?_) (fun h6 => ?_)
            · refine z_pushJ gp_148_14 ?_
              refine z_bret0 gi_148_15 gr_148 ?_
              show zW _ _ _ _ _ _ _ _ _ _
              refine z_if_neF gi_221_24 zr_0 (by decide) ?_
              refine z_pushJ gp_221_27 ?_
              refine z_iret gi_221_28 gr_221 ?_
              refine ⟨?_, ?_⟩
              · first | rfl | exact congrArg (fun v => some (zi v)) (by omega) | (exfalso; omega)
              · exact hr
            · refine z_pushJ gp_148_10 ?_
              refine z_goto gi_148_11 ?_
              refine z_bret1 gi_148_15 gr_148 ?_
              show zW _ _ _ _ _ _ _ _ _ _
              refine z_if_neT gi_221_24 zr_1 (by decide) ?_
              refine z_aload0 gi_221_29 ?_
              refine z_iload1 gi_221_30 ?_
              refine z_cV1 gi_221_31 gk_50 go_192 (Nat.le_of_ble_eq_true rfl) gc_192_RI ?_
              refine z_aload0 gi_192_0 ?_
              refine z_getR (r := 83) gi_192_1 gk_50 (hRr _ rm_50_58 (by decide)) ?_
              refine z_iload1 gi_192_4 ?_
              refine z_iald (v := (-2) - (J (38 + 2 * s.toNat) 2)) gi_192_5 gk_83 (by decide) (by omega) (e83) ?_
              refine z_pushJ gp_192_6 ?_
              refine z_icmp_neT gi_192_7 (by omega) zrn_1 (by omega) ?_
              refine z_aload0 gi_192_15 ?_
              refine z_getR (r := 83) gi_192_16 gk_50 (hRr _ rm_50_58 (by decide)) ?_
              refine z_iload1 gi_192_19 ?_
              refine z_iald (v := (-2) - (J (38 + 2 * s.toNat) 2)) gi_192_20 gk_83 (by decide) (by omega) (e83) ?_
              refine z_pushJ gp_192_21 ?_
              refine z_icmp_neT gi_192_23 (by omega) zrn_2 (by omega) ?_
              refine z_pushJ gp_192_30 ?_
              refine z_iret gi_192_32 gr_192 ?_
              show zW _ _ _ _ _ _ _ _ _ _
              refine z_if_geF gi_221_34 zrn_12 (by decide) ?_
              refine z_aload0 gi_221_37 ?_
              refine z_iload1 gi_221_38 ?_
              refine z_cV1 gi_221_39 gk_50 go_192 (Nat.le_of_ble_eq_true rfl) gc_192_RI ?_
              refine z_aload0 gi_192_0 ?_
              refine z_getR (r := 83) gi_192_1 gk_50 (hRr _ rm_50_58 (by decide)) ?_
              refine z_iload1 gi_192_4 ?_
              refine z_iald (v := (-2) - (J (38 + 2 * s.toNat) 2)) gi_192_5 gk_83 (by decide) (by omega) (e83) ?_
              refine z_pushJ gp_192_6 ?_
              refine z_icmp_neT gi_192_7 (by omega) zrn_1 (by omega) ?_
              refine z_aload0 gi_192_15 ?_
              refine z_getR (r := 83) gi_192_16 gk_50 (hRr _ rm_50_58 (by decide)) ?_
              refine z_iload1 gi_192_19 ?_
              refine z_iald (v := (-2) - (J (38 + 2 * s.toNat) 2)) gi_192_20 gk_83 (by decide) (by omega) (e83) ?_
              refine z_pushJ gp_192_21 ?_
              refine z_icmp_neT gi_192_23 (by omega) zrn_2 (by omega) ?_
              refine z_pushJ gp_192_30 ?_
              refine z_iret gi_192_32 gr_192 ?_
              show zW _ _ _ _ _ _ _ _ _ _
              refine z_iret gi_221_42 gr_221 ?_
              refine ⟨?_, ?_⟩
              · first | rfl | exact congrArg (fun v => some (zi v)) (by omega) | (exfalso; omega)
              · exact hr
        · refine z_pushJ gp_146_9 ?_
          refine z_goto gi_146_10 ?_
          refine z_bret1 gi_146_14 gr_146 ?_
          show zW _ _ _ _ _ _ _ _ _ _
          refine z_if_neT gi_123_23 zr_1 (by decide) ?_
          refine z_aload0 gi_123_28 ?_
          refine z_getR (r := 10) gi_123_29 gk_0 (hR _ rm_0_2) ?_
          refine z_aload0 gi_123_32 ?_
          refine z_getR (r := 37) gi_123_33 gk_0 (hR _ rm_0_11) ?_
          refine z_iload1 gi_123_36 ?_
          refine z_aald (r := 38 + 2 * s.toNat) gi_123_37 rfl (by decide) (by omega) (rr_shelf hR (by omega)) ?_
          refine z_callVi (As := [_]) (le := [some _, some _, none, none, none]) gi_123_38 rfl gk_10 (Nat.le_of_ble_eq_true rfl) (Nat.le_of_ble_eq_true rfl) rfl ?_
          refine z_aload1 gi_78_0 ?_
          refine z_callVi (As := []) (le := [some _]) gi_78_1 rfl (zk_shelf (by omega)) (Nat.le_of_ble_eq_true rfl) (Nat.le_of_ble_eq_true rfl) rfl ?_
          refine z_aload0 gi_69_0 ?_
          refine z_getI (v := 2) gi_69_1 (zk_shelf (by omega)) (hh) ?_
          refine z_if_neT gi_69_4 zr_2 (by decide) ?_
          refine z_aload0 gi_69_10 ?_
          refine z_callVi (As := []) (le := [some _]) gi_69_11 rfl (zk_shelf (by omega)) (Nat.le_of_ble_eq_true rfl) (Nat.le_of_ble_eq_true rfl) rfl ?_
          refine z_aload0 gi_64_0 ?_
          refine z_getI (v := 2) gi_64_1 (zk_shelf (by omega)) (hh) ?_
          refine z_pushJ gp_64_4 ?_
          refine z_icmp_neF gi_64_5 zr_2 zr_2 (by decide) ?_
          refine z_aload0 gi_64_8 ?_
          refine z_getI (v := J (38 + 2 * s.toNat) 2) gi_64_9 (zk_shelf (by omega)) (rfl) ?_
          refine z_if_neT gi_64_12 (by omega) (by omega) ?_
          refine z_pushJ gp_64_19 ?_
          refine z_bret0 gi_64_20 gr_64 ?_
          show zW _ _ _ _ _ _ _ _ _ _
          refine z_if_eqT gi_69_14 zr_0 (by decide) ?_
          refine z_pushJ gp_69_21 ?_
          refine z_iret gi_69_23 gr_69 ?_
          show zW _ _ _ _ _ _ _ _ _ _
          refine z_istore (ls1 := [some (.ref 10), some (.ref (38 + 2 * s.toNat)), some (zi (-12)), none, none]) gi_78_4 rfl ?_
          refine z_iload2 gi_78_5 ?_
          refine z_if_geF gi_78_6 zrn_12 (by decide) ?_
          refine z_iload2 gi_78_9 ?_
          refine z_iret gi_78_10 gr_78 ?_
          show zW _ _ _ _ _ _ _ _ _ _
          refine z_istore (ls1 := [some (.ref 0), some (zi s), some (zi sd), some (zi c), some (zi v), some (zi (-12))]) gi_123_41 rfl ?_
          refine z_iload5 gi_123_43 ?_
          refine z_if_geF gi_123_45 zrn_12 (by decide) ?_
          refine z_iload5 gi_123_48 ?_
          refine z_iret gi_123_50 gr_123 ?_
          refine ⟨_, rfl, ?_⟩
          show zW _ _ _ _ [some (.ref 50), some (zi s), some (zi sd), some (zi c), some (zi v), none, none, none, none, none, none] _ _ _ _ _
          refine z_iload1 gi_221_0 ?_
          refine z_cS1 gi_221_1 (Nat.le_of_ble_eq_true rfl) gc_248_I ?_
          refine z_iload0 gi_248_0 ?_
          refine z_pushJ gp_248_1 ?_
          refine z_pushJ gp_248_2 ?_
          refine z_cS3 gi_248_3 (Nat.le_of_ble_eq_true rfl) gc_148_III ?_
          refine z_iload0 gi_148_0 ?_
          refine z_iload1 gi_148_1 ?_
          refine z_icmp_ltF gi_148_2 (by omega) zr_0 (by omega) ?_
          refine z_iload0 gi_148_5 ?_
          refine z_iload2 gi_148_6 ?_
          refine z_icmp_gtF gi_148_7 (by omega) zr_5 (by omega) ?_
          refine z_pushJ gp_148_10 ?_
          refine z_goto gi_148_11 ?_
          refine z_bret1 gi_148_15 gr_148 ?_
          show zW _ _ _ _ _ _ _ _ _ _
          refine z_bret1 gi_248_6 gr_248 ?_
          show zW _ _ _ _ _ _ _ _ _ _
          refine z_if_eqF gi_221_4 zr_1 (by decide) ?_
          refine z_iload3 gi_221_7 ?_
          refine z_pushJ gp_221_8 ?_
          refine z_pushJ gp_221_9 ?_
          refine z_cS3 gi_221_11 (Nat.le_of_ble_eq_true rfl) gc_148_III ?_
          refine z_iload0 gi_148_0 ?_
          refine z_iload1 gi_148_1 ?_
          refine z_icmp_ltF gi_148_2 (by omega) zr_1 (by omega) ?_
          refine z_iload0 gi_148_5 ?_
          refine z_iload2 gi_148_6 ?_
          refine z_icmp_gtF gi_148_7 (by omega) zr_30 (by omega) ?_
          refine z_pushJ gp_148_10 ?_
          refine z_goto gi_148_11 ?_
          refine z_bret1 gi_148_15 gr_148 ?_
          show zW _ _ _ _ _ _ _ _ _ _
          refine z_if_eqF gi_221_14 zr_1 (by decide) ?_
          refine z_iload4 gi_221_17 ?_
          refine z_pushJ gp_221_19 ?_
          refine z_pushJ gp_221_20 ?_
          refine z_cS3 gi_221_21 (Nat.le_of_ble_eq_true rfl) gc_148_III ?_
          refine z_iload0 gi_148_0 ?_
          refine z_iload1 gi_148_1 ?_
          refine z_icmp_ltF gi_148_2 (by omega) zr_0 (by omega) ?_
          refine z_iload0 gi_148_5 ?_
          refine z_iload2 gi_148_6 ?_
          refine z_icmp_gtF gi_148_7 (by omega) zr_1 (by omega) ?_
          refine z_pushJ gp_148_10 ?_
          refine z_goto gi_148_11 ?_
          refine z_bret1 gi_148_15 gr_148 ?_
          show zW _ _ _ _ _ _ _ _ _ _
          refine z_if_neT gi_221_24 zr_1 (by decide) ?_
          refine z_aload0 gi_221_29 ?_
          refine z_iload1 gi_221_30 ?_
          refine z_cV1 gi_221_31 gk_50 go_192 (Nat.le_of_ble_eq_true rfl) gc_192_RI ?_
          refine z_aload0 gi_192_0 ?_
          refine z_getR (r := 83) gi_192_1 gk_50 (hRr _ rm_50_58 (by decide)) ?_
          refine z_iload1 gi_192_4 ?_
          refine z_iald (v := (-2) - (J (38 + 2 * s.toNat) 2)) gi_192_5 gk_83 (by decide) (by omega) (e83) ?_
          refine z_pushJ gp_192_6 ?_
          refine z_icmp_neT gi_192_7 (by omega) zrn_1 (by omega) ?_
          refine z_aload0 gi_192_15 ?_
          refine z_getR (r := 83) gi_192_16 gk_50 (hRr _ rm_50_58 (by decide)) ?_
          refine z_iload1 gi_192_19 ?_
          refine z_iald (v := (-2) - (J (38 + 2 * s.toNat) 2)) gi_192_20 gk_83 (by decide) (by omega) (e83) ?_
          refine z_pushJ gp_192_21 ?_
          refine z_icmp_neT gi_192_23 (by omega) zrn_2 (by omega) ?_
          refine z_pushJ gp_192_30 ?_
          refine z_iret gi_192_32 gr_192 ?_
          show zW _ _ _ _ _ _ _ _ _ _
          refine z_if_geF gi_221_34 zrn_12 (by decide) ?_
          refine z_aload0 gi_221_37 ?_
          refine z_iload1 gi_221_38 ?_
          refine z_cV1 gi_221_39 gk_50 go_192 (Nat.le_of_ble_eq_true rfl) gc_192_RI ?_
          refine z_aload0 gi_192_0 ?_
          refine z_getR (r := 83) gi_192_1 gk_50 (hRr _ rm_50_58 (by decide)) ?_
          refine z_iload1 gi_192_4 ?_
          refine z_iald (v := (-2) - (J (38 + 2 * s.toNat) 2)) gi_192_5 gk_83 (by decide) (by omega) (e83) ?_
          refine z_pushJ gp_192_6 ?_
          refine z_icmp_neT gi_192_7 (by omega) zrn_1 (by omega) ?_
          refine z_aload0 gi_192_15 ?_
          refine z_getR (r := 83) gi_192_16 gk_50 (hRr _ rm_50_58 (by decide)) ?_
          refine z_iload1 gi_192_19 ?_
          refine z_iald (v := (-2) - (J (38 + 2 * s.toNat) 2)) gi_192_20 gk_83 (by decide) (by omega) (e83) ?_
          refine z_pushJ gp_192_21 ?_
          refine z_icmp_neT gi_192_23 (by omega) zrn_2 (by omega) ?_
          refine z_pushJ gp_192_30 ?_
          refine z_iret gi_192_32 gr_192 ?_
          show zW _ _ _ _ _ _ _ _ _ _
          refine z_iret gi_221_42 gr_221 ?_
          refine ⟨?_, ?_⟩
          · first | rfl | exact congrArg (fun v => some (zi v)) (by omega) | (exfalso; omega)
          · exact hr
theorem st_drawn_m {X : Nat × (Nat → Int32)} {d : Nat} {J M : zA} {R : zR} {s sd c v : Int} (hr : Rel X J M R) (hs : -2147483648 ≤ s ∧ s < 2147483648) (hsd : -2147483648 ≤ sd ∧ sd < 2147483648) (hc : -2147483648 ≤ c ∧ c < 2147483648) (hv : -2147483648 ≤ v ∧ v < 2147483648) (hs6 : 0 ≤ s ∧ s < 6) (hh : J (38 + 2 * s.toNat) 0 = 2) (hso : J (38 + 2 * s.toNat) 2 = 0) : zW X (d + 20) 123 0 (gEn 123 [(.ref 0), (zi s), (zi sd), (zi c), (zi v)]) [] J M R (stP X (d + 20) 221 [(zi s), (zi sd), (zi c), (zi v)]) := by
  have hr0 := hr
  obtain ⟨hR, hG, hY, hD, hP, hC, hAc, hS, hTp, hX, hW⟩ := hr0
  have hRr : zRoR R := zRoR_of hR
  have hY0 := hY
  obtain ⟨y1, y2, y3⟩ := hY0
  have yn := zNn y3
  have e83 : J 83 s = -2 - J (38 + 2 * s.toNat) 2 := (hS s hs6.1 hs6.2).1.symm.trans (cH_2 hh)
  have s3 : 0 ≤ J (38 + 2 * s.toNat) 2 ∧ J (38 + 2 * s.toNat) 2 ≤ 4 := (hS s hs6.1 hs6.2).2.2.1
  have s4 : 0 ≤ J (38 + 2 * s.toNat) 3 ∧ J (38 + 2 * s.toNat) 3 ≤ 60 := (hS s hs6.1 hs6.2).2.2.2.1
  have s6 := (hS s hs6.1 hs6.2).2.2.2.2.2 hh
  have s7 : J 84 s = J (38 + 2 * s.toNat) 3 := s6.1.symm
  have s8 : ∀ i, 0 ≤ i → i < J (38 + 2 * s.toNat) 3 → M (39 + 2 * s.toNat) i = M 85 (60 * s + i) := s6.2.1
  have e83n : J 83 s = -2 := e83.trans (by omega)
  have hbr := s6.2.2 hso
  have hX0 := hX
  obtain ⟨T, t1, t2, t3⟩ := hX0
  show zW _ _ _ _ [some (.ref 0), some (zi s), some (zi sd), some (zi c), some (zi v), none] _ _ _ _ _
  refine z_iload1 gi_123_0 ?_
  refine z_cS1 gi_123_1 (Nat.le_of_ble_eq_true rfl) gc_143_I ?_
  refine z_iload0 gi_143_0 ?_
  refine z_if_ltF gi_143_1 (by omega) (by omega) ?_
  refine z_iload0 gi_143_4 ?_
  refine z_pushJ gp_143_5 ?_
  refine z_icmp_geF gi_143_7 (by omega) zr_6 (by omega) ?_
  refine z_pushJ gp_143_10 ?_
  refine z_goto gi_143_11 ?_
  refine z_bret1 gi_143_15 gr_143 ?_
  show zW _ _ _ _ _ _ _ _ _ _
  refine z_if_eqF gi_123_4 zr_1 (by decide) ?_
  refine z_iload3 gi_123_7 ?_
  refine z_pushJ gp_123_8 ?_
  refine z_icmp_lt gi_123_9 (by omega) zr_1 (fun h1 => ?_) (fun h1 => ?_)
  · refine z_pushJ gp_123_26 ?_
    refine z_iret gi_123_27 gr_123 ?_
    refine ⟨_, rfl, ?_⟩
    show zW _ _ _ _ [some (.ref 50), some (zi s), some (zi sd), some (zi c), some (zi v), none, none, none, none, none, none] _ _ _ _ _
    refine z_iload1 gi_221_0 ?_
    refine z_cS1 gi_221_1 (Nat.le_of_ble_eq_true rfl) gc_248_I ?_
    refine z_iload0 gi_248_0 ?_
    refine z_pushJ gp_248_1 ?_
    refine z_pushJ gp_248_2 ?_
    refine z_cS3 gi_248_3 (Nat.le_of_ble_eq_true rfl) gc_148_III ?_
    refine z_iload0 gi_148_0 ?_
    refine z_iload1 gi_148_1 ?_
    refine z_icmp_ltF gi_148_2 (by omega) zr_0 (by omega) ?_
    refine z_iload0 gi_148_5 ?_
    refine z_iload2 gi_148_6 ?_
    refine z_icmp_gtF gi_148_7 (by omega) zr_5 (by omega) ?_
    refine z_pushJ gp_148_10 ?_
    refine z_goto gi_148_11 ?_
    refine z_bret1 gi_148_15 gr_148 ?_
    show zW _ _ _ _ _ _ _ _ _ _
    refine z_bret1 gi_248_6 gr_248 ?_
    show zW _ _ _ _ _ _ _ _ _ _
    refine z_if_eqF gi_221_4 zr_1 (by decide) ?_
    refine z_iload3 gi_221_7 ?_
    refine z_pushJ gp_221_8 ?_
    refine z_pushJ gp_221_9 ?_
    refine z_cS3 gi_221_11 (Nat.le_of_ble_eq_true rfl) gc_148_III ?_
    refine z_iload0 gi_148_0 ?_
    refine z_iload1 gi_148_1 ?_
    refine z_icmp_ltT gi_148_2 (by omega) zr_1 (by omega) ?_
    refine z_pushJ gp_148_14 ?_
    refine z_bret0 gi_148_15 gr_148 ?_
    show zW _ _ _ _ _ _ _ _ _ _
    refine z_if_eqT gi_221_14 zr_0 (by decide) ?_
    refine z_pushJ gp_221_27 ?_
    refine z_iret gi_221_28 gr_221 ?_
    refine ⟨?_, ?_⟩
    · first | rfl | exact congrArg (fun v => some (zi v)) (by omega) | (exfalso; omega)
    · exact hr
  · refine z_iload3 gi_123_12 ?_
    refine z_pushJ gp_123_13 ?_
    refine z_icmp_gt gi_123_15 (by omega) zr_30 (fun h2 => ?_) (fun h2 => ?_)
    · refine z_pushJ gp_123_26 ?_
      refine z_iret gi_123_27 gr_123 ?_
      refine ⟨_, rfl, ?_⟩
      show zW _ _ _ _ [some (.ref 50), some (zi s), some (zi sd), some (zi c), some (zi v), none, none, none, none, none, none] _ _ _ _ _
      refine z_iload1 gi_221_0 ?_
      refine z_cS1 gi_221_1 (Nat.le_of_ble_eq_true rfl) gc_248_I ?_
      refine z_iload0 gi_248_0 ?_
      refine z_pushJ gp_248_1 ?_
      refine z_pushJ gp_248_2 ?_
      refine z_cS3 gi_248_3 (Nat.le_of_ble_eq_true rfl) gc_148_III ?_
      refine z_iload0 gi_148_0 ?_
      refine z_iload1 gi_148_1 ?_
      refine z_icmp_ltF gi_148_2 (by omega) zr_0 (by omega) ?_
      refine z_iload0 gi_148_5 ?_
      refine z_iload2 gi_148_6 ?_
      refine z_icmp_gtF gi_148_7 (by omega) zr_5 (by omega) ?_
      refine z_pushJ gp_148_10 ?_
      refine z_goto gi_148_11 ?_
      refine z_bret1 gi_148_15 gr_148 ?_
      show zW _ _ _ _ _ _ _ _ _ _
      refine z_bret1 gi_248_6 gr_248 ?_
      show zW _ _ _ _ _ _ _ _ _ _
      refine z_if_eqF gi_221_4 zr_1 (by decide) ?_
      refine z_iload3 gi_221_7 ?_
      refine z_pushJ gp_221_8 ?_
      refine z_pushJ gp_221_9 ?_
      refine z_cS3 gi_221_11 (Nat.le_of_ble_eq_true rfl) gc_148_III ?_
      refine z_iload0 gi_148_0 ?_
      refine z_iload1 gi_148_1 ?_
      refine z_icmp_ltF gi_148_2 (by omega) zr_1 (by omega) ?_
      refine z_iload0 gi_148_5 ?_
      refine z_iload2 gi_148_6 ?_
      refine z_icmp_gtT gi_148_7 (by omega) zr_30 (by omega) ?_
      refine z_pushJ gp_148_14 ?_
      refine z_bret0 gi_148_15 gr_148 ?_
      show zW _ _ _ _ _ _ _ _ _ _
      refine z_if_eqT gi_221_14 zr_0 (by decide) ?_
      refine z_pushJ gp_221_27 ?_
      refine z_iret gi_221_28 gr_221 ?_
      refine ⟨?_, ?_⟩
      · first | rfl | exact congrArg (fun v => some (zi v)) (by omega) | (exfalso; omega)
      · exact hr
    · refine z_iload4 gi_123_18 ?_
      refine z_cS1 gi_123_20 (Nat.le_of_ble_eq_true rfl) gc_146_I ?_
      refine z_iload0 gi_146_0 ?_
      refine z_if_eq gi_146_1 (by omega) (fun h3 => ?_) (fun h3 => ?_)
      · refine z_pushJ gp_146_9 ?_
        refine z_goto gi_146_10 ?_
        refine z_bret1 gi_146_14 gr_146 ?_
        show zW _ _ _ _ _ _ _ _ _ _
        refine z_if_neT gi_123_23 zr_1 (by decide) ?_
        refine z_aload0 gi_123_28 ?_
        refine z_getR (r := 10) gi_123_29 gk_0 (hR _ rm_0_2) ?_
        refine z_aload0 gi_123_32 ?_
        refine z_getR (r := 37) gi_123_33 gk_0 (hR _ rm_0_11) ?_
        refine z_iload1 gi_123_36 ?_
        refine z_aald (r := 38 + 2 * s.toNat) gi_123_37 rfl (by decide) (by omega) (rr_shelf hR (by omega)) ?_
        have hk1 : zK kP J J := zK_r
        refine z_callV (As := [_]) _ gi_123_38 rfl rfl (Nat.le_of_ble_eq_true rfl) (Nat.le_of_ble_eq_true rfl) (follow_k (J := J) (N := (cN J)) (n := J 8 2) (T := T) (s := s) (w := J 10 12) (z := (J (38 + 2 * s.toNat) 3)) (b := (fun i => M (39 + 2 * s.toNat) i)) hR (cN_P hk1) (hk1 8 2 rfl) y3 (LawC_P t2 hk1) t1 hs6 (fun _ _ _ => rfl) hbr (hk1 _ 3 (kP_b (by omega))) s4 ((hk1 _ 0 (kP_b (by omega))).trans hh) ((hk1 _ 2 (kP_b (by omega))).trans hso) rfl hW.1) (fun r J2 M2 R2 hr2 => ?_)
        obtain ⟨rfl, K, hE, hK30, hk3, hc2, hw2, eM, eR⟩ := hr2
        obtain rfl : M = M2 := eM.symm
        obtain rfl : R = R2 := eR.symm
        show zW _ _ _ _ _ (_ :: _) _ _ _ _
        have hk2 := zK_t hk1 hk3
        have hn2 : J2 8 2 = J 8 2 := hk2 8 2 rfl
        have hks : zK kS J J2 := kS_Pw hk3 (hc2.2.2.2.2.1.trans (Eq.symm rfl))
        obtain ⟨S, eS⟩ : ∃ S, S = tS T (cN J) (J 8 2) (fun i => M (39 + 2 * s.toNat) i) (J 10 12) K := ⟨_, rfl⟩
        have hi0 := (tS_r y3 K hE.1).1
        have hz0 := tS_z K hE.1
        rw [← eS] at hc2 hi0 hz0
        have hi := tI_30 hi0 (by omega)
        have qi := hi.2.2
        have hfc : ∀ p, 0 ≤ p → p < 8 → J2 11 p = tsh S p := fun p q1 q2 => hc2.2.2.2.2.2.2.1 p q1 q2
        refine z_istore (ls1 := [some (.ref 0), some (zi s), some (zi sd), some (zi c), some (zi v), some (zi 0)]) gi_123_41 rfl ?_
        refine z_iload5 gi_123_43 ?_
        refine z_if_geT gi_123_45 zr_0 (by decide) ?_
        refine z_aload0 gi_123_51 ?_
        refine z_getR (r := 21) gi_123_52 gk_0 (hR _ rm_0_4) ?_
        refine z_iload2 gi_123_55 ?_
        refine z_iload3 gi_123_56 ?_
        have hbn : ∀ k : Nat, k < K → 0 ≤ (fun i => M (39 + 2 * s.toNat) i) (2 * (k : Int)) := fun k hk => (hE.1 k hk).2.1.1
        refine z_callV (As := [_, _]) _ gi_123_57 rfl rfl (Nat.le_of_ble_eq_true rfl) (Nat.le_of_ble_eq_true rfl) (drawAll_k (A := J2) (w := J 10 12) (K := K) hR (cN_P hk2) hn2 y3 (LawC_P t2 hk2) t1 hw2 hK30 zK_r hc2.1 hE.1 hbn (by omega)) (fun r J3 M3 R3 h3 => ?_)
        obtain ⟨rfl, hJ3, eM3, eR3⟩ := h3
        obtain rfl : M = M3 := eM3.symm
        obtain rfl : R = R3 := eR3.symm
        show zW _ _ _ _ _ _ _ _ _ _
        have hks2 := zK_t hks (zK_t (zK_x (a := 21) (x := 4) (v := (da T (cN J) (J 8 2) (fun i => M (39 + 2 * s.toNat) i) (J 10 12) K c.toNat (sd, 0, 0)).2.2) (zK_x (a := 21) (x := 3) (v := (da T (cN J) (J 8 2) (fun i => M (39 + 2 * s.toNat) i) (J 10 12) K c.toNat (sd, 0, 0)).2.1) (zK_x (a := 21) (x := 2) (v := (da T (cN J) (J 8 2) (fun i => M (39 + 2 * s.toNat) i) (J 10 12) K c.toNat (sd, 0, 0)).1) zK_r rfl) rfl) rfl) (zK_m hJ3 kS_T))
        refine z_iload4 gi_123_60 ?_
        refine z_if_neF gi_123_62 (by omega) (by omega) ?_
        refine z_aload0 rfl ?_
        refine z_getR (r := 21) rfl gk_0 (hR _ rm_0_4) ?_
        refine z_getI (v := (da T (cN J) (J 8 2) (fun i => M (39 + 2 * s.toNat) i) (J 10 12) K c.toNat (sd, 0, 0)).2.1) rfl gk_21 (hJ3 21 3 rfl) ?_
        refine z_goto rfl ?_
        refine z_iret gi_123_82 gr_123 ?_
        refine ⟨_, rfl, ?_⟩
        show zW _ _ _ _ [some (.ref 50), some (zi s), some (zi sd), some (zi c), some (zi v), none, none, none, none, none, none] _ _ _ _ _
        refine z_iload1 gi_221_0 ?_
        refine z_cS1 gi_221_1 (Nat.le_of_ble_eq_true rfl) gc_248_I ?_
        refine z_iload0 gi_248_0 ?_
        refine z_pushJ gp_248_1 ?_
        refine z_pushJ gp_248_2 ?_
        refine z_cS3 gi_248_3 (Nat.le_of_ble_eq_true rfl) gc_148_III ?_
        refine z_iload0 gi_148_0 ?_
        refine z_iload1 gi_148_1 ?_
        refine z_icmp_ltF gi_148_2 (by omega) zr_0 (by omega) ?_
        refine z_iload0 gi_148_5 ?_
        refine z_iload2 gi_148_6 ?_
        refine z_icmp_gtF gi_148_7 (by omega) zr_5 (by omega) ?_
        refine z_pushJ gp_148_10 ?_
        refine z_goto gi_148_11 ?_
        refine z_bret1 gi_148_15 gr_148 ?_
        show zW _ _ _ _ _ _ _ _ _ _
        refine z_bret1 gi_248_6 gr_248 ?_
        show zW _ _ _ _ _ _ _ _ _ _
        refine z_if_eqF gi_221_4 zr_1 (by decide) ?_
        refine z_iload3 gi_221_7 ?_
        refine z_pushJ gp_221_8 ?_
        refine z_pushJ gp_221_9 ?_
        refine z_cS3 gi_221_11 (Nat.le_of_ble_eq_true rfl) gc_148_III ?_
        refine z_iload0 gi_148_0 ?_
        refine z_iload1 gi_148_1 ?_
        refine z_icmp_ltF gi_148_2 (by omega) zr_1 (by omega) ?_
        refine z_iload0 gi_148_5 ?_
        refine z_iload2 gi_148_6 ?_
        refine z_icmp_gtF gi_148_7 (by omega) zr_30 (by omega) ?_
        refine z_pushJ gp_148_10 ?_
        refine z_goto gi_148_11 ?_
        refine z_bret1 gi_148_15 gr_148 ?_
        show zW _ _ _ _ _ _ _ _ _ _
        refine z_if_eqF gi_221_14 zr_1 (by decide) ?_
        refine z_iload4 gi_221_17 ?_
        refine z_pushJ gp_221_19 ?_
        refine z_pushJ gp_221_20 ?_
        refine z_cS3 gi_221_21 (Nat.le_of_ble_eq_true rfl) gc_148_III ?_
        refine z_iload0 gi_148_0 ?_
        refine z_iload1 gi_148_1 ?_
        refine z_icmp_ltF gi_148_2 (by omega) zr_0 (by omega) ?_
        refine z_iload0 gi_148_5 ?_
        refine z_iload2 gi_148_6 ?_
        refine z_icmp_gtF gi_148_7 (by omega) zr_1 (by omega) ?_
        refine z_pushJ gp_148_10 ?_
        refine z_goto gi_148_11 ?_
        refine z_bret1 gi_148_15 gr_148 ?_
        show zW _ _ _ _ _ _ _ _ _ _
        refine z_if_neT gi_221_24 zr_1 (by decide) ?_
        refine z_aload0 gi_221_29 ?_
        refine z_iload1 gi_221_30 ?_
        refine z_cV1 gi_221_31 gk_50 go_192 (Nat.le_of_ble_eq_true rfl) gc_192_RI ?_
        refine z_aload0 gi_192_0 ?_
        refine z_getR (r := 83) gi_192_1 gk_50 (hRr _ rm_50_58 (by decide)) ?_
        refine z_iload1 gi_192_4 ?_
        refine z_iald (v := (-2)) gi_192_5 gk_83 (by decide) (by omega) ((hks2 83 _ rfl).trans e83n) ?_
        refine z_pushJ gp_192_6 ?_
        refine z_icmp_neT gi_192_7 zrn_2 zrn_1 (by decide) ?_
        refine z_aload0 gi_192_15 ?_
        refine z_getR (r := 83) gi_192_16 gk_50 (hRr _ rm_50_58 (by decide)) ?_
        refine z_iload1 gi_192_19 ?_
        refine z_iald (v := (-2)) gi_192_20 gk_83 (by decide) (by omega) ((hks2 83 _ rfl).trans e83n) ?_
        refine z_pushJ gp_192_21 ?_
        refine z_icmp_neF gi_192_23 zrn_2 zrn_2 (by decide) ?_
        refine z_pushJ gp_192_26 ?_
        refine z_goto gi_192_27 ?_
        refine z_iret gi_192_32 gr_192 ?_
        show zW _ _ _ _ _ _ _ _ _ _
        refine z_if_geT gi_221_34 zr_0 (by decide) ?_
        refine z_aload0 gi_221_43 ?_
        refine z_iload2 gi_221_44 ?_
        refine z_putI (y := 41) gi_221_45 rfl gk_50 ?_
        refine z_pushJ gp_221_48 ?_
        refine z_istore (ls1 := [some (.ref 50), some (zi s), some (zi sd), some (zi c), some (zi v), some (zi 0), none, none, none, none, none]) gi_221_49 rfl ?_
        refine z_pushJ gp_221_51 ?_
        refine z_istore (ls1 := [some (.ref 50), some (zi s), some (zi sd), some (zi c), some (zi v), some (zi 0), some (zi 0), none, none, none, none]) gi_221_52 rfl ?_
        refine z_aload0 gi_221_54 ?_
        have hVa := zK_x (a := 50) (x := 41) (v := sd) (zK_m hks2 kV_S) rfl
        refine z_callVP (As := []) (v := sAll (cN J) (J 8 2).toNat) gi_221_55 rfl gk_50 (Nat.le_of_ble_eq_true rfl) (Nat.le_of_ble_eq_true rfl) (rallOdds_k (n := J 8 2) hRr zK_r ((rN_V hVa).trans y1.symm) ((hVa 50 1 rfl).trans y2.symm) y3) ?_
        refine z_istore (ls1 := [some (.ref 50), some (zi s), some (zi sd), some (zi c), some (zi v), some (zi 0), some (zi 0), some (zi (sAll (cN J) (J 8 2).toNat)), none, none, none]) gi_221_58 rfl ?_
        refine z_pushJ gp_221_60 ?_
        refine z_istore (ls1 := [some (.ref 50), some (zi s), some (zi sd), some (zi c), some (zi v), some (zi 0), some (zi 0), some (zi (sAll (cN J) (J 8 2).toNat)), some (zi 0), none, none]) gi_221_61 rfl ?_
        show zW _ _ _ _ [some (.ref 50), some (zi s), some (zi sd), some (zi c), some (zi v), some (zi 0), some (zi 0), some (zi (sAll (cN J) (J 8 2).toNat)), some (zi 0), none, none] [] _ _ _ _
        refine drawnR_z (A := zU J3 50 41 sd) (T := T) (n := J 8 2) (z0 := (J (38 + 2 * s.toNat) 3)) (b := (fun i => M (39 + 2 * s.toNat) i)) (K := K) (d := d + 11) hRr ((rN_V hVa).trans y1.symm) ((hVa 50 1 rfl).trans y2.symm) y3 (LawR_V t3 hVa) t1 hs6 (fun i i1 i2 => (s8 i i1 i2).symm) hbr ((zU_n (by decide)).trans ((hks2 84 _ rfl).trans s7)) s4 (tEnd_v 0 hE) hK30 ((zU_x (by decide)).trans ((hks2 50 35 rfl).trans hW.2)) (by omega) c.toNat 0 (sd, 0, 0) none none _ zK_r zU_e (by omega) (fun JF e9 e10 hF => ?_)
        rw [da_w (w := 0) (v := J 10 12)]
        have hsF := zK_t (zK_x (a := 50) (x := 41) (v := sd) hks2 rfl) hF
        refine z_iload4 gi_221_151 ?_
        refine z_if_neF gi_221_153 (by omega) (by omega) ?_
        refine z_iload5 rfl ?_
        refine z_goto rfl ?_
        refine z_iret gi_221_163 gr_221 ?_
        refine ⟨?_, ?_⟩
        · first | rfl | exact congrArg (fun v => some (zi v)) (by omega) | (exfalso; omega)
        · exact Rel_S hsF zK_r hr
      · refine z_iload0 gi_146_4 ?_
        refine z_pushJ gp_146_5 ?_
        refine z_icmp_ne gi_146_6 (by omega) zr_1 (fun h4 => ?_) (fun h4 => ?_)
        · refine z_pushJ gp_146_13 ?_
          refine z_bret0 gi_146_14 gr_146 ?_
          show zW _ _ _ _ _ _ _ _ _ _
          refine z_if_neF gi_123_23 zr_0 (by decide) ?_
          refine z_pushJ gp_123_26 ?_
          refine z_iret gi_123_27 gr_123 ?_
          refine ⟨_, rfl, ?_⟩
          show zW _ _ _ _ [some (.ref 50), some (zi s), some (zi sd), some (zi c), some (zi v), none, none, none, none, none, none] _ _ _ _ _
          refine z_iload1 gi_221_0 ?_
          refine z_cS1 gi_221_1 (Nat.le_of_ble_eq_true rfl) gc_248_I ?_
          refine z_iload0 gi_248_0 ?_
          refine z_pushJ gp_248_1 ?_
          refine z_pushJ gp_248_2 ?_
          refine z_cS3 gi_248_3 (Nat.le_of_ble_eq_true rfl) gc_148_III ?_
          refine z_iload0 gi_148_0 ?_
          refine z_iload1 gi_148_1 ?_
          refine z_icmp_ltF gi_148_2 (by omega) zr_0 (by omega) ?_
          refine z_iload0 gi_148_5 ?_
          refine z_iload2 gi_148_6 ?_
          refine z_icmp_gtF gi_148_7 (by omega) zr_5 (by omega) ?_
          refine z_pushJ gp_148_10 ?_
          refine z_goto gi_148_11 ?_
          refine z_bret1 gi_148_15 gr_148 ?_
          show zW _ _ _ _ _ _ _ _ _ _
          refine z_bret1 gi_248_6 gr_248 ?_
          show zW _ _ _ _ _ _ _ _ _ _
          refine z_if_eqF gi_221_4 zr_1 (by decide) ?_
          refine z_iload3 gi_221_7 ?_
          refine z_pushJ gp_221_8 ?_
          refine z_pushJ gp_221_9 ?_
          refine z_cS3 gi_221_11 (Nat.le_of_ble_eq_true rfl) gc_148_III ?_
          refine z_iload0 gi_148_0 ?_
          refine z_iload1 gi_148_1 ?_
          refine z_icmp_ltF gi_148_2 (by omega) zr_1 (by omega) ?_
          refine z_iload0 gi_148_5 ?_
          refine z_iload2 gi_148_6 ?_
          refine z_icmp_gtF gi_148_7 (by omega) zr_30 (by omega) ?_
          refine z_pushJ gp_148_10 ?_
          refine z_goto gi_148_11 ?_
          refine z_bret1 gi_148_15 gr_148 ?_
          show zW _ _ _ _ _ _ _ _ _ _
          refine z_if_eqF gi_221_14 zr_1 (by decide) ?_
          refine z_iload4 gi_221_17 ?_
          refine z_pushJ gp_221_19 ?_
          refine z_pushJ gp_221_20 ?_
          refine z_cS3 gi_221_21 (Nat.le_of_ble_eq_true rfl) gc_148_III ?_
          refine z_iload0 gi_148_0 ?_
          refine z_iload1 gi_148_1 ?_
          refine z_icmp_lt gi_148_2 (by omega) zr_0 (fun h5 => ?_) (fun h5 => ?_)
          · refine z_pushJ gp_148_14 ?_
            refine z_bret0 gi_148_15 gr_148 ?_
            show zW _ _ _ _ _ _ _ _ _ _
            refine z_if_neF gi_221_24 zr_0 (by decide) ?_
            refine z_pushJ gp_221_27 ?_
            refine z_iret gi_221_28 gr_221 ?_
            refine ⟨?_, ?_⟩
            · first | rfl | exact congrArg (fun v => some (zi v)) (by omega) | (exfalso; omega)
            · exact hr
          · refine z_iload0 gi_148_5 ?_
            refine z_iload2 gi_148_6 ?_
            refine z_icmp_gt gi_148_7 (by omega) zr_1 (fun h6 => ?_) (fun h6 => ?_)
            · refine z_pushJ gp_148_14 ?_
              refine z_bret0 gi_148_15 gr_148 ?_
              show zW _ _ _ _ _ _ _ _ _ _
              refine z_if_neF gi_221_24 zr_0 (by decide) ?_
              refine z_pushJ gp_221_27 ?_
              refine z_iret gi_221_28 gr_221 ?_
              refine ⟨?_, ?_⟩
              · first | rfl | exact congrArg (fun v => some (zi v)) (by omega) | (exfalso; omega)
              · exact hr
            · refine z_pushJ gp_148_10 ?_
              refine z_goto gi_148_11 ?_
              refine z_bret1 gi_148_15 gr_148 ?_
              show zW _ _ _ _ _ _ _ _ _ _
              refine z_if_neT gi_221_24 zr_1 (by decide) ?_
              refine z_aload0 gi_221_29 ?_
              refine z_iload1 gi_221_30 ?_
              refine z_cV1 gi_221_31 gk_50 go_192 (Nat.le_of_ble_eq_true rfl) gc_192_RI ?_
              refine z_aload0 gi_192_0 ?_
              refine z_getR (r := 83) gi_192_1 gk_50 (hRr _ rm_50_58 (by decide)) ?_
              refine z_iload1 gi_192_4 ?_
              refine z_iald (v := (-2)) gi_192_5 gk_83 (by decide) (by omega) (e83n) ?_
              refine z_pushJ gp_192_6 ?_
              refine z_icmp_neT gi_192_7 zrn_2 zrn_1 (by decide) ?_
              refine z_aload0 gi_192_15 ?_
              refine z_getR (r := 83) gi_192_16 gk_50 (hRr _ rm_50_58 (by decide)) ?_
              refine z_iload1 gi_192_19 ?_
              refine z_iald (v := (-2)) gi_192_20 gk_83 (by decide) (by omega) (e83n) ?_
              refine z_pushJ gp_192_21 ?_
              refine z_icmp_neF gi_192_23 zrn_2 zrn_2 (by decide) ?_
              refine z_pushJ gp_192_26 ?_
              refine z_goto gi_192_27 ?_
              refine z_iret gi_192_32 gr_192 ?_
              show zW _ _ _ _ _ _ _ _ _ _
              refine z_if_geT gi_221_34 zr_0 (by decide) ?_
              refine z_aload0 gi_221_43 ?_
              refine z_iload2 gi_221_44 ?_
              refine z_putI (y := 41) gi_221_45 rfl gk_50 ?_
              refine z_pushJ gp_221_48 ?_
              refine z_istore (ls1 := [some (.ref 50), some (zi s), some (zi sd), some (zi c), some (zi v), some (zi 0), none, none, none, none, none]) gi_221_49 rfl ?_
              refine z_pushJ gp_221_51 ?_
              refine z_istore (ls1 := [some (.ref 50), some (zi s), some (zi sd), some (zi c), some (zi v), some (zi 0), some (zi 0), none, none, none, none]) gi_221_52 rfl ?_
              refine z_aload0 gi_221_54 ?_
              exfalso
              omega
        · refine z_pushJ gp_146_9 ?_
          refine z_goto gi_146_10 ?_
          refine z_bret1 gi_146_14 gr_146 ?_
          show zW _ _ _ _ _ _ _ _ _ _
          refine z_if_neT gi_123_23 zr_1 (by decide) ?_
          refine z_aload0 gi_123_28 ?_
          refine z_getR (r := 10) gi_123_29 gk_0 (hR _ rm_0_2) ?_
          refine z_aload0 gi_123_32 ?_
          refine z_getR (r := 37) gi_123_33 gk_0 (hR _ rm_0_11) ?_
          refine z_iload1 gi_123_36 ?_
          refine z_aald (r := 38 + 2 * s.toNat) gi_123_37 rfl (by decide) (by omega) (rr_shelf hR (by omega)) ?_
          have hk1 : zK kP J J := zK_r
          refine z_callV (As := [_]) _ gi_123_38 rfl rfl (Nat.le_of_ble_eq_true rfl) (Nat.le_of_ble_eq_true rfl) (follow_k (J := J) (N := (cN J)) (n := J 8 2) (T := T) (s := s) (w := J 10 12) (z := (J (38 + 2 * s.toNat) 3)) (b := (fun i => M (39 + 2 * s.toNat) i)) hR (cN_P hk1) (hk1 8 2 rfl) y3 (LawC_P t2 hk1) t1 hs6 (fun _ _ _ => rfl) hbr (hk1 _ 3 (kP_b (by omega))) s4 ((hk1 _ 0 (kP_b (by omega))).trans hh) ((hk1 _ 2 (kP_b (by omega))).trans hso) rfl hW.1) (fun r J2 M2 R2 hr2 => ?_)
          obtain ⟨rfl, K, hE, hK30, hk3, hc2, hw2, eM, eR⟩ := hr2
          obtain rfl : M = M2 := eM.symm
          obtain rfl : R = R2 := eR.symm
          show zW _ _ _ _ _ (_ :: _) _ _ _ _
          have hk2 := zK_t hk1 hk3
          have hn2 : J2 8 2 = J 8 2 := hk2 8 2 rfl
          have hks : zK kS J J2 := kS_Pw hk3 (hc2.2.2.2.2.1.trans (Eq.symm rfl))
          obtain ⟨S, eS⟩ : ∃ S, S = tS T (cN J) (J 8 2) (fun i => M (39 + 2 * s.toNat) i) (J 10 12) K := ⟨_, rfl⟩
          have hi0 := (tS_r y3 K hE.1).1
          have hz0 := tS_z K hE.1
          rw [← eS] at hc2 hi0 hz0
          have hi := tI_30 hi0 (by omega)
          have qi := hi.2.2
          have hfc : ∀ p, 0 ≤ p → p < 8 → J2 11 p = tsh S p := fun p q1 q2 => hc2.2.2.2.2.2.2.1 p q1 q2
          refine z_istore (ls1 := [some (.ref 0), some (zi s), some (zi sd), some (zi c), some (zi v), some (zi 0)]) gi_123_41 rfl ?_
          refine z_iload5 gi_123_43 ?_
          refine z_if_geT gi_123_45 zr_0 (by decide) ?_
          refine z_aload0 gi_123_51 ?_
          refine z_getR (r := 21) gi_123_52 gk_0 (hR _ rm_0_4) ?_
          refine z_iload2 gi_123_55 ?_
          refine z_iload3 gi_123_56 ?_
          have hbn : ∀ k : Nat, k < K → 0 ≤ (fun i => M (39 + 2 * s.toNat) i) (2 * (k : Int)) := fun k hk => (hE.1 k hk).2.1.1
          refine z_callV (As := [_, _]) _ gi_123_57 rfl rfl (Nat.le_of_ble_eq_true rfl) (Nat.le_of_ble_eq_true rfl) (drawAll_k (A := J2) (w := J 10 12) (K := K) hR (cN_P hk2) hn2 y3 (LawC_P t2 hk2) t1 hw2 hK30 zK_r hc2.1 hE.1 hbn (by omega)) (fun r J3 M3 R3 h3 => ?_)
          obtain ⟨rfl, hJ3, eM3, eR3⟩ := h3
          obtain rfl : M = M3 := eM3.symm
          obtain rfl : R = R3 := eR3.symm
          show zW _ _ _ _ _ _ _ _ _ _
          have hks2 := zK_t hks (zK_t (zK_x (a := 21) (x := 4) (v := (da T (cN J) (J 8 2) (fun i => M (39 + 2 * s.toNat) i) (J 10 12) K c.toNat (sd, 0, 0)).2.2) (zK_x (a := 21) (x := 3) (v := (da T (cN J) (J 8 2) (fun i => M (39 + 2 * s.toNat) i) (J 10 12) K c.toNat (sd, 0, 0)).2.1) (zK_x (a := 21) (x := 2) (v := (da T (cN J) (J 8 2) (fun i => M (39 + 2 * s.toNat) i) (J 10 12) K c.toNat (sd, 0, 0)).1) zK_r rfl) rfl) rfl) (zK_m hJ3 kS_T))
          refine z_iload4 gi_123_60 ?_
          refine z_if_neT gi_123_62 (by omega) (by omega) ?_
          refine z_aload0 rfl ?_
          refine z_getR (r := 21) rfl gk_0 (hR _ rm_0_4) ?_
          refine z_getI (v := (da T (cN J) (J 8 2) (fun i => M (39 + 2 * s.toNat) i) (J 10 12) K c.toNat (sd, 0, 0)).2.2) rfl gk_21 (hJ3 21 4 rfl) ?_
          refine z_iret gi_123_82 gr_123 ?_
          refine ⟨_, rfl, ?_⟩
          show zW _ _ _ _ [some (.ref 50), some (zi s), some (zi sd), some (zi c), some (zi v), none, none, none, none, none, none] _ _ _ _ _
          refine z_iload1 gi_221_0 ?_
          refine z_cS1 gi_221_1 (Nat.le_of_ble_eq_true rfl) gc_248_I ?_
          refine z_iload0 gi_248_0 ?_
          refine z_pushJ gp_248_1 ?_
          refine z_pushJ gp_248_2 ?_
          refine z_cS3 gi_248_3 (Nat.le_of_ble_eq_true rfl) gc_148_III ?_
          refine z_iload0 gi_148_0 ?_
          refine z_iload1 gi_148_1 ?_
          refine z_icmp_ltF gi_148_2 (by omega) zr_0 (by omega) ?_
          refine z_iload0 gi_148_5 ?_
          refine z_iload2 gi_148_6 ?_
          refine z_icmp_gtF gi_148_7 (by omega) zr_5 (by omega) ?_
          refine z_pushJ gp_148_10 ?_
          refine z_goto gi_148_11 ?_
          refine z_bret1 gi_148_15 gr_148 ?_
          show zW _ _ _ _ _ _ _ _ _ _
          refine z_bret1 gi_248_6 gr_248 ?_
          show zW _ _ _ _ _ _ _ _ _ _
          refine z_if_eqF gi_221_4 zr_1 (by decide) ?_
          refine z_iload3 gi_221_7 ?_
          refine z_pushJ gp_221_8 ?_
          refine z_pushJ gp_221_9 ?_
          refine z_cS3 gi_221_11 (Nat.le_of_ble_eq_true rfl) gc_148_III ?_
          refine z_iload0 gi_148_0 ?_
          refine z_iload1 gi_148_1 ?_
          refine z_icmp_ltF gi_148_2 (by omega) zr_1 (by omega) ?_
          refine z_iload0 gi_148_5 ?_
          refine z_iload2 gi_148_6 ?_
          refine z_icmp_gtF gi_148_7 (by omega) zr_30 (by omega) ?_
          refine z_pushJ gp_148_10 ?_
          refine z_goto gi_148_11 ?_
          refine z_bret1 gi_148_15 gr_148 ?_
          show zW _ _ _ _ _ _ _ _ _ _
          refine z_if_eqF gi_221_14 zr_1 (by decide) ?_
          refine z_iload4 gi_221_17 ?_
          refine z_pushJ gp_221_19 ?_
          refine z_pushJ gp_221_20 ?_
          refine z_cS3 gi_221_21 (Nat.le_of_ble_eq_true rfl) gc_148_III ?_
          refine z_iload0 gi_148_0 ?_
          refine z_iload1 gi_148_1 ?_
          refine z_icmp_ltF gi_148_2 (by omega) zr_0 (by omega) ?_
          refine z_iload0 gi_148_5 ?_
          refine z_iload2 gi_148_6 ?_
          refine z_icmp_gtF gi_148_7 (by omega) zr_1 (by omega) ?_
          refine z_pushJ gp_148_10 ?_
          refine z_goto gi_148_11 ?_
          refine z_bret1 gi_148_15 gr_148 ?_
          show zW _ _ _ _ _ _ _ _ _ _
          refine z_if_neT gi_221_24 zr_1 (by decide) ?_
          refine z_aload0 gi_221_29 ?_
          refine z_iload1 gi_221_30 ?_
          refine z_cV1 gi_221_31 gk_50 go_192 (Nat.le_of_ble_eq_true rfl) gc_192_RI ?_
          refine z_aload0 gi_192_0 ?_
          refine z_getR (r := 83) gi_192_1 gk_50 (hRr _ rm_50_58 (by decide)) ?_
          refine z_iload1 gi_192_4 ?_
          refine z_iald (v := (-2)) gi_192_5 gk_83 (by decide) (by omega) ((hks2 83 _ rfl).trans e83n) ?_
          refine z_pushJ gp_192_6 ?_
          refine z_icmp_neT gi_192_7 zrn_2 zrn_1 (by decide) ?_
          refine z_aload0 gi_192_15 ?_
          refine z_getR (r := 83) gi_192_16 gk_50 (hRr _ rm_50_58 (by decide)) ?_
          refine z_iload1 gi_192_19 ?_
          refine z_iald (v := (-2)) gi_192_20 gk_83 (by decide) (by omega) ((hks2 83 _ rfl).trans e83n) ?_
          refine z_pushJ gp_192_21 ?_
          refine z_icmp_neF gi_192_23 zrn_2 zrn_2 (by decide) ?_
          refine z_pushJ gp_192_26 ?_
          refine z_goto gi_192_27 ?_
          refine z_iret gi_192_32 gr_192 ?_
          show zW _ _ _ _ _ _ _ _ _ _
          refine z_if_geT gi_221_34 zr_0 (by decide) ?_
          refine z_aload0 gi_221_43 ?_
          refine z_iload2 gi_221_44 ?_
          refine z_putI (y := 41) gi_221_45 rfl gk_50 ?_
          refine z_pushJ gp_221_48 ?_
          refine z_istore (ls1 := [some (.ref 50), some (zi s), some (zi sd), some (zi c), some (zi v), some (zi 0), none, none, none, none, none]) gi_221_49 rfl ?_
          refine z_pushJ gp_221_51 ?_
          refine z_istore (ls1 := [some (.ref 50), some (zi s), some (zi sd), some (zi c), some (zi v), some (zi 0), some (zi 0), none, none, none, none]) gi_221_52 rfl ?_
          refine z_aload0 gi_221_54 ?_
          have hVa := zK_x (a := 50) (x := 41) (v := sd) (zK_m hks2 kV_S) rfl
          refine z_callVP (As := []) (v := sAll (cN J) (J 8 2).toNat) gi_221_55 rfl gk_50 (Nat.le_of_ble_eq_true rfl) (Nat.le_of_ble_eq_true rfl) (rallOdds_k (n := J 8 2) hRr zK_r ((rN_V hVa).trans y1.symm) ((hVa 50 1 rfl).trans y2.symm) y3) ?_
          refine z_istore (ls1 := [some (.ref 50), some (zi s), some (zi sd), some (zi c), some (zi v), some (zi 0), some (zi 0), some (zi (sAll (cN J) (J 8 2).toNat)), none, none, none]) gi_221_58 rfl ?_
          refine z_pushJ gp_221_60 ?_
          refine z_istore (ls1 := [some (.ref 50), some (zi s), some (zi sd), some (zi c), some (zi v), some (zi 0), some (zi 0), some (zi (sAll (cN J) (J 8 2).toNat)), some (zi 0), none, none]) gi_221_61 rfl ?_
          show zW _ _ _ _ [some (.ref 50), some (zi s), some (zi sd), some (zi c), some (zi v), some (zi 0), some (zi 0), some (zi (sAll (cN J) (J 8 2).toNat)), some (zi 0), none, none] [] _ _ _ _
          refine drawnR_z (A := zU J3 50 41 sd) (T := T) (n := J 8 2) (z0 := (J (38 + 2 * s.toNat) 3)) (b := (fun i => M (39 + 2 * s.toNat) i)) (K := K) (d := d + 11) hRr ((rN_V hVa).trans y1.symm) ((hVa 50 1 rfl).trans y2.symm) y3 (LawR_V t3 hVa) t1 hs6 (fun i i1 i2 => (s8 i i1 i2).symm) hbr ((zU_n (by decide)).trans ((hks2 84 _ rfl).trans s7)) s4 (tEnd_v 0 hE) hK30 ((zU_x (by decide)).trans ((hks2 50 35 rfl).trans hW.2)) (by omega) c.toNat 0 (sd, 0, 0) none none _ zK_r zU_e (by omega) (fun JF e9 e10 hF => ?_)
          rw [da_w (w := 0) (v := J 10 12)]
          have hsF := zK_t (zK_x (a := 50) (x := 41) (v := sd) hks2 rfl) hF
          refine z_iload4 gi_221_151 ?_
          refine z_if_neT gi_221_153 (by omega) (by omega) ?_
          refine z_iload6 rfl ?_
          refine z_iret gi_221_163 gr_221 ?_
          refine ⟨?_, ?_⟩
          · first | rfl | exact congrArg (fun v => some (zi v)) (by omega) | (exfalso; omega)
          · exact Rel_S hsF zK_r hr
theorem st_drawn {X : Nat × (Nat → Int32)} {d : Nat} {J M : zA} {R : zR} {s sd c v : Int} (hr : Rel X J M R) (hs : -2147483648 ≤ s ∧ s < 2147483648) (hsd : -2147483648 ≤ sd ∧ sd < 2147483648) (hc : -2147483648 ≤ c ∧ c < 2147483648) (hv : -2147483648 ≤ v ∧ v < 2147483648) : zW X (d + 20) 123 0 (gEn 123 [(.ref 0), (zi s), (zi sd), (zi c), (zi v)]) [] J M R (stP X (d + 20) 221 [(zi s), (zi sd), (zi c), (zi v)]) := by
  by_cases hs6 : 0 ≤ s ∧ s < 6
  · have hS : RelS J M := hr.2.2.2.2.2.2.2.1
    have h2 := (hS s hs6.1 hs6.2).2.1
    have h4 : J (38 + 2 * s.toNat) 0 = 0 ∨ J (38 + 2 * s.toNat) 0 = 1 ∨ J (38 + 2 * s.toNat) 0 = 2 := by omega
    rcases h4 with hh | hh | hh
    · exact st_drawn_0 hr hs hsd hc hv hs6 hh
    · exact st_drawn_1 hr hs hsd hc hv hs6 hh
    · by_cases hso : J (38 + 2 * s.toNat) 2 = 0
      · exact st_drawn_m hr hs hsd hc hv hs6 hh hso
      · exact st_drawn_2 hr hs hsd hc hv hs6 hh hso
  · exact st_drawn_n hr hs hsd hc hv hs6
