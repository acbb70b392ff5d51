theorem cH_0 {J : zA} {s : Int} (h : J (38 + 2 * s.toNat) 0 = 0) : cH J s = -1 := by unfold cH; rw [if_pos h]
theorem cH_1 {J : zA} {s : Int} (h : J (38 + 2 * s.toNat) 0 = 1) : cH J s = J (38 + 2 * s.toNat) 1 := by unfold cH; rw [if_neg (by omega), if_pos h]
theorem cH_2 {J : zA} {s : Int} (h : J (38 + 2 * s.toNat) 0 = 2) : cH J s = -2 - J (38 + 2 * s.toNat) 2 := by unfold cH; rw [if_neg (by omega), if_neg (by omega)]
theorem st_element_n {X : Nat × (Nat → Int32)} {d : Nat} {J M : zA} {R : zR} {s i : Int} (hr : Rel X J M R) (hs : -2147483648 ≤ s ∧ s < 2147483648) (hi : -2147483648 ≤ i ∧ i < 2147483648) (hs6 : ¬ (0 ≤ s ∧ s < 6)) : zW X (d + 20) 139 0 (gEn 139 [(.ref 0), (zi s), (zi i)]) [] J M R (stL X (d + 20) 253 [(zi s), (zi i)]) := by
  have hr0 := hr
  obtain ⟨hR, hG, hY, hD, hP, hC, hAc, hS, hTp, hX, hW⟩ := hr0
  have hRr : zRoR R := zRoR_of hR
  show zW _ _ _ _ [some (.ref 0), some (zi s), some (zi i)] _ _ _ _ _
  refine z_iload1 gi_139_0 ?_
  refine z_cS1 gi_139_1 (Nat.le_of_ble_eq_true rfl) gc_143_I ?_
  refine z_iload0 gi_143_0 ?_
  refine z_if_lt gi_143_1 (by omega) (fun h1 => ?_) (fun h1 => ?_)
  · refine z_pushJ gp_143_14 ?_
    refine z_bret0 gi_143_15 gr_143 ?_
    show zW _ _ _ _ _ _ _ _ _ _
    refine z_if_eqT gi_139_4 zr_0 (by decide) ?_
    refine z_pushL (z := (-9223372036854775808)) gi_139_20 rfl ?_
    refine z_lret gi_139_23 gr_139 ?_
    refine ⟨_, rfl, ?_⟩
    show zW _ _ _ _ [some (.ref 50), some (zi s), some (zi i)] _ _ _ _ _
    refine z_aload0 gi_253_0 ?_
    refine z_iload1 gi_253_1 ?_
    refine z_iload2 gi_253_2 ?_
    refine z_cV2 gi_253_3 gk_50 go_251 (Nat.le_of_ble_eq_true rfl) gc_251_RII ?_
    refine z_iload1 gi_251_0 ?_
    refine z_cS1 gi_251_1 (Nat.le_of_ble_eq_true rfl) gc_248_I ?_
    refine z_iload0 gi_248_0 ?_
    refine z_pushJ gp_248_1 ?_
    refine z_pushJ gp_248_2 ?_
    refine z_cS3 gi_248_3 (Nat.le_of_ble_eq_true rfl) gc_148_III ?_
    refine z_iload0 gi_148_0 ?_
    refine z_iload1 gi_148_1 ?_
    refine z_icmp_ltT gi_148_2 (by omega) zr_0 (by omega) ?_
    refine z_pushJ gp_148_14 ?_
    refine z_bret0 gi_148_15 gr_148 ?_
    show zW _ _ _ _ _ _ _ _ _ _
    refine z_bret0 gi_248_6 gr_248 ?_
    show zW _ _ _ _ _ _ _ _ _ _
    refine z_if_neF gi_251_4 zr_0 (by decide) ?_
    refine z_pushJ gp_251_7 ?_
    refine z_iret gi_251_8 gr_251 ?_
    show zW _ _ _ _ _ _ _ _ _ _
    refine z_if_geF gi_253_6 zrn_1 (by decide) ?_
    refine z_pushL (z := (-9223372036854775808)) gi_253_9 rfl ?_
    refine z_goto gi_253_12 ?_
    refine z_lret gi_253_26 gr_253 ?_
    refine ⟨?_, ?_⟩
    · first | rfl | exact congrArg (fun v => some (zl v)) (by omega) | (exfalso; omega)
    · exact hr
  · refine z_iload0 gi_143_4 ?_
    refine z_pushJ gp_143_5 ?_
    refine z_icmp_geT gi_143_7 (by omega) zr_6 (by omega) ?_
    refine z_pushJ gp_143_14 ?_
    refine z_bret0 gi_143_15 gr_143 ?_
    show zW _ _ _ _ _ _ _ _ _ _
    refine z_if_eqT gi_139_4 zr_0 (by decide) ?_
    refine z_pushL (z := (-9223372036854775808)) gi_139_20 rfl ?_
    refine z_lret gi_139_23 gr_139 ?_
    refine ⟨_, rfl, ?_⟩
    show zW _ _ _ _ [some (.ref 50), some (zi s), some (zi i)] _ _ _ _ _
    refine z_aload0 gi_253_0 ?_
    refine z_iload1 gi_253_1 ?_
    refine z_iload2 gi_253_2 ?_
    refine z_cV2 gi_253_3 gk_50 go_251 (Nat.le_of_ble_eq_true rfl) gc_251_RII ?_
    refine z_iload1 gi_251_0 ?_
    refine z_cS1 gi_251_1 (Nat.le_of_ble_eq_true rfl) gc_248_I ?_
    refine z_iload0 gi_248_0 ?_
    refine z_pushJ gp_248_1 ?_
    refine z_pushJ gp_248_2 ?_
    refine z_cS3 gi_248_3 (Nat.le_of_ble_eq_true rfl) gc_148_III ?_
    refine z_iload0 gi_148_0 ?_
    refine z_iload1 gi_148_1 ?_
    refine z_icmp_ltF gi_148_2 (by omega) zr_0 (by omega) ?_
    refine z_iload0 gi_148_5 ?_
    refine z_iload2 gi_148_6 ?_
    refine z_icmp_gtT gi_148_7 (by omega) zr_5 (by omega) ?_
    refine z_pushJ gp_148_14 ?_
    refine z_bret0 gi_148_15 gr_148 ?_
    show zW _ _ _ _ _ _ _ _ _ _
    refine z_bret0 gi_248_6 gr_248 ?_
    show zW _ _ _ _ _ _ _ _ _ _
    refine z_if_neF gi_251_4 zr_0 (by decide) ?_
    refine z_pushJ gp_251_7 ?_
    refine z_iret gi_251_8 gr_251 ?_
    show zW _ _ _ _ _ _ _ _ _ _
    refine z_if_geF gi_253_6 zrn_1 (by decide) ?_
    refine z_pushL (z := (-9223372036854775808)) gi_253_9 rfl ?_
    refine z_goto gi_253_12 ?_
    refine z_lret gi_253_26 gr_253 ?_
    refine ⟨?_, ?_⟩
    · first | rfl | exact congrArg (fun v => some (zl v)) (by omega) | (exfalso; omega)
    · exact hr
theorem st_put_n {X : Nat × (Nat → Int32)} {d : Nat} {J M : zA} {R : zR} {s i v : Int} (hr : Rel X J M R) (hs : -2147483648 ≤ s ∧ s < 2147483648) (hi : -2147483648 ≤ i ∧ i < 2147483648) (hv : -9223372036854775808 ≤ v ∧ v < 9223372036854775808) (hs6 : ¬ (0 ≤ s ∧ s < 6)) : zW X (d + 20) 138 0 (gEn 138 [(.ref 0), (zi s), (zi i), (zl v)]) [] J M R (stP X (d + 20) 252 [(zi s), (zi i), (zl v)]) := by
  have hr0 := hr
  obtain ⟨hR, hG, hY, hD, hP, hC, hAc, hS, hTp, hX, hW⟩ := hr0
  have hRr : zRoR R := zRoR_of hR
  show zW _ _ _ _ [some (.ref 0), some (zi s), some (zi i), some (zl v), none, none] _ _ _ _ _
  refine z_iload1 gi_138_0 ?_
  refine z_cS1 gi_138_1 (Nat.le_of_ble_eq_true rfl) gc_143_I ?_
  refine z_iload0 gi_143_0 ?_
  refine z_if_lt gi_143_1 (by omega) (fun h1 => ?_) (fun h1 => ?_)
  · refine z_pushJ gp_143_14 ?_
    refine z_bret0 gi_143_15 gr_143 ?_
    show zW _ _ _ _ _ _ _ _ _ _
    refine z_if_neF gi_138_4 zr_0 (by decide) ?_
    refine z_pushJ gp_138_7 ?_
    refine z_iret gi_138_8 gr_138 ?_
    refine ⟨_, rfl, ?_⟩
    show zW _ _ _ _ [some (.ref 50), some (zi s), some (zi i), some (zl v), none, none, none] _ _ _ _ _
    refine z_aload0 gi_252_0 ?_
    refine z_iload1 gi_252_1 ?_
    refine z_iload2 gi_252_2 ?_
    refine z_cV2 gi_252_3 gk_50 go_251 (Nat.le_of_ble_eq_true rfl) gc_251_RII ?_
    refine z_iload1 gi_251_0 ?_
    refine z_cS1 gi_251_1 (Nat.le_of_ble_eq_true rfl) gc_248_I ?_
    refine z_iload0 gi_248_0 ?_
    refine z_pushJ gp_248_1 ?_
    refine z_pushJ gp_248_2 ?_
    refine z_cS3 gi_248_3 (Nat.le_of_ble_eq_true rfl) gc_148_III ?_
    refine z_iload0 gi_148_0 ?_
    refine z_iload1 gi_148_1 ?_
    refine z_icmp_ltT gi_148_2 (by omega) zr_0 (by omega) ?_
    refine z_pushJ gp_148_14 ?_
    refine z_bret0 gi_148_15 gr_148 ?_
    show zW _ _ _ _ _ _ _ _ _ _
    refine z_bret0 gi_248_6 gr_248 ?_
    show zW _ _ _ _ _ _ _ _ _ _
    refine z_if_neF gi_251_4 zr_0 (by decide) ?_
    refine z_pushJ gp_251_7 ?_
    refine z_iret gi_251_8 gr_251 ?_
    show zW _ _ _ _ _ _ _ _ _ _
    refine z_istore (ls1 := [some (.ref 50), some (zi s), some (zi i), some (zl v), none, some (zi (-1)), none]) gi_252_6 rfl ?_
    refine z_iload5 gi_252_8 ?_
    refine z_if_geF gi_252_10 zrn_1 (by decide) ?_
    refine z_iload5 gi_252_13 ?_
    refine z_iret gi_252_15 gr_252 ?_
    refine ⟨?_, ?_⟩
    · first | rfl | exact congrArg (fun v => some (zi v)) (by omega) | (exfalso; omega)
    · exact hr
  · refine z_iload0 gi_143_4 ?_
    refine z_pushJ gp_143_5 ?_
    refine z_icmp_geT gi_143_7 (by omega) zr_6 (by omega) ?_
    refine z_pushJ gp_143_14 ?_
    refine z_bret0 gi_143_15 gr_143 ?_
    show zW _ _ _ _ _ _ _ _ _ _
    refine z_if_neF gi_138_4 zr_0 (by decide) ?_
    refine z_pushJ gp_138_7 ?_
    refine z_iret gi_138_8 gr_138 ?_
    refine ⟨_, rfl, ?_⟩
    show zW _ _ _ _ [some (.ref 50), some (zi s), some (zi i), some (zl v), none, none, none] _ _ _ _ _
    refine z_aload0 gi_252_0 ?_
    refine z_iload1 gi_252_1 ?_
    refine z_iload2 gi_252_2 ?_
    refine z_cV2 gi_252_3 gk_50 go_251 (Nat.le_of_ble_eq_true rfl) gc_251_RII ?_
    refine z_iload1 gi_251_0 ?_
    refine z_cS1 gi_251_1 (Nat.le_of_ble_eq_true rfl) gc_248_I ?_
    refine z_iload0 gi_248_0 ?_
    refine z_pushJ gp_248_1 ?_
    refine z_pushJ gp_248_2 ?_
    refine z_cS3 gi_248_3 (Nat.le_of_ble_eq_true rfl) gc_148_III ?_
    refine z_iload0 gi_148_0 ?_
    refine z_iload1 gi_148_1 ?_
    refine z_icmp_ltF gi_148_2 (by omega) zr_0 (by omega) ?_
    refine z_iload0 gi_148_5 ?_
    refine z_iload2 gi_148_6 ?_
    refine z_icmp_gtT gi_148_7 (by omega) zr_5 (by omega) ?_
    refine z_pushJ gp_148_14 ?_
    refine z_bret0 gi_148_15 gr_148 ?_
    show zW _ _ _ _ _ _ _ _ _ _
    refine z_bret0 gi_248_6 gr_248 ?_
    show zW _ _ _ _ _ _ _ _ _ _
    refine z_if_neF gi_251_4 zr_0 (by decide) ?_
    refine z_pushJ gp_251_7 ?_
    refine z_iret gi_251_8 gr_251 ?_
    show zW _ _ _ _ _ _ _ _ _ _
    refine z_istore (ls1 := [some (.ref 50), some (zi s), some (zi i), some (zl v), none, some (zi (-1)), none]) gi_252_6 rfl ?_
    refine z_iload5 gi_252_8 ?_
    refine z_if_geF gi_252_10 zrn_1 (by decide) ?_
    refine z_iload5 gi_252_13 ?_
    refine z_iret gi_252_15 gr_252 ?_
    refine ⟨?_, ?_⟩
    · first | rfl | exact congrArg (fun v => some (zi v)) (by omega) | (exfalso; omega)
    · exact hr
theorem st_element_00 {X : Nat × (Nat → Int32)} {d : Nat} {J M : zA} {R : zR} {i : Int} (hr : Rel X J M R) (hi : -2147483648 ≤ i ∧ i < 2147483648) (hh : J 38 0 = 0) : zW X (d + 20) 139 0 (gEn 139 [(.ref 0), (zi 0), (zi i)]) [] J M R (stL X (d + 20) 253 [(zi 0), (zi i)]) := by
  have hr0 := hr
  obtain ⟨hR, hG, hY, hD, hP, hC, hAc, hS, hTp, hX, hW⟩ := hr0
  have hRr : zRoR R := zRoR_of hR
  have hA0 := hAc
  obtain ⟨a1, a2, a3, a4, a5, a6⟩ := hA0
  have e83 : J 83 0 = -1 := (hS 0 (by decide) (by decide)).1.symm.trans (cH_0 hh)
  have s3 : 0 ≤ J 38 2 ∧ J 38 2 ≤ 4 := (hS 0 (by decide) (by decide)).2.2.1
  have s4 : 0 ≤ J 38 3 ∧ J 38 3 ≤ 60 := (hS 0 (by decide) (by decide)).2.2.2.1
  show zW _ _ _ _ [some (.ref 0), some (zi 0), some (zi i)] _ _ _ _ _
  refine z_iload1 gi_139_0 ?_
  refine z_cS1 gi_139_1 (Nat.le_of_ble_eq_true rfl) gc_143_I ?_
  refine z_iload0 gi_143_0 ?_
  refine z_if_ltF gi_143_1 zr_0 (by decide) ?_
  refine z_iload0 gi_143_4 ?_
  refine z_pushJ gp_143_5 ?_
  refine z_icmp_geF gi_143_7 zr_0 zr_6 (by decide) ?_
  refine z_pushJ gp_143_10 ?_
  refine z_goto gi_143_11 ?_
  refine z_bret1 gi_143_15 gr_143 ?_
  show zW _ _ _ _ _ _ _ _ _ _
  refine z_if_eqF gi_139_4 zr_1 (by decide) ?_
  refine z_aload0 gi_139_7 ?_
  refine z_getR (r := 37) gi_139_8 gk_0 (hR _ rm_0_11) ?_
  refine z_iload1 gi_139_11 ?_
  refine z_aald (r := 38) gi_139_12 rfl (by decide) (by decide) (hR _ rm_37_0) ?_
  refine z_iload2 gi_139_13 ?_
  refine z_cV1 gi_139_14 gk_38 go_70 (Nat.le_of_ble_eq_true rfl) gc_70_RI ?_
  refine z_aload0 gi_70_0 ?_
  refine z_getI (v := 0) gi_70_1 gk_38 (hh) ?_
  refine z_if_neF gi_70_4 zr_0 (by decide) ?_
  refine z_pushJ gp_70_7 ?_
  refine z_iret gi_70_9 gr_70 ?_
  show zW _ _ _ _ _ _ _ _ _ _
  refine z_if_geF gi_139_17 zrn_11 (by decide) ?_
  refine z_pushL (z := (-9223372036854775808)) gi_139_20 rfl ?_
  refine z_lret gi_139_23 gr_139 ?_
  refine ⟨_, rfl, ?_⟩
  show zW _ _ _ _ [some (.ref 50), some (zi 0), some (zi i)] _ _ _ _ _
  refine z_aload0 gi_253_0 ?_
  refine z_iload1 gi_253_1 ?_
  refine z_iload2 gi_253_2 ?_
  refine z_cV2 gi_253_3 gk_50 go_251 (Nat.le_of_ble_eq_true rfl) gc_251_RII ?_
  refine z_iload1 gi_251_0 ?_
  refine z_cS1 gi_251_1 (Nat.le_of_ble_eq_true rfl) gc_248_I ?_
  refine z_iload0 gi_248_0 ?_
  refine z_pushJ gp_248_1 ?_
  refine z_pushJ gp_248_2 ?_
  refine z_cS3 gi_248_3 (Nat.le_of_ble_eq_true rfl) gc_148_III ?_
  refine z_iload0 gi_148_0 ?_
  refine z_iload1 gi_148_1 ?_
  refine z_icmp_ltF gi_148_2 zr_0 zr_0 (by decide) ?_
  refine z_iload0 gi_148_5 ?_
  refine z_iload2 gi_148_6 ?_
  refine z_icmp_gtF gi_148_7 zr_0 zr_5 (by decide) ?_
  refine z_pushJ gp_148_10 ?_
  refine z_goto gi_148_11 ?_
  refine z_bret1 gi_148_15 gr_148 ?_
  show zW _ _ _ _ _ _ _ _ _ _
  refine z_bret1 gi_248_6 gr_248 ?_
  show zW _ _ _ _ _ _ _ _ _ _
  refine z_if_neT gi_251_4 zr_1 (by decide) ?_
  refine z_aload0 gi_251_9 ?_
  refine z_getR (r := 83) gi_251_10 gk_50 (hRr _ rm_50_58 (by decide)) ?_
  refine z_iload1 gi_251_13 ?_
  refine z_iald (v := (-1)) gi_251_14 gk_83 (by decide) (by decide) (e83) ?_
  refine z_pushJ gp_251_15 ?_
  refine z_icmp_neF gi_251_16 zrn_1 zrn_1 (by decide) ?_
  refine z_pushJ gp_251_19 ?_
  refine z_iret gi_251_21 gr_251 ?_
  show zW _ _ _ _ _ _ _ _ _ _
  refine z_if_geF gi_253_6 zrn_11 (by decide) ?_
  refine z_pushL (z := (-9223372036854775808)) gi_253_9 rfl ?_
  refine z_goto gi_253_12 ?_
  refine z_lret gi_253_26 gr_253 ?_
  refine ⟨?_, ?_⟩
  · first | rfl | exact congrArg (fun v => some (zl v)) (by omega) | (exfalso; omega)
  · exact hr
theorem st_put_00 {X : Nat × (Nat → Int32)} {d : Nat} {J M : zA} {R : zR} {i v : Int} (hr : Rel X J M R) (hi : -2147483648 ≤ i ∧ i < 2147483648) (hv : -9223372036854775808 ≤ v ∧ v < 9223372036854775808) (hh : J 38 0 = 0) : zW X (d + 20) 138 0 (gEn 138 [(.ref 0), (zi 0), (zi i), (zl v)]) [] J M R (stP X (d + 20) 252 [(zi 0), (zi i), (zl v)]) := by
  have hr0 := hr
  obtain ⟨hR, hG, hY, hD, hP, hC, hAc, hS, hTp, hX, hW⟩ := hr0
  have hRr : zRoR R := zRoR_of hR
  have hA0 := hAc
  obtain ⟨a1, a2, a3, a4, a5, a6⟩ := hA0
  have e83 : J 83 0 = -1 := (hS 0 (by decide) (by decide)).1.symm.trans (cH_0 hh)
  have s3 : 0 ≤ J 38 2 ∧ J 38 2 ≤ 4 := (hS 0 (by decide) (by decide)).2.2.1
  have s4 : 0 ≤ J 38 3 ∧ J 38 3 ≤ 60 := (hS 0 (by decide) (by decide)).2.2.2.1
  show zW _ _ _ _ [some (.ref 0), some (zi 0), some (zi i), some (zl v), none, none] _ _ _ _ _
  refine z_iload1 gi_138_0 ?_
  refine z_cS1 gi_138_1 (Nat.le_of_ble_eq_true rfl) gc_143_I ?_
  refine z_iload0 gi_143_0 ?_
  refine z_if_ltF gi_143_1 zr_0 (by decide) ?_
  refine z_iload0 gi_143_4 ?_
  refine z_pushJ gp_143_5 ?_
  refine z_icmp_geF gi_143_7 zr_0 zr_6 (by decide) ?_
  refine z_pushJ gp_143_10 ?_
  refine z_goto gi_143_11 ?_
  refine z_bret1 gi_143_15 gr_143 ?_
  show zW _ _ _ _ _ _ _ _ _ _
  refine z_if_neT gi_138_4 zr_1 (by decide) ?_
  refine z_aload0 gi_138_9 ?_
  refine z_getR (r := 37) gi_138_10 gk_0 (hR _ rm_0_11) ?_
  refine z_iload1 gi_138_13 ?_
  refine z_aald (r := 38) gi_138_14 rfl (by decide) (by decide) (hR _ rm_37_0) ?_
  refine z_iload2 gi_138_15 ?_
  refine z_cV1 gi_138_16 gk_38 go_70 (Nat.le_of_ble_eq_true rfl) gc_70_RI ?_
  refine z_aload0 gi_70_0 ?_
  refine z_getI (v := 0) gi_70_1 gk_38 (hh) ?_
  refine z_if_neF gi_70_4 zr_0 (by decide) ?_
  refine z_pushJ gp_70_7 ?_
  refine z_iret gi_70_9 gr_70 ?_
  show zW _ _ _ _ _ _ _ _ _ _
  refine z_istore (ls1 := [some (.ref 0), some (zi 0), some (zi i), some (zl v), none, some (zi (-11))]) gi_138_19 rfl ?_
  refine z_iload5 gi_138_21 ?_
  refine z_if_geF gi_138_23 zrn_11 (by decide) ?_
  refine z_iload5 gi_138_26 ?_
  refine z_iret gi_138_28 gr_138 ?_
  refine ⟨_, rfl, ?_⟩
  show zW _ _ _ _ [some (.ref 50), some (zi 0), some (zi i), some (zl v), none, none, none] _ _ _ _ _
  refine z_aload0 gi_252_0 ?_
  refine z_iload1 gi_252_1 ?_
  refine z_iload2 gi_252_2 ?_
  refine z_cV2 gi_252_3 gk_50 go_251 (Nat.le_of_ble_eq_true rfl) gc_251_RII ?_
  refine z_iload1 gi_251_0 ?_
  refine z_cS1 gi_251_1 (Nat.le_of_ble_eq_true rfl) gc_248_I ?_
  refine z_iload0 gi_248_0 ?_
  refine z_pushJ gp_248_1 ?_
  refine z_pushJ gp_248_2 ?_
  refine z_cS3 gi_248_3 (Nat.le_of_ble_eq_true rfl) gc_148_III ?_
  refine z_iload0 gi_148_0 ?_
  refine z_iload1 gi_148_1 ?_
  refine z_icmp_ltF gi_148_2 zr_0 zr_0 (by decide) ?_
  refine z_iload0 gi_148_5 ?_
  refine z_iload2 gi_148_6 ?_
  refine z_icmp_gtF gi_148_7 zr_0 zr_5 (by decide) ?_
  refine z_pushJ gp_148_10 ?_
  refine z_goto gi_148_11 ?_
  refine z_bret1 gi_148_15 gr_148 ?_
  show zW _ _ _ _ _ _ _ _ _ _
  refine z_bret1 gi_248_6 gr_248 ?_
  show zW _ _ _ _ _ _ _ _ _ _
  refine z_if_neT gi_251_4 zr_1 (by decide) ?_
  refine z_aload0 gi_251_9 ?_
  refine z_getR (r := 83) gi_251_10 gk_50 (hRr _ rm_50_58 (by decide)) ?_
  refine z_iload1 gi_251_13 ?_
  refine z_iald (v := (-1)) gi_251_14 gk_83 (by decide) (by decide) (e83) ?_
  refine z_pushJ gp_251_15 ?_
  refine z_icmp_neF gi_251_16 zrn_1 zrn_1 (by decide) ?_
  refine z_pushJ gp_251_19 ?_
  refine z_iret gi_251_21 gr_251 ?_
  show zW _ _ _ _ _ _ _ _ _ _
  refine z_istore (ls1 := [some (.ref 50), some (zi 0), some (zi i), some (zl v), none, some (zi (-11)), none]) gi_252_6 rfl ?_
  refine z_iload5 gi_252_8 ?_
  refine z_if_geF gi_252_10 zrn_11 (by decide) ?_
  refine z_iload5 gi_252_13 ?_
  refine z_iret gi_252_15 gr_252 ?_
  refine ⟨?_, ?_⟩
  · first | rfl | exact congrArg (fun v => some (zi v)) (by omega) | (exfalso; omega)
  · exact hr
theorem st_element_01 {X : Nat × (Nat → Int32)} {d : Nat} {J M : zA} {R : zR} {i : Int} (hr : Rel X J M R) (hi : -2147483648 ≤ i ∧ i < 2147483648) (hh : J 38 0 = 1) : zW X (d + 20) 139 0 (gEn 139 [(.ref 0), (zi 0), (zi i)]) [] J M R (stL X (d + 20) 253 [(zi 0), (zi i)]) := by
  have hr0 := hr
  obtain ⟨hR, hG, hY, hD, hP, hC, hAc, hS, hTp, hX, hW⟩ := hr0
  have hRr : zRoR R := zRoR_of hR
  have hA0 := hAc
  obtain ⟨a1, a2, a3, a4, a5, a6⟩ := hA0
  have e83 : J 83 0 = J 38 1 := (hS 0 (by decide) (by decide)).1.symm.trans (cH_1 hh)
  have s3 : 0 ≤ J 38 2 ∧ J 38 2 ≤ 4 := (hS 0 (by decide) (by decide)).2.2.1
  have s4 : 0 ≤ J 38 3 ∧ J 38 3 ≤ 60 := (hS 0 (by decide) (by decide)).2.2.2.1
  have s5 : 0 ≤ J 38 1 ∧ J 38 1 < J 34 1 := (hS 0 (by decide) (by decide)).2.2.2.2.1 hh
  show zW _ _ _ _ [some (.ref 0), some (zi 0), some (zi i)] _ _ _ _ _
  refine z_iload1 gi_139_0 ?_
  refine z_cS1 gi_139_1 (Nat.le_of_ble_eq_true rfl) gc_143_I ?_
  refine z_iload0 gi_143_0 ?_
  refine z_if_ltF gi_143_1 zr_0 (by decide) ?_
  refine z_iload0 gi_143_4 ?_
  refine z_pushJ gp_143_5 ?_
  refine z_icmp_geF gi_143_7 zr_0 zr_6 (by decide) ?_
  refine z_pushJ gp_143_10 ?_
  refine z_goto gi_143_11 ?_
  refine z_bret1 gi_143_15 gr_143 ?_
  show zW _ _ _ _ _ _ _ _ _ _
  refine z_if_eqF gi_139_4 zr_1 (by decide) ?_
  refine z_aload0 gi_139_7 ?_
  refine z_getR (r := 37) gi_139_8 gk_0 (hR _ rm_0_11) ?_
  refine z_iload1 gi_139_11 ?_
  refine z_aald (r := 38) gi_139_12 rfl (by decide) (by decide) (hR _ rm_37_0) ?_
  refine z_iload2 gi_139_13 ?_
  refine z_cV1 gi_139_14 gk_38 go_70 (Nat.le_of_ble_eq_true rfl) gc_70_RI ?_
  refine z_aload0 gi_70_0 ?_
  refine z_getI (v := 1) gi_70_1 gk_38 (hh) ?_
  refine z_if_neT gi_70_4 zr_1 (by decide) ?_
  refine z_aload0 gi_70_10 ?_
  refine z_getI (v := 1) gi_70_11 gk_38 (hh) ?_
  refine z_pushJ gp_70_14 ?_
  refine z_icmp_eqF gi_70_15 zr_1 zr_2 (by decide) ?_
  refine z_pushJ gp_70_18 ?_
  refine z_iret gi_70_20 gr_70 ?_
  show zW _ _ _ _ _ _ _ _ _ _
  refine z_if_geF gi_139_17 zrn_12 (by decide) ?_
  refine z_pushL (z := (-9223372036854775808)) gi_139_20 rfl ?_
  refine z_lret gi_139_23 gr_139 ?_
  refine ⟨_, rfl, ?_⟩
  show zW _ _ _ _ [some (.ref 50), some (zi 0), some (zi i)] _ _ _ _ _
  refine z_aload0 gi_253_0 ?_
  refine z_iload1 gi_253_1 ?_
  refine z_iload2 gi_253_2 ?_
  refine z_cV2 gi_253_3 gk_50 go_251 (Nat.le_of_ble_eq_true rfl) gc_251_RII ?_
  refine z_iload1 gi_251_0 ?_
  refine z_cS1 gi_251_1 (Nat.le_of_ble_eq_true rfl) gc_248_I ?_
  refine z_iload0 gi_248_0 ?_
  refine z_pushJ gp_248_1 ?_
  refine z_pushJ gp_248_2 ?_
  refine z_cS3 gi_248_3 (Nat.le_of_ble_eq_true rfl) gc_148_III ?_
  refine z_iload0 gi_148_0 ?_
  refine z_iload1 gi_148_1 ?_
  refine z_icmp_ltF gi_148_2 zr_0 zr_0 (by decide) ?_
  refine z_iload0 gi_148_5 ?_
  refine z_iload2 gi_148_6 ?_
  refine z_icmp_gtF gi_148_7 zr_0 zr_5 (by decide) ?_
  refine z_pushJ gp_148_10 ?_
  refine z_goto gi_148_11 ?_
  refine z_bret1 gi_148_15 gr_148 ?_
  show zW _ _ _ _ _ _ _ _ _ _
  refine z_bret1 gi_248_6 gr_248 ?_
  show zW _ _ _ _ _ _ _ _ _ _
  refine z_if_neT gi_251_4 zr_1 (by decide) ?_
  refine z_aload0 gi_251_9 ?_
  refine z_getR (r := 83) gi_251_10 gk_50 (hRr _ rm_50_58 (by decide)) ?_
  refine z_iload1 gi_251_13 ?_
  refine z_iald (v := J 38 1) gi_251_14 gk_83 (by decide) (by decide) (e83) ?_
  refine z_pushJ gp_251_15 ?_
  refine z_icmp_ne gi_251_16 (by omega) zrn_1 (fun h1 => ?_) (fun h1 => ?_)
  · refine z_aload0 gi_251_22 ?_
    refine z_getR (r := 83) gi_251_23 gk_50 (hRr _ rm_50_58 (by decide)) ?_
    refine z_iload1 gi_251_26 ?_
    refine z_iald (v := J 38 1) gi_251_27 gk_83 (by decide) (by decide) (e83) ?_
    refine z_if_lt gi_251_28 (by omega) (fun h2 => ?_) (fun h2 => ?_)
    · refine z_iload2 gi_251_34 ?_
      refine z_pushJ gp_251_35 ?_
      refine z_aload0 gi_251_36 ?_
      refine z_getR (r := 84) gi_251_37 gk_50 (hRr _ rm_50_59 (by decide)) ?_
      refine z_iload1 gi_251_40 ?_
      refine z_iald (v := J 84 0) gi_251_41 gk_84 (by decide) (by decide) (rfl) ?_
      refine z_pushJ gp_251_42 ?_
      refine z_isub (e := (J 84 0) - 1) gi_251_43 rfl ?_
      refine z_cS3 gi_251_44 (Nat.le_of_ble_eq_true rfl) gc_148_III ?_
      refine z_iload0 gi_148_0 ?_
      refine z_iload1 gi_148_1 ?_
      refine z_icmp_lt gi_148_2 (by omega) zr_0 (fun h3 => ?_) (fun h3 => ?_)
      · refine z_pushJ gp_148_14 ?_
        refine z_bret0 gi_148_15 gr_148 ?_
        show zW _ _ _ _ _ _ _ _ _ _
        refine z_if_eqT gi_251_47 zr_0 (by decide) ?_
        refine z_pushJ gp_251_54 ?_
        refine z_iret gi_251_56 gr_251 ?_
        show zW _ _ _ _ _ _ _ _ _ _
        refine z_if_geF gi_253_6 zrn_13 (by decide) ?_
        refine z_pushL (z := (-9223372036854775808)) gi_253_9 rfl ?_
        refine z_goto gi_253_12 ?_
        refine z_lret gi_253_26 gr_253 ?_
        refine ⟨?_, ?_⟩
        · first | rfl | exact congrArg (fun v => some (zl v)) (by omega) | (exfalso; omega)
        · exact hr
      · refine z_iload0 gi_148_5 ?_
        refine z_iload2 gi_148_6 ?_
        refine z_icmp_gt gi_148_7 (by omega) (by omega) (fun h4 => ?_) (fun h4 => ?_)
        · refine z_pushJ gp_148_14 ?_
          refine z_bret0 gi_148_15 gr_148 ?_
          show zW _ _ _ _ _ _ _ _ _ _
          refine z_if_eqT gi_251_47 zr_0 (by decide) ?_
          refine z_pushJ gp_251_54 ?_
          refine z_iret gi_251_56 gr_251 ?_
          show zW _ _ _ _ _ _ _ _ _ _
          refine z_if_geF gi_253_6 zrn_13 (by decide) ?_
          refine z_pushL (z := (-9223372036854775808)) gi_253_9 rfl ?_
          refine z_goto gi_253_12 ?_
          refine z_lret gi_253_26 gr_253 ?_
          refine ⟨?_, ?_⟩
          · first | rfl | exact congrArg (fun v => some (zl v)) (by omega) | (exfalso; omega)
          · exact hr
        · refine z_pushJ gp_148_10 ?_
          refine z_goto gi_148_11 ?_
          refine z_bret1 gi_148_15 gr_148 ?_
          show zW _ _ _ _ _ _ _ _ _ _
          refine z_if_eqF gi_251_47 zr_1 (by decide) ?_
          refine z_pushJ gp_251_50 ?_
          refine z_goto gi_251_51 ?_
          refine z_iret gi_251_56 gr_251 ?_
          show zW _ _ _ _ _ _ _ _ _ _
          refine z_if_geT gi_253_6 zr_0 (by decide) ?_
          refine z_aload0 gi_253_15 ?_
          refine z_getR (r := 85) gi_253_16 gk_50 (hRr _ rm_50_60 (by decide)) ?_
          refine z_pushJ gp_253_19 ?_
          refine z_iload1 gi_253_21 ?_
          refine z_imul (e := 0) gi_253_22 rfl ?_
          refine z_iload2 gi_253_23 ?_
          refine z_iadd (e := 0 + i) gi_253_24 rfl ?_
          refine z_lald (v := M 85 (0 + i)) gi_253_25 gk_85 (by decide) (by omega) (rfl) ?_
          refine z_lret gi_253_26 gr_253 ?_
          refine ⟨?_, ?_⟩
          · first | rfl | exact congrArg (fun v => some (zl v)) (by omega) | (exfalso; omega)
          · exact hr
    · refine z_pushJ gp_251_31 ?_
      refine z_iret gi_251_33 gr_251 ?_
      show zW _ _ _ _ _ _ _ _ _ _
      refine z_if_geF gi_253_6 zrn_12 (by decide) ?_
      refine z_pushL (z := (-9223372036854775808)) gi_253_9 rfl ?_
      refine z_goto gi_253_12 ?_
      refine z_lret gi_253_26 gr_253 ?_
      refine ⟨?_, ?_⟩
      · first | rfl | exact congrArg (fun v => some (zl v)) (by omega) | (exfalso; omega)
      · exact hr
  · refine z_pushJ gp_251_19 ?_
    refine z_iret gi_251_21 gr_251 ?_
    show zW _ _ _ _ _ _ _ _ _ _
    refine z_if_geF gi_253_6 zrn_11 (by decide) ?_
    refine z_pushL (z := (-9223372036854775808)) gi_253_9 rfl ?_
    refine z_goto gi_253_12 ?_
    refine z_lret gi_253_26 gr_253 ?_
    refine ⟨?_, ?_⟩
    · first | rfl | exact congrArg (fun v => some (zl v)) (by omega) | (exfalso; omega)
    · exact hr
theorem st_put_01 {X : Nat × (Nat → Int32)} {d : Nat} {J M : zA} {R : zR} {i v : Int} (hr : Rel X J M R) (hi : -2147483648 ≤ i ∧ i < 2147483648) (hv : -9223372036854775808 ≤ v ∧ v < 9223372036854775808) (hh : J 38 0 = 1) : zW X (d + 20) 138 0 (gEn 138 [(.ref 0), (zi 0), (zi i), (zl v)]) [] J M R (stP X (d + 20) 252 [(zi 0), (zi i), (zl v)]) := by
  have hr0 := hr
  obtain ⟨hR, hG, hY, hD, hP, hC, hAc, hS, hTp, hX, hW⟩ := hr0
  have hRr : zRoR R := zRoR_of hR
  have hA0 := hAc
  obtain ⟨a1, a2, a3, a4, a5, a6⟩ := hA0
  have e83 : J 83 0 = J 38 1 := (hS 0 (by decide) (by decide)).1.symm.trans (cH_1 hh)
  have s3 : 0 ≤ J 38 2 ∧ J 38 2 ≤ 4 := (hS 0 (by decide) (by decide)).2.2.1
  have s4 : 0 ≤ J 38 3 ∧ J 38 3 ≤ 60 := (hS 0 (by decide) (by decide)).2.2.2.1
  have s5 : 0 ≤ J 38 1 ∧ J 38 1 < J 34 1 := (hS 0 (by decide) (by decide)).2.2.2.2.1 hh
  show zW _ _ _ _ [some (.ref 0), some (zi 0), some (zi i), some (zl v), none, none] _ _ _ _ _
  refine z_iload1 gi_138_0 ?_
  refine z_cS1 gi_138_1 (Nat.le_of_ble_eq_true rfl) gc_143_I ?_
  refine z_iload0 gi_143_0 ?_
  refine z_if_ltF gi_143_1 zr_0 (by decide) ?_
  refine z_iload0 gi_143_4 ?_
  refine z_pushJ gp_143_5 ?_
  refine z_icmp_geF gi_143_7 zr_0 zr_6 (by decide) ?_
  refine z_pushJ gp_143_10 ?_
  refine z_goto gi_143_11 ?_
  refine z_bret1 gi_143_15 gr_143 ?_
  show zW _ _ _ _ _ _ _ _ _ _
  refine z_if_neT gi_138_4 zr_1 (by decide) ?_
  refine z_aload0 gi_138_9 ?_
  refine z_getR (r := 37) gi_138_10 gk_0 (hR _ rm_0_11) ?_
  refine z_iload1 gi_138_13 ?_
  refine z_aald (r := 38) gi_138_14 rfl (by decide) (by decide) (hR _ rm_37_0) ?_
  refine z_iload2 gi_138_15 ?_
  refine z_cV1 gi_138_16 gk_38 go_70 (Nat.le_of_ble_eq_true rfl) gc_70_RI ?_
  refine z_aload0 gi_70_0 ?_
  refine z_getI (v := 1) gi_70_1 gk_38 (hh) ?_
  refine z_if_neT gi_70_4 zr_1 (by decide) ?_
  refine z_aload0 gi_70_10 ?_
  refine z_getI (v := 1) gi_70_11 gk_38 (hh) ?_
  refine z_pushJ gp_70_14 ?_
  refine z_icmp_eqF gi_70_15 zr_1 zr_2 (by decide) ?_
  refine z_pushJ gp_70_18 ?_
  refine z_iret gi_70_20 gr_70 ?_
  show zW _ _ _ _ _ _ _ _ _ _
  refine z_istore (ls1 := [some (.ref 0), some (zi 0), some (zi i), some (zl v), none, some (zi (-12))]) gi_138_19 rfl ?_
  refine z_iload5 gi_138_21 ?_
  refine z_if_geF gi_138_23 zrn_12 (by decide) ?_
  refine z_iload5 gi_138_26 ?_
  refine z_iret gi_138_28 gr_138 ?_
  refine ⟨_, rfl, ?_⟩
  show zW _ _ _ _ [some (.ref 50), some (zi 0), some (zi i), some (zl v), none, none, none] _ _ _ _ _
  refine z_aload0 gi_252_0 ?_
  refine z_iload1 gi_252_1 ?_
  refine z_iload2 gi_252_2 ?_
  refine z_cV2 gi_252_3 gk_50 go_251 (Nat.le_of_ble_eq_true rfl) gc_251_RII ?_
  refine z_iload1 gi_251_0 ?_
  refine z_cS1 gi_251_1 (Nat.le_of_ble_eq_true rfl) gc_248_I ?_
  refine z_iload0 gi_248_0 ?_
  refine z_pushJ gp_248_1 ?_
  refine z_pushJ gp_248_2 ?_
  refine z_cS3 gi_248_3 (Nat.le_of_ble_eq_true rfl) gc_148_III ?_
  refine z_iload0 gi_148_0 ?_
  refine z_iload1 gi_148_1 ?_
  refine z_icmp_ltF gi_148_2 zr_0 zr_0 (by decide) ?_
  refine z_iload0 gi_148_5 ?_
  refine z_iload2 gi_148_6 ?_
  refine z_icmp_gtF gi_148_7 zr_0 zr_5 (by decide) ?_
  refine z_pushJ gp_148_10 ?_
  refine z_goto gi_148_11 ?_
  refine z_bret1 gi_148_15 gr_148 ?_
  show zW _ _ _ _ _ _ _ _ _ _
  refine z_bret1 gi_248_6 gr_248 ?_
  show zW _ _ _ _ _ _ _ _ _ _
  refine z_if_neT gi_251_4 zr_1 (by decide) ?_
  refine z_aload0 gi_251_9 ?_
  refine z_getR (r := 83) gi_251_10 gk_50 (hRr _ rm_50_58 (by decide)) ?_
  refine z_iload1 gi_251_13 ?_
  refine z_iald (v := J 38 1) gi_251_14 gk_83 (by decide) (by decide) (e83) ?_
  refine z_pushJ gp_251_15 ?_
  refine z_icmp_ne gi_251_16 (by omega) zrn_1 (fun h1 => ?_) (fun h1 => ?_)
  · refine z_aload0 gi_251_22 ?_
    refine z_getR (r := 83) gi_251_23 gk_50 (hRr _ rm_50_58 (by decide)) ?_
    refine z_iload1 gi_251_26 ?_
    refine z_iald (v := J 38 1) gi_251_27 gk_83 (by decide) (by decide) (e83) ?_
    refine z_if_lt gi_251_28 (by omega) (fun h2 => ?_) (fun h2 => ?_)
    · refine z_iload2 gi_251_34 ?_
      refine z_pushJ gp_251_35 ?_
      refine z_aload0 gi_251_36 ?_
      refine z_getR (r := 84) gi_251_37 gk_50 (hRr _ rm_50_59 (by decide)) ?_
      refine z_iload1 gi_251_40 ?_
      refine z_iald (v := J 84 0) gi_251_41 gk_84 (by decide) (by decide) (rfl) ?_
      refine z_pushJ gp_251_42 ?_
      refine z_isub (e := (J 84 0) - 1) gi_251_43 rfl ?_
      refine z_cS3 gi_251_44 (Nat.le_of_ble_eq_true rfl) gc_148_III ?_
      refine z_iload0 gi_148_0 ?_
      refine z_iload1 gi_148_1 ?_
      refine z_icmp_lt gi_148_2 (by omega) zr_0 (fun h3 => ?_) (fun h3 => ?_)
      · refine z_pushJ gp_148_14 ?_
        refine z_bret0 gi_148_15 gr_148 ?_
        show zW _ _ _ _ _ _ _ _ _ _
        refine z_if_eqT gi_251_47 zr_0 (by decide) ?_
        refine z_pushJ gp_251_54 ?_
        refine z_iret gi_251_56 gr_251 ?_
        show zW _ _ _ _ _ _ _ _ _ _
        refine z_istore (ls1 := [some (.ref 50), some (zi 0), some (zi i), some (zl v), none, some (zi (-13)), none]) gi_252_6 rfl ?_
        refine z_iload5 gi_252_8 ?_
        refine z_if_geF gi_252_10 zrn_13 (by decide) ?_
        refine z_iload5 gi_252_13 ?_
        refine z_iret gi_252_15 gr_252 ?_
        refine ⟨?_, ?_⟩
        · first | rfl | exact congrArg (fun v => some (zi v)) (by omega) | (exfalso; omega)
        · exact hr
      · refine z_iload0 gi_148_5 ?_
        refine z_iload2 gi_148_6 ?_
        refine z_icmp_gt gi_148_7 (by omega) (by omega) (fun h4 => ?_) (fun h4 => ?_)
        · refine z_pushJ gp_148_14 ?_
          refine z_bret0 gi_148_15 gr_148 ?_
          show zW _ _ _ _ _ _ _ _ _ _
          refine z_if_eqT gi_251_47 zr_0 (by decide) ?_
          refine z_pushJ gp_251_54 ?_
          refine z_iret gi_251_56 gr_251 ?_
          show zW _ _ _ _ _ _ _ _ _ _
          refine z_istore (ls1 := [some (.ref 50), some (zi 0), some (zi i), some (zl v), none, some (zi (-13)), none]) gi_252_6 rfl ?_
          refine z_iload5 gi_252_8 ?_
          refine z_if_geF gi_252_10 zrn_13 (by decide) ?_
          refine z_iload5 gi_252_13 ?_
          refine z_iret gi_252_15 gr_252 ?_
          refine ⟨?_, ?_⟩
          · first | rfl | exact congrArg (fun v => some (zi v)) (by omega) | (exfalso; omega)
          · exact hr
        · refine z_pushJ gp_148_10 ?_
          refine z_goto gi_148_11 ?_
          refine z_bret1 gi_148_15 gr_148 ?_
          show zW _ _ _ _ _ _ _ _ _ _
          refine z_if_eqF gi_251_47 zr_1 (by decide) ?_
          refine z_pushJ gp_251_50 ?_
          refine z_goto gi_251_51 ?_
          refine z_iret gi_251_56 gr_251 ?_
          show zW _ _ _ _ _ _ _ _ _ _
          refine z_istore (ls1 := [some (.ref 50), some (zi 0), some (zi i), some (zl v), none, some (zi 0), none]) gi_252_6 rfl ?_
          refine z_iload5 gi_252_8 ?_
          refine z_if_geT gi_252_10 zr_0 (by decide) ?_
          refine z_pushJ gp_252_16 ?_
          refine z_aload0 gi_252_18 ?_
          refine z_getR (r := 83) gi_252_19 gk_50 (hRr _ rm_50_58 (by decide)) ?_
          refine z_iload1 gi_252_22 ?_
          refine z_iald (v := J 38 1) gi_252_23 gk_83 (by decide) (by decide) (e83) ?_
          refine z_isub (e := (-2) - (J 38 1)) gi_252_24 rfl ?_
          refine z_istore (ls1 := [some (.ref 50), some (zi 0), some (zi i), some (zl v), none, some (zi 0), some (zi ((-2) - (J 38 1)))]) gi_252_25 rfl ?_
          refine z_aload0 gi_252_27 ?_
          refine z_getR (r := 85) gi_252_28 gk_50 (hRr _ rm_50_60 (by decide)) ?_
          refine z_pushJ gp_252_31 ?_
          refine z_iload1 gi_252_33 ?_
          refine z_imul (e := 0) gi_252_34 rfl ?_
          refine z_iload2 gi_252_35 ?_
          refine z_iadd (e := 0 + i) gi_252_36 rfl ?_
          refine z_iload6 gi_252_37 ?_
          refine z_if_ne gi_252_39 (by omega) (fun h5 => ?_) (fun h5 => ?_)
          · refine z_iload6 gi_252_49 ?_
            refine z_pushJ gp_252_51 ?_
            refine z_icmp_ne gi_252_52 (by omega) zr_1 (fun h6 => ?_) (fun h6 => ?_)
            · refine z_iload6 gi_252_62 ?_
              refine z_pushJ gp_252_64 ?_
              refine z_icmp_ne gi_252_65 (by omega) zr_2 (fun h7 => ?_) (fun h7 => ?_)
              · refine z_iload6 gi_252_74 ?_
                refine z_pushJ gp_252_76 ?_
                refine z_icmp_ne gi_252_77 (by omega) zr_3 (fun h8 => ?_) (fun h8 => ?_)
                · refine z_lload3 gi_252_84 ?_
                  refine z_pushL (z := 0) gi_252_85 rfl ?_
                  refine z_lcmp_eq gi_252_86 gi_252_87 (by omega) (by omega) (fun h9 => ?_) (fun h9 => ?_)
                  · refine z_pushL (z := 0) gi_252_94 rfl ?_
                    refine z_last (e := 0) gi_252_95 gk_85 (by decide) (by omega) rfl ?_
                    refine z_pushJ gp_252_96 ?_
                    refine z_iret gi_252_97 gr_252 ?_
                    refine ⟨?_, ?_⟩
                    · first | rfl | exact congrArg (fun v => some (zi v)) (by omega) | (exfalso; omega)
                    · exfalso
                      omega
                  · refine z_pushL (z := 1) gi_252_90 rfl ?_
                    refine z_goto gi_252_91 ?_
                    refine z_last (e := 1) gi_252_95 gk_85 (by decide) (by omega) rfl ?_
                    refine z_pushJ gp_252_96 ?_
                    refine z_iret gi_252_97 gr_252 ?_
                    refine ⟨?_, ?_⟩
                    · first | rfl | exact congrArg (fun v => some (zi v)) (by omega) | (exfalso; omega)
                    · exfalso
                      omega
                · refine z_lload3 gi_252_80 ?_
                  refine z_goto gi_252_81 ?_
                  refine z_last (e := v) gi_252_95 gk_85 (by decide) (by omega) rfl ?_
                  refine z_pushJ gp_252_96 ?_
                  refine z_iret gi_252_97 gr_252 ?_
                  refine ⟨?_, ?_⟩
                  · first | rfl | exact congrArg (fun v => some (zi v)) (by omega) | (exfalso; omega)
                  · exfalso
                    omega
              · refine z_lload3 gi_252_68 ?_
                refine z_l2i gi_252_69 ?_
                refine z_topn (e := zn v) rfl ?_
                have q10 := zn_r v
                refine z_i2l gi_252_70 (by omega) ?_
                refine z_goto gi_252_71 ?_
                refine z_last (e := zn v) gi_252_95 gk_85 (by decide) (by omega) rfl ?_
                refine z_pushJ gp_252_96 ?_
                refine z_iret gi_252_97 gr_252 ?_
                refine ⟨?_, ?_⟩
                · first | rfl | exact congrArg (fun v => some (zi v)) (by omega) | (exfalso; omega)
                · exfalso
                  omega
            · refine z_lload3 gi_252_55 ?_
              refine z_l2i gi_252_56 ?_
              refine z_i2s (e := zh v) gi_252_57 rfl ?_
              have q11 := zh_r v
              refine z_i2l gi_252_58 (by omega) ?_
              refine z_goto gi_252_59 ?_
              refine z_last (e := zh v) gi_252_95 gk_85 (by decide) (by omega) rfl ?_
              refine z_pushJ gp_252_96 ?_
              refine z_iret gi_252_97 gr_252 ?_
              refine ⟨?_, ?_⟩
              · first | rfl | exact congrArg (fun v => some (zi v)) (by omega) | (exfalso; omega)
              · exfalso
                omega
          · refine z_lload3 gi_252_42 ?_
            refine z_l2i gi_252_43 ?_
            refine z_i2b (e := zb v) gi_252_44 rfl ?_
            have q12 := zb_r v
            refine z_i2l gi_252_45 (by omega) ?_
            refine z_goto gi_252_46 ?_
            refine z_last (e := zb v) gi_252_95 gk_85 (by decide) (by omega) rfl ?_
            refine z_pushJ gp_252_96 ?_
            refine z_iret gi_252_97 gr_252 ?_
            refine ⟨?_, ?_⟩
            · first | rfl | exact congrArg (fun v => some (zi v)) (by omega) | (exfalso; omega)
            · exfalso
              omega
    · refine z_pushJ gp_251_31 ?_
      refine z_iret gi_251_33 gr_251 ?_
      show zW _ _ _ _ _ _ _ _ _ _
      refine z_istore (ls1 := [some (.ref 50), some (zi 0), some (zi i), some (zl v), none, some (zi (-12)), none]) gi_252_6 rfl ?_
      refine z_iload5 gi_252_8 ?_
      refine z_if_geF gi_252_10 zrn_12 (by decide) ?_
      refine z_iload5 gi_252_13 ?_
      refine z_iret gi_252_15 gr_252 ?_
      refine ⟨?_, ?_⟩
      · first | rfl | exact congrArg (fun v => some (zi v)) (by omega) | (exfalso; omega)
      · exact hr
  · refine z_pushJ gp_251_19 ?_
    refine z_iret gi_251_21 gr_251 ?_
    show zW _ _ _ _ _ _ _ _ _ _
    refine z_istore (ls1 := [some (.ref 50), some (zi 0), some (zi i), some (zl v), none, some (zi (-11)), none]) gi_252_6 rfl ?_
    refine z_iload5 gi_252_8 ?_
    refine z_if_geF gi_252_10 zrn_11 (by decide) ?_
    refine z_iload5 gi_252_13 ?_
    refine z_iret gi_252_15 gr_252 ?_
    refine ⟨?_, ?_⟩
    · first | rfl | exact congrArg (fun v => some (zi v)) (by omega) | (exfalso; omega)
    · exact hr
theorem st_element_02 {X : Nat × (Nat → Int32)} {d : Nat} {J M : zA} {R : zR} {i : Int} (hr : Rel X J M R) (hi : -2147483648 ≤ i ∧ i < 2147483648) (hh : J 38 0 = 2) : zW X (d + 20) 139 0 (gEn 139 [(.ref 0), (zi 0), (zi i)]) [] J M R (stL X (d + 20) 253 [(zi 0), (zi i)]) := by
  have hr0 := hr
  obtain ⟨hR, hG, hY, hD, hP, hC, hAc, hS, hTp, hX, hW⟩ := hr0
  have hRr : zRoR R := zRoR_of hR
  have hA0 := hAc
  obtain ⟨a1, a2, a3, a4, a5, a6⟩ := hA0
  have e83 : J 83 0 = -2 - J 38 2 := (hS 0 (by decide) (by decide)).1.symm.trans (cH_2 hh)
  have s3 : 0 ≤ J 38 2 ∧ J 38 2 ≤ 4 := (hS 0 (by decide) (by decide)).2.2.1
  have s4 : 0 ≤ J 38 3 ∧ J 38 3 ≤ 60 := (hS 0 (by decide) (by decide)).2.2.2.1
  have s6 := (hS 0 (by decide) (by decide)).2.2.2.2.2 hh
  have s7 : J 84 0 = J 38 3 := s6.1.symm
  have s8 : ∀ i, 0 ≤ i → i < J 38 3 → M 39 i = M 85 (0 + i) := s6.2.1
  show zW _ _ _ _ [some (.ref 0), some (zi 0), some (zi i)] _ _ _ _ _
  refine z_iload1 gi_139_0 ?_
  refine z_cS1 gi_139_1 (Nat.le_of_ble_eq_true rfl) gc_143_I ?_
  refine z_iload0 gi_143_0 ?_
  refine z_if_ltF gi_143_1 zr_0 (by decide) ?_
  refine z_iload0 gi_143_4 ?_
  refine z_pushJ gp_143_5 ?_
  refine z_icmp_geF gi_143_7 zr_0 zr_6 (by decide) ?_
  refine z_pushJ gp_143_10 ?_
  refine z_goto gi_143_11 ?_
  refine z_bret1 gi_143_15 gr_143 ?_
  show zW _ _ _ _ _ _ _ _ _ _
  refine z_if_eqF gi_139_4 zr_1 (by decide) ?_
  refine z_aload0 gi_139_7 ?_
  refine z_getR (r := 37) gi_139_8 gk_0 (hR _ rm_0_11) ?_
  refine z_iload1 gi_139_11 ?_
  refine z_aald (r := 38) gi_139_12 rfl (by decide) (by decide) (hR _ rm_37_0) ?_
  refine z_iload2 gi_139_13 ?_
  refine z_cV1 gi_139_14 gk_38 go_70 (Nat.le_of_ble_eq_true rfl) gc_70_RI ?_
  refine z_aload0 gi_70_0 ?_
  refine z_getI (v := 2) gi_70_1 gk_38 (hh) ?_
  refine z_if_neT gi_70_4 zr_2 (by decide) ?_
  refine z_aload0 gi_70_10 ?_
  refine z_getI (v := 2) gi_70_11 gk_38 (hh) ?_
  refine z_pushJ gp_70_14 ?_
  refine z_icmp_eqT gi_70_15 zr_2 zr_2 (by decide) ?_
  refine z_iload1 gi_70_21 ?_
  refine z_if_lt gi_70_22 (by omega) (fun h1 => ?_) (fun h1 => ?_)
  · refine z_pushJ gp_70_37 ?_
    refine z_iret gi_70_39 gr_70 ?_
    show zW _ _ _ _ _ _ _ _ _ _
    refine z_if_geF gi_139_17 zrn_13 (by decide) ?_
    refine z_pushL (z := (-9223372036854775808)) gi_139_20 rfl ?_
    refine z_lret gi_139_23 gr_139 ?_
    refine ⟨_, rfl, ?_⟩
    show zW _ _ _ _ [some (.ref 50), some (zi 0), some (zi i)] _ _ _ _ _
    refine z_aload0 gi_253_0 ?_
    refine z_iload1 gi_253_1 ?_
    refine z_iload2 gi_253_2 ?_
    refine z_cV2 gi_253_3 gk_50 go_251 (Nat.le_of_ble_eq_true rfl) gc_251_RII ?_
    refine z_iload1 gi_251_0 ?_
    refine z_cS1 gi_251_1 (Nat.le_of_ble_eq_true rfl) gc_248_I ?_
    refine z_iload0 gi_248_0 ?_
    refine z_pushJ gp_248_1 ?_
    refine z_pushJ gp_248_2 ?_
    refine z_cS3 gi_248_3 (Nat.le_of_ble_eq_true rfl) gc_148_III ?_
    refine z_iload0 gi_148_0 ?_
    refine z_iload1 gi_148_1 ?_
    refine z_icmp_ltF gi_148_2 zr_0 zr_0 (by decide) ?_
    refine z_iload0 gi_148_5 ?_
    refine z_iload2 gi_148_6 ?_
    refine z_icmp_gtF gi_148_7 zr_0 zr_5 (by decide) ?_
    refine z_pushJ gp_148_10 ?_
    refine z_goto gi_148_11 ?_
    refine z_bret1 gi_148_15 gr_148 ?_
    show zW _ _ _ _ _ _ _ _ _ _
    refine z_bret1 gi_248_6 gr_248 ?_
    show zW _ _ _ _ _ _ _ _ _ _
    refine z_if_neT gi_251_4 zr_1 (by decide) ?_
    refine z_aload0 gi_251_9 ?_
    refine z_getR (r := 83) gi_251_10 gk_50 (hRr _ rm_50_58 (by decide)) ?_
    refine z_iload1 gi_251_13 ?_
    refine z_iald (v := (-2) - (J 38 2)) gi_251_14 gk_83 (by decide) (by decide) (e83) ?_
    refine z_pushJ gp_251_15 ?_
    refine z_icmp_ne gi_251_16 (by omega) zrn_1 (fun h2 => ?_) (fun h2 => ?_)
    · refine z_aload0 gi_251_22 ?_
      refine z_getR (r := 83) gi_251_23 gk_50 (hRr _ rm_50_58 (by decide)) ?_
      refine z_iload1 gi_251_26 ?_
      refine z_iald (v := (-2) - (J 38 2)) gi_251_27 gk_83 (by decide) (by decide) (e83) ?_
      refine z_if_lt gi_251_28 (by omega) (fun h3 => ?_) (fun h3 => ?_)
      · refine z_iload2 gi_251_34 ?_
        refine z_pushJ gp_251_35 ?_
        refine z_aload0 gi_251_36 ?_
        refine z_getR (r := 84) gi_251_37 gk_50 (hRr _ rm_50_59 (by decide)) ?_
        refine z_iload1 gi_251_40 ?_
        refine z_iald (v := J 38 3) gi_251_41 gk_84 (by decide) (by decide) (s7) ?_
        refine z_pushJ gp_251_42 ?_
        refine z_isub (e := (J 38 3) - 1) gi_251_43 rfl ?_
        refine z_cS3 gi_251_44 (Nat.le_of_ble_eq_true rfl) gc_148_III ?_
        refine z_iload0 gi_148_0 ?_
        refine z_iload1 gi_148_1 ?_
        refine z_icmp_ltT gi_148_2 (by omega) zr_0 (by omega) ?_
        refine z_pushJ gp_148_14 ?_
        refine z_bret0 gi_148_15 gr_148 ?_
        show zW _ _ _ _ _ _ _ _ _ _
        refine z_if_eqT gi_251_47 zr_0 (by decide) ?_
        refine z_pushJ gp_251_54 ?_
        refine z_iret gi_251_56 gr_251 ?_
        show zW _ _ _ _ _ _ _ _ _ _
        refine z_if_geF gi_253_6 zrn_13 (by decide) ?_
        refine z_pushL (z := (-9223372036854775808)) gi_253_9 rfl ?_
        refine z_goto gi_253_12 ?_
        refine z_lret gi_253_26 gr_253 ?_
        refine ⟨?_, ?_⟩
        · first | rfl | exact congrArg (fun v => some (zl v)) (by omega) | (exfalso; omega)
        · exact hr
      · refine z_pushJ gp_251_31 ?_
        refine z_iret gi_251_33 gr_251 ?_
        show zW _ _ _ _ _ _ _ _ _ _
        refine z_if_geF gi_253_6 zrn_12 (by decide) ?_
        refine z_pushL (z := (-9223372036854775808)) gi_253_9 rfl ?_
        refine z_goto gi_253_12 ?_
        refine z_lret gi_253_26 gr_253 ?_
        refine ⟨?_, ?_⟩
        · first | rfl | exact congrArg (fun v => some (zl v)) (by omega) | (exfalso; omega)
        · exact hr
    · refine z_pushJ gp_251_19 ?_
      refine z_iret gi_251_21 gr_251 ?_
      show zW _ _ _ _ _ _ _ _ _ _
      refine z_if_geF gi_253_6 zrn_11 (by decide) ?_
      refine z_pushL (z := (-9223372036854775808)) gi_253_9 rfl ?_
      refine z_goto gi_253_12 ?_
      refine z_lret gi_253_26 gr_253 ?_
      refine ⟨?_, ?_⟩
      · first | rfl | exact congrArg (fun v => some (zl v)) (by omega) | (exfalso; omega)
      · exact hr
  · refine z_iload1 gi_70_25 ?_
    refine z_aload0 gi_70_26 ?_
    refine z_getI (v := J 38 3) gi_70_27 gk_38 (rfl) ?_
    refine z_icmp_ge gi_70_30 (by omega) (by omega) (fun h2 => ?_) (fun h2 => ?_)
    · refine z_pushJ gp_70_37 ?_
      refine z_iret gi_70_39 gr_70 ?_
      show zW _ _ _ _ _ _ _ _ _ _
      refine z_if_geF gi_139_17 zrn_13 (by decide) ?_
      refine z_pushL (z := (-9223372036854775808)) gi_139_20 rfl ?_
      refine z_lret gi_139_23 gr_139 ?_
      refine ⟨_, rfl, ?_⟩
      show zW _ _ _ _ [some (.ref 50), some (zi 0), some (zi i)] _ _ _ _ _
      refine z_aload0 gi_253_0 ?_
      refine z_iload1 gi_253_1 ?_
      refine z_iload2 gi_253_2 ?_
      refine z_cV2 gi_253_3 gk_50 go_251 (Nat.le_of_ble_eq_true rfl) gc_251_RII ?_
      refine z_iload1 gi_251_0 ?_
      refine z_cS1 gi_251_1 (Nat.le_of_ble_eq_true rfl) gc_248_I ?_
      refine z_iload0 gi_248_0 ?_
      refine z_pushJ gp_248_1 ?_
      refine z_pushJ gp_248_2 ?_
      refine z_cS3 gi_248_3 (Nat.le_of_ble_eq_true rfl) gc_148_III ?_
      refine z_iload0 gi_148_0 ?_
      refine z_iload1 gi_148_1 ?_
      refine z_icmp_ltF gi_148_2 zr_0 zr_0 (by decide) ?_
      refine z_iload0 gi_148_5 ?_
      refine z_iload2 gi_148_6 ?_
      refine z_icmp_gtF gi_148_7 zr_0 zr_5 (by decide) ?_
      refine z_pushJ gp_148_10 ?_
      refine z_goto gi_148_11 ?_
      refine z_bret1 gi_148_15 gr_148 ?_
      show zW _ _ _ _ _ _ _ _ _ _
      refine z_bret1 gi_248_6 gr_248 ?_
      show zW _ _ _ _ _ _ _ _ _ _
      refine z_if_neT gi_251_4 zr_1 (by decide) ?_
      refine z_aload0 gi_251_9 ?_
      refine z_getR (r := 83) gi_251_10 gk_50 (hRr _ rm_50_58 (by decide)) ?_
      refine z_iload1 gi_251_13 ?_
      refine z_iald (v := (-2) - (J 38 2)) gi_251_14 gk_83 (by decide) (by decide) (e83) ?_
      refine z_pushJ gp_251_15 ?_
      refine z_icmp_ne gi_251_16 (by omega) zrn_1 (fun h3 => ?_) (fun h3 => ?_)
      · refine z_aload0 gi_251_22 ?_
        refine z_getR (r := 83) gi_251_23 gk_50 (hRr _ rm_50_58 (by decide)) ?_
        refine z_iload1 gi_251_26 ?_
        refine z_iald (v := (-2) - (J 38 2)) gi_251_27 gk_83 (by decide) (by decide) (e83) ?_
        refine z_if_lt gi_251_28 (by omega) (fun h4 => ?_) (fun h4 => ?_)
        · refine z_iload2 gi_251_34 ?_
          refine z_pushJ gp_251_35 ?_
          refine z_aload0 gi_251_36 ?_
          refine z_getR (r := 84) gi_251_37 gk_50 (hRr _ rm_50_59 (by decide)) ?_
          refine z_iload1 gi_251_40 ?_
          refine z_iald (v := J 38 3) gi_251_41 gk_84 (by decide) (by decide) (s7) ?_
          refine z_pushJ gp_251_42 ?_
          refine z_isub (e := (J 38 3) - 1) gi_251_43 rfl ?_
          refine z_cS3 gi_251_44 (Nat.le_of_ble_eq_true rfl) gc_148_III ?_
          refine z_iload0 gi_148_0 ?_
          refine z_iload1 gi_148_1 ?_
          refine z_icmp_ltF gi_148_2 (by omega) zr_0 (by omega) ?_
          refine z_iload0 gi_148_5 ?_
          refine z_iload2 gi_148_6 ?_
          refine z_icmp_gtT gi_148_7 (by omega) (by omega) (by omega) ?_
          refine z_pushJ gp_148_14 ?_
          refine z_bret0 gi_148_15 gr_148 ?_
          show zW _ _ _ _ _ _ _ _ _ _
          refine z_if_eqT gi_251_47 zr_0 (by decide) ?_
          refine z_pushJ gp_251_54 ?_
          refine z_iret gi_251_56 gr_251 ?_
          show zW _ _ _ _ _ _ _ _ _ _
          refine z_if_geF gi_253_6 zrn_13 (by decide) ?_
          refine z_pushL (z := (-9223372036854775808)) gi_253_9 rfl ?_
          refine z_goto gi_253_12 ?_
          refine z_lret gi_253_26 gr_253 ?_
          refine ⟨?_, ?_⟩
          · first | rfl | exact congrArg (fun v => some (zl v)) (by omega) | (exfalso; omega)
          · exact hr
        · refine z_pushJ gp_251_31 ?_
          refine z_iret gi_251_33 gr_251 ?_
          show zW _ _ _ _ _ _ _ _ _ _
          refine z_if_geF gi_253_6 zrn_12 (by decide) ?_
          refine z_pushL (z := (-9223372036854775808)) gi_253_9 rfl ?_
          refine z_goto gi_253_12 ?_
          refine z_lret gi_253_26 gr_253 ?_
          refine ⟨?_, ?_⟩
          · first | rfl | exact congrArg (fun v => some (zl v)) (by omega) | (exfalso; omega)
          · exact hr
      · refine z_pushJ gp_251_19 ?_
        refine z_iret gi_251_21 gr_251 ?_
        show zW _ _ _ _ _ _ _ _ _ _
        refine z_if_geF gi_253_6 zrn_11 (by decide) ?_
        refine z_pushL (z := (-9223372036854775808)) gi_253_9 rfl ?_
        refine z_goto gi_253_12 ?_
        refine z_lret gi_253_26 gr_253 ?_
        refine ⟨?_, ?_⟩
        · first | rfl | exact congrArg (fun v => some (zl v)) (by omega) | (exfalso; omega)
        · exact hr
    · refine z_pushJ gp_70_33 ?_
      refine z_goto gi_70_34 ?_
      refine z_iret gi_70_39 gr_70 ?_
      show zW _ _ _ _ _ _ _ _ _ _
      refine z_if_geT gi_139_17 zr_0 (by decide) ?_
      refine z_aload0 gi_139_24 ?_
      refine z_getR (r := 37) gi_139_25 gk_0 (hR _ rm_0_11) ?_
      refine z_iload1 gi_139_28 ?_
      refine z_aald (r := 38) gi_139_29 rfl (by decide) (by decide) (hR _ rm_37_0) ?_
      refine z_iload2 gi_139_30 ?_
      refine z_cV1 gi_139_31 gk_38 go_72 (Nat.le_of_ble_eq_true rfl) gc_72_RI ?_
      refine z_iload1 gi_72_0 ?_
      refine z_if_ltF gi_72_1 (by omega) (by omega) ?_
      refine z_iload1 gi_72_4 ?_
      refine z_aload0 gi_72_5 ?_
      refine z_getI (v := J 38 3) gi_72_6 gk_38 (rfl) ?_
      refine z_icmp_geF gi_72_9 (by omega) (by omega) (by omega) ?_
      refine z_aload0 gi_72_12 ?_
      refine z_getR (r := 39) gi_72_13 gk_38 (hR _ rm_38_4) ?_
      refine z_iload1 gi_72_16 ?_
      refine z_lald (v := M 39 i) gi_72_17 gk_39 (by decide) (by omega) (rfl) ?_
      refine z_goto gi_72_18 ?_
      refine z_lret gi_72_22 gr_72 ?_
      show zW _ _ _ _ _ _ _ _ _ _
      refine z_lret gi_139_34 gr_139 ?_
      refine ⟨_, rfl, ?_⟩
      show zW _ _ _ _ [some (.ref 50), some (zi 0), some (zi i)] _ _ _ _ _
      refine z_aload0 gi_253_0 ?_
      refine z_iload1 gi_253_1 ?_
      refine z_iload2 gi_253_2 ?_
      refine z_cV2 gi_253_3 gk_50 go_251 (Nat.le_of_ble_eq_true rfl) gc_251_RII ?_
      refine z_iload1 gi_251_0 ?_
      refine z_cS1 gi_251_1 (Nat.le_of_ble_eq_true rfl) gc_248_I ?_
      refine z_iload0 gi_248_0 ?_
      refine z_pushJ gp_248_1 ?_
      refine z_pushJ gp_248_2 ?_
      refine z_cS3 gi_248_3 (Nat.le_of_ble_eq_true rfl) gc_148_III ?_
      refine z_iload0 gi_148_0 ?_
      refine z_iload1 gi_148_1 ?_
      refine z_icmp_ltF gi_148_2 zr_0 zr_0 (by decide) ?_
      refine z_iload0 gi_148_5 ?_
      refine z_iload2 gi_148_6 ?_
      refine z_icmp_gtF gi_148_7 zr_0 zr_5 (by decide) ?_
      refine z_pushJ gp_148_10 ?_
      refine z_goto gi_148_11 ?_
      refine z_bret1 gi_148_15 gr_148 ?_
      show zW _ _ _ _ _ _ _ _ _ _
      refine z_bret1 gi_248_6 gr_248 ?_
      show zW _ _ _ _ _ _ _ _ _ _
      refine z_if_neT gi_251_4 zr_1 (by decide) ?_
      refine z_aload0 gi_251_9 ?_
      refine z_getR (r := 83) gi_251_10 gk_50 (hRr _ rm_50_58 (by decide)) ?_
      refine z_iload1 gi_251_13 ?_
      refine z_iald (v := (-2) - (J 38 2)) gi_251_14 gk_83 (by decide) (by decide) (e83) ?_
      refine z_pushJ gp_251_15 ?_
      refine z_icmp_ne gi_251_16 (by omega) zrn_1 (fun h3 => ?_) (fun h3 => ?_)
      · refine z_aload0 gi_251_22 ?_
        refine z_getR (r := 83) gi_251_23 gk_50 (hRr _ rm_50_58 (by decide)) ?_
        refine z_iload1 gi_251_26 ?_
        refine z_iald (v := (-2) - (J 38 2)) gi_251_27 gk_83 (by decide) (by decide) (e83) ?_
        refine z_if_lt gi_251_28 (by omega) (fun h4 => ?_) (fun h4 => ?_)
        · refine z_iload2 gi_251_34 ?_
          refine z_pushJ gp_251_35 ?_
          refine z_aload0 gi_251_36 ?_
          refine z_getR (r := 84) gi_251_37 gk_50 (hRr _ rm_50_59 (by decide)) ?_
          refine z_iload1 gi_251_40 ?_
          refine z_iald (v := J 38 3) gi_251_41 gk_84 (by decide) (by decide) (s7) ?_
          refine z_pushJ gp_251_42 ?_
          refine z_isub (e := (J 38 3) - 1) gi_251_43 rfl ?_
          refine z_cS3 gi_251_44 (Nat.le_of_ble_eq_true rfl) gc_148_III ?_
          refine z_iload0 gi_148_0 ?_
          refine z_iload1 gi_148_1 ?_
          refine z_icmp_ltF gi_148_2 (by omega) zr_0 (by omega) ?_
          refine z_iload0 gi_148_5 ?_
          refine z_iload2 gi_148_6 ?_
          refine z_icmp_gtF gi_148_7 (by omega) (by omega) (by omega) ?_
          refine z_pushJ gp_148_10 ?_
          refine z_goto gi_148_11 ?_
          refine z_bret1 gi_148_15 gr_148 ?_
          show zW _ _ _ _ _ _ _ _ _ _
          refine z_if_eqF gi_251_47 zr_1 (by decide) ?_
          refine z_pushJ gp_251_50 ?_
          refine z_goto gi_251_51 ?_
          refine z_iret gi_251_56 gr_251 ?_
          show zW _ _ _ _ _ _ _ _ _ _
          refine z_if_geT gi_253_6 zr_0 (by decide) ?_
          refine z_aload0 gi_253_15 ?_
          refine z_getR (r := 85) gi_253_16 gk_50 (hRr _ rm_50_60 (by decide)) ?_
          refine z_pushJ gp_253_19 ?_
          refine z_iload1 gi_253_21 ?_
          refine z_imul (e := 0) gi_253_22 rfl ?_
          refine z_iload2 gi_253_23 ?_
          refine z_iadd (e := 0 + i) gi_253_24 rfl ?_
          refine z_lald (v := M 85 (0 + i)) gi_253_25 gk_85 (by decide) (by omega) (rfl) ?_
          refine z_lret gi_253_26 gr_253 ?_
          refine ⟨?_, ?_⟩
          · first | exact congrArg (fun v => some (zl v)) (s8 i (by omega) (by omega)).symm | (exfalso; omega)
          · exact hr
        · refine z_pushJ gp_251_31 ?_
          refine z_iret gi_251_33 gr_251 ?_
          show zW _ _ _ _ _ _ _ _ _ _
          refine z_if_geF gi_253_6 zrn_12 (by decide) ?_
          refine z_pushL (z := (-9223372036854775808)) gi_253_9 rfl ?_
          refine z_goto gi_253_12 ?_
          refine z_lret gi_253_26 gr_253 ?_
          refine ⟨?_, ?_⟩
          · first | exact congrArg (fun v => some (zl v)) (s8 i (by omega) (by omega)).symm | (exfalso; omega)
          · exact hr
      · refine z_pushJ gp_251_19 ?_
        refine z_iret gi_251_21 gr_251 ?_
        show zW _ _ _ _ _ _ _ _ _ _
        refine z_if_geF gi_253_6 zrn_11 (by decide) ?_
        refine z_pushL (z := (-9223372036854775808)) gi_253_9 rfl ?_
        refine z_goto gi_253_12 ?_
        refine z_lret gi_253_26 gr_253 ?_
        refine ⟨?_, ?_⟩
        · first | exact congrArg (fun v => some (zl v)) (s8 i (by omega) (by omega)).symm | (exfalso; omega)
        · exact hr
theorem st_put_020 {X : Nat × (Nat → Int32)} {d : Nat} {J M : zA} {R : zR} {i v : Int} (hr : Rel X J M R) (hi : -2147483648 ≤ i ∧ i < 2147483648) (hv : -9223372036854775808 ≤ v ∧ v < 9223372036854775808) (hh : J 38 0 = 2) (hso : J 38 2 = 0) : zW X (d + 20) 138 0 (gEn 138 [(.ref 0), (zi 0), (zi i), (zl v)]) [] J M R (stP X (d + 20) 252 [(zi 0), (zi i), (zl v)]) := by
  have hr0 := hr
  obtain ⟨hR, hG, hY, hD, hP, hC, hAc, hS, hTp, hX, hW⟩ := hr0
  have hRr : zRoR R := zRoR_of hR
  have e83 : J 83 0 = -2 - J 38 2 := (hS 0 (by decide) (by decide)).1.symm.trans (cH_2 hh)
  have s3 : 0 ≤ J 38 2 ∧ J 38 2 ≤ 4 := (hS 0 (by decide) (by decide)).2.2.1
  have s4 : 0 ≤ J 38 3 ∧ J 38 3 ≤ 60 := (hS 0 (by decide) (by decide)).2.2.2.1
  have s6 := (hS 0 (by decide) (by decide)).2.2.2.2.2 hh
  have s7 : J 84 0 = J 38 3 := s6.1.symm
  have s8 : ∀ i, 0 ≤ i → i < J 38 3 → M 39 i = M 85 (0 + i) := s6.2.1
  show zW _ _ _ _ [some (.ref 0), some (zi 0), some (zi i), some (zl v), none, none] _ _ _ _ _
  refine z_iload1 gi_138_0 ?_
  refine z_cS1 gi_138_1 (Nat.le_of_ble_eq_true rfl) gc_143_I ?_
  refine z_iload0 gi_143_0 ?_
  refine z_if_ltF gi_143_1 zr_0 (by decide) ?_
  refine z_iload0 gi_143_4 ?_
  refine z_pushJ gp_143_5 ?_
  refine z_icmp_geF gi_143_7 zr_0 zr_6 (by decide) ?_
  refine z_pushJ gp_143_10 ?_
  refine z_goto gi_143_11 ?_
  refine z_bret1 gi_143_15 gr_143 ?_
  show zW _ _ _ _ _ _ _ _ _ _
  refine z_if_neT gi_138_4 zr_1 (by decide) ?_
  refine z_aload0 gi_138_9 ?_
  refine z_getR (r := 37) gi_138_10 gk_0 (hR _ rm_0_11) ?_
  refine z_iload1 gi_138_13 ?_
  refine z_aald (r := 38) gi_138_14 rfl (by decide) (by decide) (hR _ rm_37_0) ?_
  refine z_iload2 gi_138_15 ?_
  refine z_cV1 gi_138_16 gk_38 go_70 (Nat.le_of_ble_eq_true rfl) gc_70_RI ?_
  refine z_aload0 gi_70_0 ?_
  refine z_getI (v := 2) gi_70_1 gk_38 (hh) ?_
  refine z_if_neT gi_70_4 zr_2 (by decide) ?_
  refine z_aload0 gi_70_10 ?_
  refine z_getI (v := 2) gi_70_11 gk_38 (hh) ?_
  refine z_pushJ gp_70_14 ?_
  refine z_icmp_eqT gi_70_15 zr_2 zr_2 (by decide) ?_
  refine z_iload1 gi_70_21 ?_
  refine z_if_lt gi_70_22 (by omega) (fun h1 => ?_) (fun h1 => ?_)
  · refine z_pushJ gp_70_37 ?_
    refine z_iret gi_70_39 gr_70 ?_
    show zW _ _ _ _ _ _ _ _ _ _
    refine z_istore (ls1 := [some (.ref 0), some (zi 0), some (zi i), some (zl v), none, some (zi (-13))]) gi_138_19 rfl ?_
    refine z_iload5 gi_138_21 ?_
    refine z_if_geF gi_138_23 zrn_13 (by decide) ?_
    refine z_iload5 gi_138_26 ?_
    refine z_iret gi_138_28 gr_138 ?_
    refine ⟨_, rfl, ?_⟩
    show zW _ _ _ _ [some (.ref 50), some (zi 0), some (zi i), some (zl v), none, none, none] _ _ _ _ _
    refine z_aload0 gi_252_0 ?_
    refine z_iload1 gi_252_1 ?_
    refine z_iload2 gi_252_2 ?_
    refine z_cV2 gi_252_3 gk_50 go_251 (Nat.le_of_ble_eq_true rfl) gc_251_RII ?_
    refine z_iload1 gi_251_0 ?_
    refine z_cS1 gi_251_1 (Nat.le_of_ble_eq_true rfl) gc_248_I ?_
    refine z_iload0 gi_248_0 ?_
    refine z_pushJ gp_248_1 ?_
    refine z_pushJ gp_248_2 ?_
    refine z_cS3 gi_248_3 (Nat.le_of_ble_eq_true rfl) gc_148_III ?_
    refine z_iload0 gi_148_0 ?_
    refine z_iload1 gi_148_1 ?_
    refine z_icmp_ltF gi_148_2 zr_0 zr_0 (by decide) ?_
    refine z_iload0 gi_148_5 ?_
    refine z_iload2 gi_148_6 ?_
    refine z_icmp_gtF gi_148_7 zr_0 zr_5 (by decide) ?_
    refine z_pushJ gp_148_10 ?_
    refine z_goto gi_148_11 ?_
    refine z_bret1 gi_148_15 gr_148 ?_
    show zW _ _ _ _ _ _ _ _ _ _
    refine z_bret1 gi_248_6 gr_248 ?_
    show zW _ _ _ _ _ _ _ _ _ _
    refine z_if_neT gi_251_4 zr_1 (by decide) ?_
    refine z_aload0 gi_251_9 ?_
    refine z_getR (r := 83) gi_251_10 gk_50 (hRr _ rm_50_58 (by decide)) ?_
    refine z_iload1 gi_251_13 ?_
    refine z_iald (v := (-2)) gi_251_14 gk_83 (by decide) (by decide) ((e83.trans (by rw [hso]; rfl))) ?_
    refine z_pushJ gp_251_15 ?_
    refine z_icmp_neT gi_251_16 zrn_2 zrn_1 (by decide) ?_
    refine z_aload0 gi_251_22 ?_
    refine z_getR (r := 83) gi_251_23 gk_50 (hRr _ rm_50_58 (by decide)) ?_
    refine z_iload1 gi_251_26 ?_
    refine z_iald (v := (-2)) gi_251_27 gk_83 (by decide) (by decide) ((e83.trans (by rw [hso]; rfl))) ?_
    refine z_if_ltT gi_251_28 zrn_2 (by decide) ?_
    refine z_iload2 gi_251_34 ?_
    refine z_pushJ gp_251_35 ?_
    refine z_aload0 gi_251_36 ?_
    refine z_getR (r := 84) gi_251_37 gk_50 (hRr _ rm_50_59 (by decide)) ?_
    refine z_iload1 gi_251_40 ?_
    refine z_iald (v := J 38 3) gi_251_41 gk_84 (by decide) (by decide) (s7) ?_
    refine z_pushJ gp_251_42 ?_
    refine z_isub (e := (J 38 3) - 1) gi_251_43 rfl ?_
    refine z_cS3 gi_251_44 (Nat.le_of_ble_eq_true rfl) gc_148_III ?_
    refine z_iload0 gi_148_0 ?_
    refine z_iload1 gi_148_1 ?_
    refine z_icmp_ltT gi_148_2 (by omega) zr_0 (by omega) ?_
    refine z_pushJ gp_148_14 ?_
    refine z_bret0 gi_148_15 gr_148 ?_
    show zW _ _ _ _ _ _ _ _ _ _
    refine z_if_eqT gi_251_47 zr_0 (by decide) ?_
    refine z_pushJ gp_251_54 ?_
    refine z_iret gi_251_56 gr_251 ?_
    show zW _ _ _ _ _ _ _ _ _ _
    refine z_istore (ls1 := [some (.ref 50), some (zi 0), some (zi i), some (zl v), none, some (zi (-13)), none]) gi_252_6 rfl ?_
    refine z_iload5 gi_252_8 ?_
    refine z_if_geF gi_252_10 zrn_13 (by decide) ?_
    refine z_iload5 gi_252_13 ?_
    refine z_iret gi_252_15 gr_252 ?_
    refine ⟨?_, ?_⟩
    · first | rfl | exact congrArg (fun v => some (zi v)) (by omega) | (exfalso; omega)
    · exact hr
  · refine z_iload1 gi_70_25 ?_
    refine z_aload0 gi_70_26 ?_
    refine z_getI (v := J 38 3) gi_70_27 gk_38 (rfl) ?_
    refine z_icmp_ge gi_70_30 (by omega) (by omega) (fun h2 => ?_) (fun h2 => ?_)
    · refine z_pushJ gp_70_37 ?_
      refine z_iret gi_70_39 gr_70 ?_
      show zW _ _ _ _ _ _ _ _ _ _
      refine z_istore (ls1 := [some (.ref 0), some (zi 0), some (zi i), some (zl v), none, some (zi (-13))]) gi_138_19 rfl ?_
      refine z_iload5 gi_138_21 ?_
      refine z_if_geF gi_138_23 zrn_13 (by decide) ?_
      refine z_iload5 gi_138_26 ?_
      refine z_iret gi_138_28 gr_138 ?_
      refine ⟨_, rfl, ?_⟩
      show zW _ _ _ _ [some (.ref 50), some (zi 0), some (zi i), some (zl v), none, none, none] _ _ _ _ _
      refine z_aload0 gi_252_0 ?_
      refine z_iload1 gi_252_1 ?_
      refine z_iload2 gi_252_2 ?_
      refine z_cV2 gi_252_3 gk_50 go_251 (Nat.le_of_ble_eq_true rfl) gc_251_RII ?_
      refine z_iload1 gi_251_0 ?_
      refine z_cS1 gi_251_1 (Nat.le_of_ble_eq_true rfl) gc_248_I ?_
      refine z_iload0 gi_248_0 ?_
      refine z_pushJ gp_248_1 ?_
      refine z_pushJ gp_248_2 ?_
      refine z_cS3 gi_248_3 (Nat.le_of_ble_eq_true rfl) gc_148_III ?_
      refine z_iload0 gi_148_0 ?_
      refine z_iload1 gi_148_1 ?_
      refine z_icmp_ltF gi_148_2 zr_0 zr_0 (by decide) ?_
      refine z_iload0 gi_148_5 ?_
      refine z_iload2 gi_148_6 ?_
      refine z_icmp_gtF gi_148_7 zr_0 zr_5 (by decide) ?_
      refine z_pushJ gp_148_10 ?_
      refine z_goto gi_148_11 ?_
      refine z_bret1 gi_148_15 gr_148 ?_
      show zW _ _ _ _ _ _ _ _ _ _
      refine z_bret1 gi_248_6 gr_248 ?_
      show zW _ _ _ _ _ _ _ _ _ _
      refine z_if_neT gi_251_4 zr_1 (by decide) ?_
      refine z_aload0 gi_251_9 ?_
      refine z_getR (r := 83) gi_251_10 gk_50 (hRr _ rm_50_58 (by decide)) ?_
      refine z_iload1 gi_251_13 ?_
      refine z_iald (v := (-2)) gi_251_14 gk_83 (by decide) (by decide) ((e83.trans (by rw [hso]; rfl))) ?_
      refine z_pushJ gp_251_15 ?_
      refine z_icmp_neT gi_251_16 zrn_2 zrn_1 (by decide) ?_
      refine z_aload0 gi_251_22 ?_
      refine z_getR (r := 83) gi_251_23 gk_50 (hRr _ rm_50_58 (by decide)) ?_
      refine z_iload1 gi_251_26 ?_
      refine z_iald (v := (-2)) gi_251_27 gk_83 (by decide) (by decide) ((e83.trans (by rw [hso]; rfl))) ?_
      refine z_if_ltT gi_251_28 zrn_2 (by decide) ?_
      refine z_iload2 gi_251_34 ?_
      refine z_pushJ gp_251_35 ?_
      refine z_aload0 gi_251_36 ?_
      refine z_getR (r := 84) gi_251_37 gk_50 (hRr _ rm_50_59 (by decide)) ?_
      refine z_iload1 gi_251_40 ?_
      refine z_iald (v := J 38 3) gi_251_41 gk_84 (by decide) (by decide) (s7) ?_
      refine z_pushJ gp_251_42 ?_
      refine z_isub (e := (J 38 3) - 1) gi_251_43 rfl ?_
      refine z_cS3 gi_251_44 (Nat.le_of_ble_eq_true rfl) gc_148_III ?_
      refine z_iload0 gi_148_0 ?_
      refine z_iload1 gi_148_1 ?_
      refine z_icmp_ltF gi_148_2 (by omega) zr_0 (by omega) ?_
      refine z_iload0 gi_148_5 ?_
      refine z_iload2 gi_148_6 ?_
      refine z_icmp_gtT gi_148_7 (by omega) (by omega) (by omega) ?_
      refine z_pushJ gp_148_14 ?_
      refine z_bret0 gi_148_15 gr_148 ?_
      show zW _ _ _ _ _ _ _ _ _ _
      refine z_if_eqT gi_251_47 zr_0 (by decide) ?_
      refine z_pushJ gp_251_54 ?_
      refine z_iret gi_251_56 gr_251 ?_
      show zW _ _ _ _ _ _ _ _ _ _
      refine z_istore (ls1 := [some (.ref 50), some (zi 0), some (zi i), some (zl v), none, some (zi (-13)), none]) gi_252_6 rfl ?_
      refine z_iload5 gi_252_8 ?_
      refine z_if_geF gi_252_10 zrn_13 (by decide) ?_
      refine z_iload5 gi_252_13 ?_
      refine z_iret gi_252_15 gr_252 ?_
      refine ⟨?_, ?_⟩
      · first | rfl | exact congrArg (fun v => some (zi v)) (by omega) | (exfalso; omega)
      · exact hr
    · refine z_pushJ gp_70_33 ?_
      refine z_goto gi_70_34 ?_
      refine z_iret gi_70_39 gr_70 ?_
      show zW _ _ _ _ _ _ _ _ _ _
      refine z_istore (ls1 := [some (.ref 0), some (zi 0), some (zi i), some (zl v), none, some (zi 0)]) gi_138_19 rfl ?_
      refine z_iload5 gi_138_21 ?_
      refine z_if_geT gi_138_23 zr_0 (by decide) ?_
      refine z_aload0 gi_138_29 ?_
      refine z_getR (r := 37) gi_138_30 gk_0 (hR _ rm_0_11) ?_
      refine z_iload1 gi_138_33 ?_
      refine z_aald (r := 38) gi_138_34 rfl (by decide) (by decide) (hR _ rm_37_0) ?_
      refine z_iload2 gi_138_35 ?_
      refine z_lload3 gi_138_36 ?_
      refine z_callVi (As := [_, _]) (le := [some _, some _, some _, none]) gi_138_37 rfl gk_38 (Nat.le_of_ble_eq_true rfl) (Nat.le_of_ble_eq_true rfl) rfl ?_
      refine z_iload1 gi_73_0 ?_
      refine z_if_ltF gi_73_1 (by omega) (by omega) ?_
      refine z_iload1 gi_73_4 ?_
      refine z_aload0 gi_73_5 ?_
      refine z_getI (v := J 38 3) gi_73_6 gk_38 (rfl) ?_
      refine z_icmp_geF gi_73_9 (by omega) (by omega) (by omega) ?_
      refine z_aload0 gi_73_12 ?_
      refine z_getR (r := 39) gi_73_13 gk_38 (hR _ rm_38_4) ?_
      refine z_iload1 gi_73_16 ?_
      refine z_aload0 gi_73_17 ?_
      refine z_lload2 gi_73_18 ?_
      refine z_callVi (As := [_]) (le := [some _, some _, none]) gi_73_19 rfl gk_38 (Nat.le_of_ble_eq_true rfl) (Nat.le_of_ble_eq_true rfl) rfl ?_
      refine z_aload0 gi_74_0 ?_
      refine z_getI (v := 0) gi_74_1 gk_38 (hso) ?_
      refine z_swI (tg := 40) gi_74_4 (by decide) (T := [((0 : Int), 40), ((1 : Int), 45), ((2 : Int), 50), ((3 : Int), 66), ((4 : Int), 54)]) rfl (by decide) ?_
      refine z_lload1 gi_74_40 ?_
      refine z_l2i gi_74_41 ?_
      refine z_i2b (e := zb v) gi_74_42 rfl ?_
      have q3 := zb_r v
      refine z_i2l gi_74_43 (by omega) ?_
      refine z_lret gi_74_44 gr_74 ?_
      show zW _ _ _ _ _ _ _ _ _ _
      refine z_last (e := zb v) gi_73_22 gk_39 (by decide) (by omega) rfl ?_
      refine z_vret gi_73_23 gr_73 ?_
      show zW _ _ _ _ _ _ _ _ _ _
      refine z_pushJ gp_138_40 ?_
      refine z_iret gi_138_41 gr_138 ?_
      refine ⟨_, rfl, ?_⟩
      show zW _ _ _ _ [some (.ref 50), some (zi 0), some (zi i), some (zl v), none, none, none] _ _ _ _ _
      refine z_aload0 gi_252_0 ?_
      refine z_iload1 gi_252_1 ?_
      refine z_iload2 gi_252_2 ?_
      refine z_cV2 gi_252_3 gk_50 go_251 (Nat.le_of_ble_eq_true rfl) gc_251_RII ?_
      refine z_iload1 gi_251_0 ?_
      refine z_cS1 gi_251_1 (Nat.le_of_ble_eq_true rfl) gc_248_I ?_
      refine z_iload0 gi_248_0 ?_
      refine z_pushJ gp_248_1 ?_
      refine z_pushJ gp_248_2 ?_
      refine z_cS3 gi_248_3 (Nat.le_of_ble_eq_true rfl) gc_148_III ?_
      refine z_iload0 gi_148_0 ?_
      refine z_iload1 gi_148_1 ?_
      refine z_icmp_ltF gi_148_2 zr_0 zr_0 (by decide) ?_
      refine z_iload0 gi_148_5 ?_
      refine z_iload2 gi_148_6 ?_
      refine z_icmp_gtF gi_148_7 zr_0 zr_5 (by decide) ?_
      refine z_pushJ gp_148_10 ?_
      refine z_goto gi_148_11 ?_
      refine z_bret1 gi_148_15 gr_148 ?_
      show zW _ _ _ _ _ _ _ _ _ _
      refine z_bret1 gi_248_6 gr_248 ?_
      show zW _ _ _ _ _ _ _ _ _ _
      refine z_if_neT gi_251_4 zr_1 (by decide) ?_
      refine z_aload0 gi_251_9 ?_
      refine z_getR (r := 83) gi_251_10 gk_50 (hRr _ rm_50_58 (by decide)) ?_
      refine z_iload1 gi_251_13 ?_
      refine z_iald (v := (-2)) gi_251_14 gk_83 (by decide) (by decide) ((e83.trans (by rw [hso]; rfl))) ?_
      refine z_pushJ gp_251_15 ?_
      refine z_icmp_neT gi_251_16 zrn_2 zrn_1 (by decide) ?_
      refine z_aload0 gi_251_22 ?_
      refine z_getR (r := 83) gi_251_23 gk_50 (hRr _ rm_50_58 (by decide)) ?_
      refine z_iload1 gi_251_26 ?_
      refine z_iald (v := (-2)) gi_251_27 gk_83 (by decide) (by decide) ((e83.trans (by rw [hso]; rfl))) ?_
      refine z_if_ltT gi_251_28 zrn_2 (by decide) ?_
      refine z_iload2 gi_251_34 ?_
      refine z_pushJ gp_251_35 ?_
      refine z_aload0 gi_251_36 ?_
      refine z_getR (r := 84) gi_251_37 gk_50 (hRr _ rm_50_59 (by decide)) ?_
      refine z_iload1 gi_251_40 ?_
      refine z_iald (v := J 38 3) gi_251_41 gk_84 (by decide) (by decide) (s7) ?_
      refine z_pushJ gp_251_42 ?_
      refine z_isub (e := (J 38 3) - 1) gi_251_43 rfl ?_
      refine z_cS3 gi_251_44 (Nat.le_of_ble_eq_true rfl) gc_148_III ?_
      refine z_iload0 gi_148_0 ?_
      refine z_iload1 gi_148_1 ?_
      refine z_icmp_ltF gi_148_2 (by omega) zr_0 (by omega) ?_
      refine z_iload0 gi_148_5 ?_
      refine z_iload2 gi_148_6 ?_
      refine z_icmp_gtF gi_148_7 (by omega) (by omega) (by omega) ?_
      refine z_pushJ gp_148_10 ?_
      refine z_goto gi_148_11 ?_
      refine z_bret1 gi_148_15 gr_148 ?_
      show zW _ _ _ _ _ _ _ _ _ _
      refine z_if_eqF gi_251_47 zr_1 (by decide) ?_
      refine z_pushJ gp_251_50 ?_
      refine z_goto gi_251_51 ?_
      refine z_iret gi_251_56 gr_251 ?_
      show zW _ _ _ _ _ _ _ _ _ _
      refine z_istore (ls1 := [some (.ref 50), some (zi 0), some (zi i), some (zl v), none, some (zi 0), none]) gi_252_6 rfl ?_
      refine z_iload5 gi_252_8 ?_
      refine z_if_geT gi_252_10 zr_0 (by decide) ?_
      refine z_pushJ gp_252_16 ?_
      refine z_aload0 gi_252_18 ?_
      refine z_getR (r := 83) gi_252_19 gk_50 (hRr _ rm_50_58 (by decide)) ?_
      refine z_iload1 gi_252_22 ?_
      refine z_iald (v := (-2)) gi_252_23 gk_83 (by decide) (by decide) ((e83.trans (by rw [hso]; rfl))) ?_
      refine z_isub (e := 0) gi_252_24 rfl ?_
      refine z_istore (ls1 := [some (.ref 50), some (zi 0), some (zi i), some (zl v), none, some (zi 0), some (zi 0)]) gi_252_25 rfl ?_
      refine z_aload0 gi_252_27 ?_
      refine z_getR (r := 85) gi_252_28 gk_50 (hRr _ rm_50_60 (by decide)) ?_
      refine z_pushJ gp_252_31 ?_
      refine z_iload1 gi_252_33 ?_
      refine z_imul (e := 0) gi_252_34 rfl ?_
      refine z_iload2 gi_252_35 ?_
      refine z_iadd (e := 0 + i) gi_252_36 rfl ?_
      refine z_iload6 gi_252_37 ?_
      refine z_if_neF gi_252_39 zr_0 (by decide) ?_
      refine z_lload3 gi_252_42 ?_
      refine z_l2i gi_252_43 ?_
      refine z_i2b (e := zb v) gi_252_44 rfl ?_
      have q4 := zb_r v
      refine z_i2l gi_252_45 (by omega) ?_
      refine z_goto gi_252_46 ?_
      refine z_last (e := zb v) gi_252_95 gk_85 (by decide) (by omega) rfl ?_
      refine z_pushJ gp_252_96 ?_
      refine z_iret gi_252_97 gr_252 ?_
      refine ⟨?_, ?_⟩
      · first | rfl | exact congrArg (fun v => some (zi v)) (by omega) | (exfalso; omega)
      · have hk := (zK_r (k := (kL [] [])) (A := J))
        have hkm := (zK_x (a := 85) (x := 0 + i) (v := zb v) (zK_x (a := 39) (x := i) (v := zb v) (zK_r (k := (kL [39, 85] [])) (A := M)) rfl) rfl)
        exact ⟨hR, hG, RelY_k hk (by repeat' constructor) (fun p => by repeat' constructor) hY, RelD_k hk (by repeat' constructor) (fun p => by repeat' constructor) hD, RelP_k hk (by repeat' constructor) (fun p => by repeat' constructor) hP, RelC_k hk (by repeat' constructor) (fun p => by repeat' constructor) hC, RelA_k hk (by repeat' constructor) (fun p => by repeat' constructor) hAc, (RelS_one (J := J) (M := M) (c := 0) (fun t t1 t2 te => by have q : t = 0 ∨ t = 1 ∨ t = 2 ∨ t = 3 ∨ t = 4 ∨ t = 5 := (by omega); rcases q with rfl | rfl | rfl | rfl | rfl | rfl <;> first | exact absurd rfl te | exact ⟨fun j => rfl, rfl, rfl⟩) (fun t t1 t2 te => by have q : t = 0 ∨ t = 1 ∨ t = 2 ∨ t = 3 ∨ t = 4 ∨ t = 5 := (by omega); rcases q with rfl | rfl | rfl | rfl | rfl | rfl <;> first | exact absurd rfl te | exact ⟨fun j => rfl, fun j j1 j2 => (zU_x (by omega)).trans (zU_n (by decide))⟩) rfl (show RelS1 _ _ _ from ⟨(hS 0 (by decide) (by decide)).1, (hS 0 (by decide) (by decide)).2.1, s3, s4, (hS 0 (by decide) (by decide)).2.2.2.2.1, fun _ => ⟨s7.symm, fun k k1 k2 => by show (if k = i then zb v else M 39 k) = (if 0 + k = 0 + i then zb v else M 85 (0 + k)); by_cases e : k = i; rw [if_pos e, if_pos (by omega)]; rw [if_neg e, if_neg (by omega)]; exact s8 k k1 k2, (fun hq k k1 k2 => by show -128 ≤ (if k = i then zb v else M 39 k) ∧ (if k = i then zb v else M 39 k) ≤ 127; split <;> first | (have := zb_r v; omega) | exact s6.2.2 hq k k1 k2)⟩⟩) hS), RelT_k hk (by repeat' constructor) (fun p => by repeat' constructor) hTp, RelX_k hk (by repeat' constructor) (fun p => by repeat' constructor) hX, RelW_k hk ⟨rfl, rfl⟩ trivial hW⟩
theorem st_put_021 {X : Nat × (Nat → Int32)} {d : Nat} {J M : zA} {R : zR} {i v : Int} (hr : Rel X J M R) (hi : -2147483648 ≤ i ∧ i < 2147483648) (hv : -9223372036854775808 ≤ v ∧ v < 9223372036854775808) (hh : J 38 0 = 2) (hso : J 38 2 = 1) : zW X (d + 20) 138 0 (gEn 138 [(.ref 0), (zi 0), (zi i), (zl v)]) [] J M R (stP X (d + 20) 252 [(zi 0), (zi i), (zl v)]) := by
  have hr0 := hr
  obtain ⟨hR, hG, hY, hD, hP, hC, hAc, hS, hTp, hX, hW⟩ := hr0
  have hRr : zRoR R := zRoR_of hR
  have e83 : J 83 0 = -2 - J 38 2 := (hS 0 (by decide) (by decide)).1.symm.trans (cH_2 hh)
  have s3 : 0 ≤ J 38 2 ∧ J 38 2 ≤ 4 := (hS 0 (by decide) (by decide)).2.2.1
  have s4 : 0 ≤ J 38 3 ∧ J 38 3 ≤ 60 := (hS 0 (by decide) (by decide)).2.2.2.1
  have s6 := (hS 0 (by decide) (by decide)).2.2.2.2.2 hh
  have s7 : J 84 0 = J 38 3 := s6.1.symm
  have s8 : ∀ i, 0 ≤ i → i < J 38 3 → M 39 i = M 85 (0 + i) := s6.2.1
  show zW _ _ _ _ [some (.ref 0), some (zi 0), some (zi i), some (zl v), none, none] _ _ _ _ _
  refine z_iload1 gi_138_0 ?_
  refine z_cS1 gi_138_1 (Nat.le_of_ble_eq_true rfl) gc_143_I ?_
  refine z_iload0 gi_143_0 ?_
  refine z_if_ltF gi_143_1 zr_0 (by decide) ?_
  refine z_iload0 gi_143_4 ?_
  refine z_pushJ gp_143_5 ?_
  refine z_icmp_geF gi_143_7 zr_0 zr_6 (by decide) ?_
  refine z_pushJ gp_143_10 ?_
  refine z_goto gi_143_11 ?_
  refine z_bret1 gi_143_15 gr_143 ?_
  show zW _ _ _ _ _ _ _ _ _ _
  refine z_if_neT gi_138_4 zr_1 (by decide) ?_
  refine z_aload0 gi_138_9 ?_
  refine z_getR (r := 37) gi_138_10 gk_0 (hR _ rm_0_11) ?_
  refine z_iload1 gi_138_13 ?_
  refine z_aald (r := 38) gi_138_14 rfl (by decide) (by decide) (hR _ rm_37_0) ?_
  refine z_iload2 gi_138_15 ?_
  refine z_cV1 gi_138_16 gk_38 go_70 (Nat.le_of_ble_eq_true rfl) gc_70_RI ?_
  refine z_aload0 gi_70_0 ?_
  refine z_getI (v := 2) gi_70_1 gk_38 (hh) ?_
  refine z_if_neT gi_70_4 zr_2 (by decide) ?_
  refine z_aload0 gi_70_10 ?_
  refine z_getI (v := 2) gi_70_11 gk_38 (hh) ?_
  refine z_pushJ gp_70_14 ?_
  refine z_icmp_eqT gi_70_15 zr_2 zr_2 (by decide) ?_
  refine z_iload1 gi_70_21 ?_
  refine z_if_lt gi_70_22 (by omega) (fun h1 => ?_) (fun h1 => ?_)
  · refine z_pushJ gp_70_37 ?_
    refine z_iret gi_70_39 gr_70 ?_
    show zW _ _ _ _ _ _ _ _ _ _
    refine z_istore (ls1 := [some (.ref 0), some (zi 0), some (zi i), some (zl v), none, some (zi (-13))]) gi_138_19 rfl ?_
    refine z_iload5 gi_138_21 ?_
    refine z_if_geF gi_138_23 zrn_13 (by decide) ?_
    refine z_iload5 gi_138_26 ?_
    refine z_iret gi_138_28 gr_138 ?_
    refine ⟨_, rfl, ?_⟩
    show zW _ _ _ _ [some (.ref 50), some (zi 0), some (zi i), some (zl v), none, none, none] _ _ _ _ _
    refine z_aload0 gi_252_0 ?_
    refine z_iload1 gi_252_1 ?_
    refine z_iload2 gi_252_2 ?_
    refine z_cV2 gi_252_3 gk_50 go_251 (Nat.le_of_ble_eq_true rfl) gc_251_RII ?_
    refine z_iload1 gi_251_0 ?_
    refine z_cS1 gi_251_1 (Nat.le_of_ble_eq_true rfl) gc_248_I ?_
    refine z_iload0 gi_248_0 ?_
    refine z_pushJ gp_248_1 ?_
    refine z_pushJ gp_248_2 ?_
    refine z_cS3 gi_248_3 (Nat.le_of_ble_eq_true rfl) gc_148_III ?_
    refine z_iload0 gi_148_0 ?_
    refine z_iload1 gi_148_1 ?_
    refine z_icmp_ltF gi_148_2 zr_0 zr_0 (by decide) ?_
    refine z_iload0 gi_148_5 ?_
    refine z_iload2 gi_148_6 ?_
    refine z_icmp_gtF gi_148_7 zr_0 zr_5 (by decide) ?_
    refine z_pushJ gp_148_10 ?_
    refine z_goto gi_148_11 ?_
    refine z_bret1 gi_148_15 gr_148 ?_
    show zW _ _ _ _ _ _ _ _ _ _
    refine z_bret1 gi_248_6 gr_248 ?_
    show zW _ _ _ _ _ _ _ _ _ _
    refine z_if_neT gi_251_4 zr_1 (by decide) ?_
    refine z_aload0 gi_251_9 ?_
    refine z_getR (r := 83) gi_251_10 gk_50 (hRr _ rm_50_58 (by decide)) ?_
    refine z_iload1 gi_251_13 ?_
    refine z_iald (v := (-3)) gi_251_14 gk_83 (by decide) (by decide) ((e83.trans (by rw [hso]; rfl))) ?_
    refine z_pushJ gp_251_15 ?_
    refine z_icmp_neT gi_251_16 zrn_3 zrn_1 (by decide) ?_
    refine z_aload0 gi_251_22 ?_
    refine z_getR (r := 83) gi_251_23 gk_50 (hRr _ rm_50_58 (by decide)) ?_
    refine z_iload1 gi_251_26 ?_
    refine z_iald (v := (-3)) gi_251_27 gk_83 (by decide) (by decide) ((e83.trans (by rw [hso]; rfl))) ?_
    refine z_if_ltT gi_251_28 zrn_3 (by decide) ?_
    refine z_iload2 gi_251_34 ?_
    refine z_pushJ gp_251_35 ?_
    refine z_aload0 gi_251_36 ?_
    refine z_getR (r := 84) gi_251_37 gk_50 (hRr _ rm_50_59 (by decide)) ?_
    refine z_iload1 gi_251_40 ?_
    refine z_iald (v := J 38 3) gi_251_41 gk_84 (by decide) (by decide) (s7) ?_
    refine z_pushJ gp_251_42 ?_
    refine z_isub (e := (J 38 3) - 1) gi_251_43 rfl ?_
    refine z_cS3 gi_251_44 (Nat.le_of_ble_eq_true rfl) gc_148_III ?_
    refine z_iload0 gi_148_0 ?_
    refine z_iload1 gi_148_1 ?_
    refine z_icmp_ltT gi_148_2 (by omega) zr_0 (by omega) ?_
    refine z_pushJ gp_148_14 ?_
    refine z_bret0 gi_148_15 gr_148 ?_
    show zW _ _ _ _ _ _ _ _ _ _
    refine z_if_eqT gi_251_47 zr_0 (by decide) ?_
    refine z_pushJ gp_251_54 ?_
    refine z_iret gi_251_56 gr_251 ?_
    show zW _ _ _ _ _ _ _ _ _ _
    refine z_istore (ls1 := [some (.ref 50), some (zi 0), some (zi i), some (zl v), none, some (zi (-13)), none]) gi_252_6 rfl ?_
    refine z_iload5 gi_252_8 ?_
    refine z_if_geF gi_252_10 zrn_13 (by decide) ?_
    refine z_iload5 gi_252_13 ?_
    refine z_iret gi_252_15 gr_252 ?_
    refine ⟨?_, ?_⟩
    · first | rfl | exact congrArg (fun v => some (zi v)) (by omega) | (exfalso; omega)
    · exact hr
  · refine z_iload1 gi_70_25 ?_
    refine z_aload0 gi_70_26 ?_
    refine z_getI (v := J 38 3) gi_70_27 gk_38 (rfl) ?_
    refine z_icmp_ge gi_70_30 (by omega) (by omega) (fun h2 => ?_) (fun h2 => ?_)
    · refine z_pushJ gp_70_37 ?_
      refine z_iret gi_70_39 gr_70 ?_
      show zW _ _ _ _ _ _ _ _ _ _
      refine z_istore (ls1 := [some (.ref 0), some (zi 0), some (zi i), some (zl v), none, some (zi (-13))]) gi_138_19 rfl ?_
      refine z_iload5 gi_138_21 ?_
      refine z_if_geF gi_138_23 zrn_13 (by decide) ?_
      refine z_iload5 gi_138_26 ?_
      refine z_iret gi_138_28 gr_138 ?_
      refine ⟨_, rfl, ?_⟩
      show zW _ _ _ _ [some (.ref 50), some (zi 0), some (zi i), some (zl v), none, none, none] _ _ _ _ _
      refine z_aload0 gi_252_0 ?_
      refine z_iload1 gi_252_1 ?_
      refine z_iload2 gi_252_2 ?_
      refine z_cV2 gi_252_3 gk_50 go_251 (Nat.le_of_ble_eq_true rfl) gc_251_RII ?_
      refine z_iload1 gi_251_0 ?_
      refine z_cS1 gi_251_1 (Nat.le_of_ble_eq_true rfl) gc_248_I ?_
      refine z_iload0 gi_248_0 ?_
      refine z_pushJ gp_248_1 ?_
      refine z_pushJ gp_248_2 ?_
      refine z_cS3 gi_248_3 (Nat.le_of_ble_eq_true rfl) gc_148_III ?_
      refine z_iload0 gi_148_0 ?_
      refine z_iload1 gi_148_1 ?_
      refine z_icmp_ltF gi_148_2 zr_0 zr_0 (by decide) ?_
      refine z_iload0 gi_148_5 ?_
      refine z_iload2 gi_148_6 ?_
      refine z_icmp_gtF gi_148_7 zr_0 zr_5 (by decide) ?_
      refine z_pushJ gp_148_10 ?_
      refine z_goto gi_148_11 ?_
      refine z_bret1 gi_148_15 gr_148 ?_
      show zW _ _ _ _ _ _ _ _ _ _
      refine z_bret1 gi_248_6 gr_248 ?_
      show zW _ _ _ _ _ _ _ _ _ _
      refine z_if_neT gi_251_4 zr_1 (by decide) ?_
      refine z_aload0 gi_251_9 ?_
      refine z_getR (r := 83) gi_251_10 gk_50 (hRr _ rm_50_58 (by decide)) ?_
      refine z_iload1 gi_251_13 ?_
      refine z_iald (v := (-3)) gi_251_14 gk_83 (by decide) (by decide) ((e83.trans (by rw [hso]; rfl))) ?_
      refine z_pushJ gp_251_15 ?_
      refine z_icmp_neT gi_251_16 zrn_3 zrn_1 (by decide) ?_
      refine z_aload0 gi_251_22 ?_
      refine z_getR (r := 83) gi_251_23 gk_50 (hRr _ rm_50_58 (by decide)) ?_
      refine z_iload1 gi_251_26 ?_
      refine z_iald (v := (-3)) gi_251_27 gk_83 (by decide) (by decide) ((e83.trans (by rw [hso]; rfl))) ?_
      refine z_if_ltT gi_251_28 zrn_3 (by decide) ?_
      refine z_iload2 gi_251_34 ?_
      refine z_pushJ gp_251_35 ?_
      refine z_aload0 gi_251_36 ?_
      refine z_getR (r := 84) gi_251_37 gk_50 (hRr _ rm_50_59 (by decide)) ?_
      refine z_iload1 gi_251_40 ?_
      refine z_iald (v := J 38 3) gi_251_41 gk_84 (by decide) (by decide) (s7) ?_
      refine z_pushJ gp_251_42 ?_
      refine z_isub (e := (J 38 3) - 1) gi_251_43 rfl ?_
      refine z_cS3 gi_251_44 (Nat.le_of_ble_eq_true rfl) gc_148_III ?_
      refine z_iload0 gi_148_0 ?_
      refine z_iload1 gi_148_1 ?_
      refine z_icmp_ltF gi_148_2 (by omega) zr_0 (by omega) ?_
      refine z_iload0 gi_148_5 ?_
      refine z_iload2 gi_148_6 ?_
      refine z_icmp_gtT gi_148_7 (by omega) (by omega) (by omega) ?_
      refine z_pushJ gp_148_14 ?_
      refine z_bret0 gi_148_15 gr_148 ?_
      show zW _ _ _ _ _ _ _ _ _ _
      refine z_if_eqT gi_251_47 zr_0 (by decide) ?_
      refine z_pushJ gp_251_54 ?_
      refine z_iret gi_251_56 gr_251 ?_
      show zW _ _ _ _ _ _ _ _ _ _
      refine z_istore (ls1 := [some (.ref 50), some (zi 0), some (zi i), some (zl v), none, some (zi (-13)), none]) gi_252_6 rfl ?_
      refine z_iload5 gi_252_8 ?_
      refine z_if_geF gi_252_10 zrn_13 (by decide) ?_
      refine z_iload5 gi_252_13 ?_
      refine z_iret gi_252_15 gr_252 ?_
      refine ⟨?_, ?_⟩
      · first | rfl | exact congrArg (fun v => some (zi v)) (by omega) | (exfalso; omega)
      · exact hr
    · refine z_pushJ gp_70_33 ?_
      refine z_goto gi_70_34 ?_
      refine z_iret gi_70_39 gr_70 ?_
      show zW _ _ _ _ _ _ _ _ _ _
      refine z_istore (ls1 := [some (.ref 0), some (zi 0), some (zi i), some (zl v), none, some (zi 0)]) gi_138_19 rfl ?_
      refine z_iload5 gi_138_21 ?_
      refine z_if_geT gi_138_23 zr_0 (by decide) ?_
      refine z_aload0 gi_138_29 ?_
      refine z_getR (r := 37) gi_138_30 gk_0 (hR _ rm_0_11) ?_
      refine z_iload1 gi_138_33 ?_
      refine z_aald (r := 38) gi_138_34 rfl (by decide) (by decide) (hR _ rm_37_0) ?_
      refine z_iload2 gi_138_35 ?_
      refine z_lload3 gi_138_36 ?_
      refine z_callVi (As := [_, _]) (le := [some _, some _, some _, none]) gi_138_37 rfl gk_38 (Nat.le_of_ble_eq_true rfl) (Nat.le_of_ble_eq_true rfl) rfl ?_
      refine z_iload1 gi_73_0 ?_
      refine z_if_ltF gi_73_1 (by omega) (by omega) ?_
      refine z_iload1 gi_73_4 ?_
      refine z_aload0 gi_73_5 ?_
      refine z_getI (v := J 38 3) gi_73_6 gk_38 (rfl) ?_
      refine z_icmp_geF gi_73_9 (by omega) (by omega) (by omega) ?_
      refine z_aload0 gi_73_12 ?_
      refine z_getR (r := 39) gi_73_13 gk_38 (hR _ rm_38_4) ?_
      refine z_iload1 gi_73_16 ?_
      refine z_aload0 gi_73_17 ?_
      refine z_lload2 gi_73_18 ?_
      refine z_callVi (As := [_]) (le := [some _, some _, none]) gi_73_19 rfl gk_38 (Nat.le_of_ble_eq_true rfl) (Nat.le_of_ble_eq_true rfl) rfl ?_
      refine z_aload0 gi_74_0 ?_
      refine z_getI (v := 1) gi_74_1 gk_38 (hso) ?_
      refine z_swI (tg := 45) gi_74_4 (by decide) (T := [((0 : Int), 40), ((1 : Int), 45), ((2 : Int), 50), ((3 : Int), 66), ((4 : Int), 54)]) rfl (by decide) ?_
      refine z_lload1 gi_74_45 ?_
      refine z_l2i gi_74_46 ?_
      refine z_i2s (e := zh v) gi_74_47 rfl ?_
      have q3 := zh_r v
      refine z_i2l gi_74_48 (by omega) ?_
      refine z_lret gi_74_49 gr_74 ?_
      show zW _ _ _ _ _ _ _ _ _ _
      refine z_last (e := zh v) gi_73_22 gk_39 (by decide) (by omega) rfl ?_
      refine z_vret gi_73_23 gr_73 ?_
      show zW _ _ _ _ _ _ _ _ _ _
      refine z_pushJ gp_138_40 ?_
      refine z_iret gi_138_41 gr_138 ?_
      refine ⟨_, rfl, ?_⟩
      show zW _ _ _ _ [some (.ref 50), some (zi 0), some (zi i), some (zl v), none, none, none] _ _ _ _ _
      refine z_aload0 gi_252_0 ?_
      refine z_iload1 gi_252_1 ?_
      refine z_iload2 gi_252_2 ?_
      refine z_cV2 gi_252_3 gk_50 go_251 (Nat.le_of_ble_eq_true rfl) gc_251_RII ?_
      refine z_iload1 gi_251_0 ?_
      refine z_cS1 gi_251_1 (Nat.le_of_ble_eq_true rfl) gc_248_I ?_
      refine z_iload0 gi_248_0 ?_
      refine z_pushJ gp_248_1 ?_
      refine z_pushJ gp_248_2 ?_
      refine z_cS3 gi_248_3 (Nat.le_of_ble_eq_true rfl) gc_148_III ?_
      refine z_iload0 gi_148_0 ?_
      refine z_iload1 gi_148_1 ?_
      refine z_icmp_ltF gi_148_2 zr_0 zr_0 (by decide) ?_
      refine z_iload0 gi_148_5 ?_
      refine z_iload2 gi_148_6 ?_
      refine z_icmp_gtF gi_148_7 zr_0 zr_5 (by decide) ?_
      refine z_pushJ gp_148_10 ?_
      refine z_goto gi_148_11 ?_
      refine z_bret1 gi_148_15 gr_148 ?_
      show zW _ _ _ _ _ _ _ _ _ _
      refine z_bret1 gi_248_6 gr_248 ?_
      show zW _ _ _ _ _ _ _ _ _ _
      refine z_if_neT gi_251_4 zr_1 (by decide) ?_
      refine z_aload0 gi_251_9 ?_
      refine z_getR (r := 83) gi_251_10 gk_50 (hRr _ rm_50_58 (by decide)) ?_
      refine z_iload1 gi_251_13 ?_
      refine z_iald (v := (-3)) gi_251_14 gk_83 (by decide) (by decide) ((e83.trans (by rw [hso]; rfl))) ?_
      refine z_pushJ gp_251_15 ?_
      refine z_icmp_neT gi_251_16 zrn_3 zrn_1 (by decide) ?_
      refine z_aload0 gi_251_22 ?_
      refine z_getR (r := 83) gi_251_23 gk_50 (hRr _ rm_50_58 (by decide)) ?_
      refine z_iload1 gi_251_26 ?_
      refine z_iald (v := (-3)) gi_251_27 gk_83 (by decide) (by decide) ((e83.trans (by rw [hso]; rfl))) ?_
      refine z_if_ltT gi_251_28 zrn_3 (by decide) ?_
      refine z_iload2 gi_251_34 ?_
      refine z_pushJ gp_251_35 ?_
      refine z_aload0 gi_251_36 ?_
      refine z_getR (r := 84) gi_251_37 gk_50 (hRr _ rm_50_59 (by decide)) ?_
      refine z_iload1 gi_251_40 ?_
      refine z_iald (v := J 38 3) gi_251_41 gk_84 (by decide) (by decide) (s7) ?_
      refine z_pushJ gp_251_42 ?_
      refine z_isub (e := (J 38 3) - 1) gi_251_43 rfl ?_
      refine z_cS3 gi_251_44 (Nat.le_of_ble_eq_true rfl) gc_148_III ?_
      refine z_iload0 gi_148_0 ?_
      refine z_iload1 gi_148_1 ?_
      refine z_icmp_ltF gi_148_2 (by omega) zr_0 (by omega) ?_
      refine z_iload0 gi_148_5 ?_
      refine z_iload2 gi_148_6 ?_
      refine z_icmp_gtF gi_148_7 (by omega) (by omega) (by omega) ?_
      refine z_pushJ gp_148_10 ?_
      refine z_goto gi_148_11 ?_
      refine z_bret1 gi_148_15 gr_148 ?_
      show zW _ _ _ _ _ _ _ _ _ _
      refine z_if_eqF gi_251_47 zr_1 (by decide) ?_
      refine z_pushJ gp_251_50 ?_
      refine z_goto gi_251_51 ?_
      refine z_iret gi_251_56 gr_251 ?_
      show zW _ _ _ _ _ _ _ _ _ _
      refine z_istore (ls1 := [some (.ref 50), some (zi 0), some (zi i), some (zl v), none, some (zi 0), none]) gi_252_6 rfl ?_
      refine z_iload5 gi_252_8 ?_
      refine z_if_geT gi_252_10 zr_0 (by decide) ?_
      refine z_pushJ gp_252_16 ?_
      refine z_aload0 gi_252_18 ?_
      refine z_getR (r := 83) gi_252_19 gk_50 (hRr _ rm_50_58 (by decide)) ?_
      refine z_iload1 gi_252_22 ?_
      refine z_iald (v := (-3)) gi_252_23 gk_83 (by decide) (by decide) ((e83.trans (by rw [hso]; rfl))) ?_
      refine z_isub (e := 1) gi_252_24 rfl ?_
      refine z_istore (ls1 := [some (.ref 50), some (zi 0), some (zi i), some (zl v), none, some (zi 0), some (zi 1)]) gi_252_25 rfl ?_
      refine z_aload0 gi_252_27 ?_
      refine z_getR (r := 85) gi_252_28 gk_50 (hRr _ rm_50_60 (by decide)) ?_
      refine z_pushJ gp_252_31 ?_
      refine z_iload1 gi_252_33 ?_
      refine z_imul (e := 0) gi_252_34 rfl ?_
      refine z_iload2 gi_252_35 ?_
      refine z_iadd (e := 0 + i) gi_252_36 rfl ?_
      refine z_iload6 gi_252_37 ?_
      refine z_if_neT gi_252_39 zr_1 (by decide) ?_
      refine z_iload6 gi_252_49 ?_
      refine z_pushJ gp_252_51 ?_
      refine z_icmp_neF gi_252_52 zr_1 zr_1 (by decide) ?_
      refine z_lload3 gi_252_55 ?_
      refine z_l2i gi_252_56 ?_
      refine z_i2s (e := zh v) gi_252_57 rfl ?_
      have q4 := zh_r v
      refine z_i2l gi_252_58 (by omega) ?_
      refine z_goto gi_252_59 ?_
      refine z_last (e := zh v) gi_252_95 gk_85 (by decide) (by omega) rfl ?_
      refine z_pushJ gp_252_96 ?_
      refine z_iret gi_252_97 gr_252 ?_
      refine ⟨?_, ?_⟩
      · first | rfl | exact congrArg (fun v => some (zi v)) (by omega) | (exfalso; omega)
      · have hk := (zK_r (k := (kL [] [])) (A := J))
        have hkm := (zK_x (a := 85) (x := 0 + i) (v := zh v) (zK_x (a := 39) (x := i) (v := zh v) (zK_r (k := (kL [39, 85] [])) (A := M)) rfl) rfl)
        exact ⟨hR, hG, RelY_k hk (by repeat' constructor) (fun p => by repeat' constructor) hY, RelD_k hk (by repeat' constructor) (fun p => by repeat' constructor) hD, RelP_k hk (by repeat' constructor) (fun p => by repeat' constructor) hP, RelC_k hk (by repeat' constructor) (fun p => by repeat' constructor) hC, RelA_k hk (by repeat' constructor) (fun p => by repeat' constructor) hAc, (RelS_one (J := J) (M := M) (c := 0) (fun t t1 t2 te => by have q : t = 0 ∨ t = 1 ∨ t = 2 ∨ t = 3 ∨ t = 4 ∨ t = 5 := (by omega); rcases q with rfl | rfl | rfl | rfl | rfl | rfl <;> first | exact absurd rfl te | exact ⟨fun j => rfl, rfl, rfl⟩) (fun t t1 t2 te => by have q : t = 0 ∨ t = 1 ∨ t = 2 ∨ t = 3 ∨ t = 4 ∨ t = 5 := (by omega); rcases q with rfl | rfl | rfl | rfl | rfl | rfl <;> first | exact absurd rfl te | exact ⟨fun j => rfl, fun j j1 j2 => (zU_x (by omega)).trans (zU_n (by decide))⟩) rfl (show RelS1 _ _ _ from ⟨(hS 0 (by decide) (by decide)).1, (hS 0 (by decide) (by decide)).2.1, s3, s4, (hS 0 (by decide) (by decide)).2.2.2.2.1, fun _ => ⟨s7.symm, fun k k1 k2 => by show (if k = i then zh v else M 39 k) = (if 0 + k = 0 + i then zh v else M 85 (0 + k)); by_cases e : k = i; rw [if_pos e, if_pos (by omega)]; rw [if_neg e, if_neg (by omega)]; exact s8 k k1 k2, (fun hq => absurd (Eq.trans (Eq.symm hq) hso) (by decide))⟩⟩) hS), RelT_k hk (by repeat' constructor) (fun p => by repeat' constructor) hTp, RelX_k hk (by repeat' constructor) (fun p => by repeat' constructor) hX, RelW_k hk ⟨rfl, rfl⟩ trivial hW⟩
theorem st_put_022 {X : Nat × (Nat → Int32)} {d : Nat} {J M : zA} {R : zR} {i v : Int} (hr : Rel X J M R) (hi : -2147483648 ≤ i ∧ i < 2147483648) (hv : -9223372036854775808 ≤ v ∧ v < 9223372036854775808) (hh : J 38 0 = 2) (hso : J 38 2 = 2) : zW X (d + 20) 138 0 (gEn 138 [(.ref 0), (zi 0), (zi i), (zl v)]) [] J M R (stP X (d + 20) 252 [(zi 0), (zi i), (zl v)]) := by
  have hr0 := hr
  obtain ⟨hR, hG, hY, hD, hP, hC, hAc, hS, hTp, hX, hW⟩ := hr0
  have hRr : zRoR R := zRoR_of hR
  have e83 : J 83 0 = -2 - J 38 2 := (hS 0 (by decide) (by decide)).1.symm.trans (cH_2 hh)
  have s3 : 0 ≤ J 38 2 ∧ J 38 2 ≤ 4 := (hS 0 (by decide) (by decide)).2.2.1
  have s4 : 0 ≤ J 38 3 ∧ J 38 3 ≤ 60 := (hS 0 (by decide) (by decide)).2.2.2.1
  have s6 := (hS 0 (by decide) (by decide)).2.2.2.2.2 hh
  have s7 : J 84 0 = J 38 3 := s6.1.symm
  have s8 : ∀ i, 0 ≤ i → i < J 38 3 → M 39 i = M 85 (0 + i) := s6.2.1
  show zW _ _ _ _ [some (.ref 0), some (zi 0), some (zi i), some (zl v), none, none] _ _ _ _ _
  refine z_iload1 gi_138_0 ?_
  refine z_cS1 gi_138_1 (Nat.le_of_ble_eq_true rfl) gc_143_I ?_
  refine z_iload0 gi_143_0 ?_
  refine z_if_ltF gi_143_1 zr_0 (by decide) ?_
  refine z_iload0 gi_143_4 ?_
  refine z_pushJ gp_143_5 ?_
  refine z_icmp_geF gi_143_7 zr_0 zr_6 (by decide) ?_
  refine z_pushJ gp_143_10 ?_
  refine z_goto gi_143_11 ?_
  refine z_bret1 gi_143_15 gr_143 ?_
  show zW _ _ _ _ _ _ _ _ _ _
  refine z_if_neT gi_138_4 zr_1 (by decide) ?_
  refine z_aload0 gi_138_9 ?_
  refine z_getR (r := 37) gi_138_10 gk_0 (hR _ rm_0_11) ?_
  refine z_iload1 gi_138_13 ?_
  refine z_aald (r := 38) gi_138_14 rfl (by decide) (by decide) (hR _ rm_37_0) ?_
  refine z_iload2 gi_138_15 ?_
  refine z_cV1 gi_138_16 gk_38 go_70 (Nat.le_of_ble_eq_true rfl) gc_70_RI ?_
  refine z_aload0 gi_70_0 ?_
  refine z_getI (v := 2) gi_70_1 gk_38 (hh) ?_
  refine z_if_neT gi_70_4 zr_2 (by decide) ?_
  refine z_aload0 gi_70_10 ?_
  refine z_getI (v := 2) gi_70_11 gk_38 (hh) ?_
  refine z_pushJ gp_70_14 ?_
  refine z_icmp_eqT gi_70_15 zr_2 zr_2 (by decide) ?_
  refine z_iload1 gi_70_21 ?_
  refine z_if_lt gi_70_22 (by omega) (fun h1 => ?_) (fun h1 => ?_)
  · refine z_pushJ gp_70_37 ?_
    refine z_iret gi_70_39 gr_70 ?_
    show zW _ _ _ _ _ _ _ _ _ _
    refine z_istore (ls1 := [some (.ref 0), some (zi 0), some (zi i), some (zl v), none, some (zi (-13))]) gi_138_19 rfl ?_
    refine z_iload5 gi_138_21 ?_
    refine z_if_geF gi_138_23 zrn_13 (by decide) ?_
    refine z_iload5 gi_138_26 ?_
    refine z_iret gi_138_28 gr_138 ?_
    refine ⟨_, rfl, ?_⟩
    show zW _ _ _ _ [some (.ref 50), some (zi 0), some (zi i), some (zl v), none, none, none] _ _ _ _ _
    refine z_aload0 gi_252_0 ?_
    refine z_iload1 gi_252_1 ?_
    refine z_iload2 gi_252_2 ?_
    refine z_cV2 gi_252_3 gk_50 go_251 (Nat.le_of_ble_eq_true rfl) gc_251_RII ?_
    refine z_iload1 gi_251_0 ?_
    refine z_cS1 gi_251_1 (Nat.le_of_ble_eq_true rfl) gc_248_I ?_
    refine z_iload0 gi_248_0 ?_
    refine z_pushJ gp_248_1 ?_
    refine z_pushJ gp_248_2 ?_
    refine z_cS3 gi_248_3 (Nat.le_of_ble_eq_true rfl) gc_148_III ?_
    refine z_iload0 gi_148_0 ?_
    refine z_iload1 gi_148_1 ?_
    refine z_icmp_ltF gi_148_2 zr_0 zr_0 (by decide) ?_
    refine z_iload0 gi_148_5 ?_
    refine z_iload2 gi_148_6 ?_
    refine z_icmp_gtF gi_148_7 zr_0 zr_5 (by decide) ?_
    refine z_pushJ gp_148_10 ?_
    refine z_goto gi_148_11 ?_
    refine z_bret1 gi_148_15 gr_148 ?_
    show zW _ _ _ _ _ _ _ _ _ _
    refine z_bret1 gi_248_6 gr_248 ?_
    show zW _ _ _ _ _ _ _ _ _ _
    refine z_if_neT gi_251_4 zr_1 (by decide) ?_
    refine z_aload0 gi_251_9 ?_
    refine z_getR (r := 83) gi_251_10 gk_50 (hRr _ rm_50_58 (by decide)) ?_
    refine z_iload1 gi_251_13 ?_
    refine z_iald (v := (-4)) gi_251_14 gk_83 (by decide) (by decide) ((e83.trans (by rw [hso]; rfl))) ?_
    refine z_pushJ gp_251_15 ?_
    refine z_icmp_neT gi_251_16 zrn_4 zrn_1 (by decide) ?_
    refine z_aload0 gi_251_22 ?_
    refine z_getR (r := 83) gi_251_23 gk_50 (hRr _ rm_50_58 (by decide)) ?_
    refine z_iload1 gi_251_26 ?_
    refine z_iald (v := (-4)) gi_251_27 gk_83 (by decide) (by decide) ((e83.trans (by rw [hso]; rfl))) ?_
    refine z_if_ltT gi_251_28 zrn_4 (by decide) ?_
    refine z_iload2 gi_251_34 ?_
    refine z_pushJ gp_251_35 ?_
    refine z_aload0 gi_251_36 ?_
    refine z_getR (r := 84) gi_251_37 gk_50 (hRr _ rm_50_59 (by decide)) ?_
    refine z_iload1 gi_251_40 ?_
    refine z_iald (v := J 38 3) gi_251_41 gk_84 (by decide) (by decide) (s7) ?_
    refine z_pushJ gp_251_42 ?_
    refine z_isub (e := (J 38 3) - 1) gi_251_43 rfl ?_
    refine z_cS3 gi_251_44 (Nat.le_of_ble_eq_true rfl) gc_148_III ?_
    refine z_iload0 gi_148_0 ?_
    refine z_iload1 gi_148_1 ?_
    refine z_icmp_ltT gi_148_2 (by omega) zr_0 (by omega) ?_
    refine z_pushJ gp_148_14 ?_
    refine z_bret0 gi_148_15 gr_148 ?_
    show zW _ _ _ _ _ _ _ _ _ _
    refine z_if_eqT gi_251_47 zr_0 (by decide) ?_
    refine z_pushJ gp_251_54 ?_
    refine z_iret gi_251_56 gr_251 ?_
    show zW _ _ _ _ _ _ _ _ _ _
    refine z_istore (ls1 := [some (.ref 50), some (zi 0), some (zi i), some (zl v), none, some (zi (-13)), none]) gi_252_6 rfl ?_
    refine z_iload5 gi_252_8 ?_
    refine z_if_geF gi_252_10 zrn_13 (by decide) ?_
    refine z_iload5 gi_252_13 ?_
    refine z_iret gi_252_15 gr_252 ?_
    refine ⟨?_, ?_⟩
    · first | rfl | exact congrArg (fun v => some (zi v)) (by omega) | (exfalso; omega)
    · exact hr
  · refine z_iload1 gi_70_25 ?_
    refine z_aload0 gi_70_26 ?_
    refine z_getI (v := J 38 3) gi_70_27 gk_38 (rfl) ?_
    refine z_icmp_ge gi_70_30 (by omega) (by omega) (fun h2 => ?_) (fun h2 => ?_)
    · refine z_pushJ gp_70_37 ?_
      refine z_iret gi_70_39 gr_70 ?_
      show zW _ _ _ _ _ _ _ _ _ _
      refine z_istore (ls1 := [some (.ref 0), some (zi 0), some (zi i), some (zl v), none, some (zi (-13))]) gi_138_19 rfl ?_
      refine z_iload5 gi_138_21 ?_
      refine z_if_geF gi_138_23 zrn_13 (by decide) ?_
      refine z_iload5 gi_138_26 ?_
      refine z_iret gi_138_28 gr_138 ?_
      refine ⟨_, rfl, ?_⟩
      show zW _ _ _ _ [some (.ref 50), some (zi 0), some (zi i), some (zl v), none, none, none] _ _ _ _ _
      refine z_aload0 gi_252_0 ?_
      refine z_iload1 gi_252_1 ?_
      refine z_iload2 gi_252_2 ?_
      refine z_cV2 gi_252_3 gk_50 go_251 (Nat.le_of_ble_eq_true rfl) gc_251_RII ?_
      refine z_iload1 gi_251_0 ?_
      refine z_cS1 gi_251_1 (Nat.le_of_ble_eq_true rfl) gc_248_I ?_
      refine z_iload0 gi_248_0 ?_
      refine z_pushJ gp_248_1 ?_
      refine z_pushJ gp_248_2 ?_
      refine z_cS3 gi_248_3 (Nat.le_of_ble_eq_true rfl) gc_148_III ?_
      refine z_iload0 gi_148_0 ?_
      refine z_iload1 gi_148_1 ?_
      refine z_icmp_ltF gi_148_2 zr_0 zr_0 (by decide) ?_
      refine z_iload0 gi_148_5 ?_
      refine z_iload2 gi_148_6 ?_
      refine z_icmp_gtF gi_148_7 zr_0 zr_5 (by decide) ?_
      refine z_pushJ gp_148_10 ?_
      refine z_goto gi_148_11 ?_
      refine z_bret1 gi_148_15 gr_148 ?_
      show zW _ _ _ _ _ _ _ _ _ _
      refine z_bret1 gi_248_6 gr_248 ?_
      show zW _ _ _ _ _ _ _ _ _ _
      refine z_if_neT gi_251_4 zr_1 (by decide) ?_
      refine z_aload0 gi_251_9 ?_
      refine z_getR (r := 83) gi_251_10 gk_50 (hRr _ rm_50_58 (by decide)) ?_
      refine z_iload1 gi_251_13 ?_
      refine z_iald (v := (-4)) gi_251_14 gk_83 (by decide) (by decide) ((e83.trans (by rw [hso]; rfl))) ?_
      refine z_pushJ gp_251_15 ?_
      refine z_icmp_neT gi_251_16 zrn_4 zrn_1 (by decide) ?_
      refine z_aload0 gi_251_22 ?_
      refine z_getR (r := 83) gi_251_23 gk_50 (hRr _ rm_50_58 (by decide)) ?_
      refine z_iload1 gi_251_26 ?_
      refine z_iald (v := (-4)) gi_251_27 gk_83 (by decide) (by decide) ((e83.trans (by rw [hso]; rfl))) ?_
      refine z_if_ltT gi_251_28 zrn_4 (by decide) ?_
      refine z_iload2 gi_251_34 ?_
      refine z_pushJ gp_251_35 ?_
      refine z_aload0 gi_251_36 ?_
      refine z_getR (r := 84) gi_251_37 gk_50 (hRr _ rm_50_59 (by decide)) ?_
      refine z_iload1 gi_251_40 ?_
      refine z_iald (v := J 38 3) gi_251_41 gk_84 (by decide) (by decide) (s7) ?_
      refine z_pushJ gp_251_42 ?_
      refine z_isub (e := (J 38 3) - 1) gi_251_43 rfl ?_
      refine z_cS3 gi_251_44 (Nat.le_of_ble_eq_true rfl) gc_148_III ?_
      refine z_iload0 gi_148_0 ?_
      refine z_iload1 gi_148_1 ?_
      refine z_icmp_ltF gi_148_2 (by omega) zr_0 (by omega) ?_
      refine z_iload0 gi_148_5 ?_
      refine z_iload2 gi_148_6 ?_
      refine z_icmp_gtT gi_148_7 (by omega) (by omega) (by omega) ?_
      refine z_pushJ gp_148_14 ?_
      refine z_bret0 gi_148_15 gr_148 ?_
      show zW _ _ _ _ _ _ _ _ _ _
      refine z_if_eqT gi_251_47 zr_0 (by decide) ?_
      refine z_pushJ gp_251_54 ?_
      refine z_iret gi_251_56 gr_251 ?_
      show zW _ _ _ _ _ _ _ _ _ _
      refine z_istore (ls1 := [some (.ref 50), some (zi 0), some (zi i), some (zl v), none, some (zi (-13)), none]) gi_252_6 rfl ?_
      refine z_iload5 gi_252_8 ?_
      refine z_if_geF gi_252_10 zrn_13 (by decide) ?_
      refine z_iload5 gi_252_13 ?_
      refine z_iret gi_252_15 gr_252 ?_
      refine ⟨?_, ?_⟩
      · first | rfl | exact congrArg (fun v => some (zi v)) (by omega) | (exfalso; omega)
      · exact hr
    · refine z_pushJ gp_70_33 ?_
      refine z_goto gi_70_34 ?_
      refine z_iret gi_70_39 gr_70 ?_
      show zW _ _ _ _ _ _ _ _ _ _
      refine z_istore (ls1 := [some (.ref 0), some (zi 0), some (zi i), some (zl v), none, some (zi 0)]) gi_138_19 rfl ?_
      refine z_iload5 gi_138_21 ?_
      refine z_if_geT gi_138_23 zr_0 (by decide) ?_
      refine z_aload0 gi_138_29 ?_
      refine z_getR (r := 37) gi_138_30 gk_0 (hR _ rm_0_11) ?_
      refine z_iload1 gi_138_33 ?_
      refine z_aald (r := 38) gi_138_34 rfl (by decide) (by decide) (hR _ rm_37_0) ?_
      refine z_iload2 gi_138_35 ?_
      refine z_lload3 gi_138_36 ?_
      refine z_callVi (As := [_, _]) (le := [some _, some _, some _, none]) gi_138_37 rfl gk_38 (Nat.le_of_ble_eq_true rfl) (Nat.le_of_ble_eq_true rfl) rfl ?_
      refine z_iload1 gi_73_0 ?_
      refine z_if_ltF gi_73_1 (by omega) (by omega) ?_
      refine z_iload1 gi_73_4 ?_
      refine z_aload0 gi_73_5 ?_
      refine z_getI (v := J 38 3) gi_73_6 gk_38 (rfl) ?_
      refine z_icmp_geF gi_73_9 (by omega) (by omega) (by omega) ?_
      refine z_aload0 gi_73_12 ?_
      refine z_getR (r := 39) gi_73_13 gk_38 (hR _ rm_38_4) ?_
      refine z_iload1 gi_73_16 ?_
      refine z_aload0 gi_73_17 ?_
      refine z_lload2 gi_73_18 ?_
      refine z_callVi (As := [_]) (le := [some _, some _, none]) gi_73_19 rfl gk_38 (Nat.le_of_ble_eq_true rfl) (Nat.le_of_ble_eq_true rfl) rfl ?_
      refine z_aload0 gi_74_0 ?_
      refine z_getI (v := 2) gi_74_1 gk_38 (hso) ?_
      refine z_swI (tg := 50) gi_74_4 (by decide) (T := [((0 : Int), 40), ((1 : Int), 45), ((2 : Int), 50), ((3 : Int), 66), ((4 : Int), 54)]) rfl (by decide) ?_
      refine z_lload1 gi_74_50 ?_
      refine z_l2i gi_74_51 ?_
      refine z_topn (e := zn v) rfl ?_
      have q3 := zn_r v
      refine z_i2l gi_74_52 (by omega) ?_
      refine z_lret gi_74_53 gr_74 ?_
      show zW _ _ _ _ _ _ _ _ _ _
      refine z_last (e := zn v) gi_73_22 gk_39 (by decide) (by omega) rfl ?_
      refine z_vret gi_73_23 gr_73 ?_
      show zW _ _ _ _ _ _ _ _ _ _
      refine z_pushJ gp_138_40 ?_
      refine z_iret gi_138_41 gr_138 ?_
      refine ⟨_, rfl, ?_⟩
      show zW _ _ _ _ [some (.ref 50), some (zi 0), some (zi i), some (zl v), none, none, none] _ _ _ _ _
      refine z_aload0 gi_252_0 ?_
      refine z_iload1 gi_252_1 ?_
      refine z_iload2 gi_252_2 ?_
      refine z_cV2 gi_252_3 gk_50 go_251 (Nat.le_of_ble_eq_true rfl) gc_251_RII ?_
      refine z_iload1 gi_251_0 ?_
      refine z_cS1 gi_251_1 (Nat.le_of_ble_eq_true rfl) gc_248_I ?_
      refine z_iload0 gi_248_0 ?_
      refine z_pushJ gp_248_1 ?_
      refine z_pushJ gp_248_2 ?_
      refine z_cS3 gi_248_3 (Nat.le_of_ble_eq_true rfl) gc_148_III ?_
      refine z_iload0 gi_148_0 ?_
      refine z_iload1 gi_148_1 ?_
      refine z_icmp_ltF gi_148_2 zr_0 zr_0 (by decide) ?_
      refine z_iload0 gi_148_5 ?_
      refine z_iload2 gi_148_6 ?_
      refine z_icmp_gtF gi_148_7 zr_0 zr_5 (by decide) ?_
      refine z_pushJ gp_148_10 ?_
      refine z_goto gi_148_11 ?_
      refine z_bret1 gi_148_15 gr_148 ?_
      show zW _ _ _ _ _ _ _ _ _ _
      refine z_bret1 gi_248_6 gr_248 ?_
      show zW _ _ _ _ _ _ _ _ _ _
      refine z_if_neT gi_251_4 zr_1 (by decide) ?_
      refine z_aload0 gi_251_9 ?_
      refine z_getR (r := 83) gi_251_10 gk_50 (hRr _ rm_50_58 (by decide)) ?_
      refine z_iload1 gi_251_13 ?_
      refine z_iald (v := (-4)) gi_251_14 gk_83 (by decide) (by decide) ((e83.trans (by rw [hso]; rfl))) ?_
      refine z_pushJ gp_251_15 ?_
      refine z_icmp_neT gi_251_16 zrn_4 zrn_1 (by decide) ?_
      refine z_aload0 gi_251_22 ?_
      refine z_getR (r := 83) gi_251_23 gk_50 (hRr _ rm_50_58 (by decide)) ?_
      refine z_iload1 gi_251_26 ?_
      refine z_iald (v := (-4)) gi_251_27 gk_83 (by decide) (by decide) ((e83.trans (by rw [hso]; rfl))) ?_
      refine z_if_ltT gi_251_28 zrn_4 (by decide) ?_
      refine z_iload2 gi_251_34 ?_
      refine z_pushJ gp_251_35 ?_
      refine z_aload0 gi_251_36 ?_
      refine z_getR (r := 84) gi_251_37 gk_50 (hRr _ rm_50_59 (by decide)) ?_
      refine z_iload1 gi_251_40 ?_
      refine z_iald (v := J 38 3) gi_251_41 gk_84 (by decide) (by decide) (s7) ?_
      refine z_pushJ gp_251_42 ?_
      refine z_isub (e := (J 38 3) - 1) gi_251_43 rfl ?_
      refine z_cS3 gi_251_44 (Nat.le_of_ble_eq_true rfl) gc_148_III ?_
      refine z_iload0 gi_148_0 ?_
      refine z_iload1 gi_148_1 ?_
      refine z_icmp_ltF gi_148_2 (by omega) zr_0 (by omega) ?_
      refine z_iload0 gi_148_5 ?_
      refine z_iload2 gi_148_6 ?_
      refine z_icmp_gtF gi_148_7 (by omega) (by omega) (by omega) ?_
      refine z_pushJ gp_148_10 ?_
      refine z_goto gi_148_11 ?_
      refine z_bret1 gi_148_15 gr_148 ?_
      show zW _ _ _ _ _ _ _ _ _ _
      refine z_if_eqF gi_251_47 zr_1 (by decide) ?_
      refine z_pushJ gp_251_50 ?_
      refine z_goto gi_251_51 ?_
      refine z_iret gi_251_56 gr_251 ?_
      show zW _ _ _ _ _ _ _ _ _ _
      refine z_istore (ls1 := [some (.ref 50), some (zi 0), some (zi i), some (zl v), none, some (zi 0), none]) gi_252_6 rfl ?_
      refine z_iload5 gi_252_8 ?_
      refine z_if_geT gi_252_10 zr_0 (by decide) ?_
      refine z_pushJ gp_252_16 ?_
      refine z_aload0 gi_252_18 ?_
      refine z_getR (r := 83) gi_252_19 gk_50 (hRr _ rm_50_58 (by decide)) ?_
      refine z_iload1 gi_252_22 ?_
      refine z_iald (v := (-4)) gi_252_23 gk_83 (by decide) (by decide) ((e83.trans (by rw [hso]; rfl))) ?_
      refine z_isub (e := 2) gi_252_24 rfl ?_
      refine z_istore (ls1 := [some (.ref 50), some (zi 0), some (zi i), some (zl v), none, some (zi 0), some (zi 2)]) gi_252_25 rfl ?_
      refine z_aload0 gi_252_27 ?_
      refine z_getR (r := 85) gi_252_28 gk_50 (hRr _ rm_50_60 (by decide)) ?_
      refine z_pushJ gp_252_31 ?_
      refine z_iload1 gi_252_33 ?_
      refine z_imul (e := 0) gi_252_34 rfl ?_
      refine z_iload2 gi_252_35 ?_
      refine z_iadd (e := 0 + i) gi_252_36 rfl ?_
      refine z_iload6 gi_252_37 ?_
      refine z_if_neT gi_252_39 zr_2 (by decide) ?_
      refine z_iload6 gi_252_49 ?_
      refine z_pushJ gp_252_51 ?_
      refine z_icmp_neT gi_252_52 zr_2 zr_1 (by decide) ?_
      refine z_iload6 gi_252_62 ?_
      refine z_pushJ gp_252_64 ?_
      refine z_icmp_neF gi_252_65 zr_2 zr_2 (by decide) ?_
      refine z_lload3 gi_252_68 ?_
      refine z_l2i gi_252_69 ?_
      refine z_topn (e := zn v) rfl ?_
      have q4 := zn_r v
      refine z_i2l gi_252_70 (by omega) ?_
      refine z_goto gi_252_71 ?_
      refine z_last (e := zn v) gi_252_95 gk_85 (by decide) (by omega) rfl ?_
      refine z_pushJ gp_252_96 ?_
      refine z_iret gi_252_97 gr_252 ?_
      refine ⟨?_, ?_⟩
      · first | rfl | exact congrArg (fun v => some (zi v)) (by omega) | (exfalso; omega)
      · have hk := (zK_r (k := (kL [] [])) (A := J))
        have hkm := (zK_x (a := 85) (x := 0 + i) (v := zn v) (zK_x (a := 39) (x := i) (v := zn v) (zK_r (k := (kL [39, 85] [])) (A := M)) rfl) rfl)
        exact ⟨hR, hG, RelY_k hk (by repeat' constructor) (fun p => by repeat' constructor) hY, RelD_k hk (by repeat' constructor) (fun p => by repeat' constructor) hD, RelP_k hk (by repeat' constructor) (fun p => by repeat' constructor) hP, RelC_k hk (by repeat' constructor) (fun p => by repeat' constructor) hC, RelA_k hk (by repeat' constructor) (fun p => by repeat' constructor) hAc, (RelS_one (J := J) (M := M) (c := 0) (fun t t1 t2 te => by have q : t = 0 ∨ t = 1 ∨ t = 2 ∨ t = 3 ∨ t = 4 ∨ t = 5 := (by omega); rcases q with rfl | rfl | rfl | rfl | rfl | rfl <;> first | exact absurd rfl te | exact ⟨fun j => rfl, rfl, rfl⟩) (fun t t1 t2 te => by have q : t = 0 ∨ t = 1 ∨ t = 2 ∨ t = 3 ∨ t = 4 ∨ t = 5 := (by omega); rcases q with rfl | rfl | rfl | rfl | rfl | rfl <;> first | exact absurd rfl te | exact ⟨fun j => rfl, fun j j1 j2 => (zU_x (by omega)).trans (zU_n (by decide))⟩) rfl (show RelS1 _ _ _ from ⟨(hS 0 (by decide) (by decide)).1, (hS 0 (by decide) (by decide)).2.1, s3, s4, (hS 0 (by decide) (by decide)).2.2.2.2.1, fun _ => ⟨s7.symm, fun k k1 k2 => by show (if k = i then zn v else M 39 k) = (if 0 + k = 0 + i then zn v else M 85 (0 + k)); by_cases e : k = i; rw [if_pos e, if_pos (by omega)]; rw [if_neg e, if_neg (by omega)]; exact s8 k k1 k2, (fun hq => absurd (Eq.trans (Eq.symm hq) hso) (by decide))⟩⟩) hS), RelT_k hk (by repeat' constructor) (fun p => by repeat' constructor) hTp, RelX_k hk (by repeat' constructor) (fun p => by repeat' constructor) hX, RelW_k hk ⟨rfl, rfl⟩ trivial hW⟩
theorem st_put_023 {X : Nat × (Nat → Int32)} {d : Nat} {J M : zA} {R : zR} {i v : Int} (hr : Rel X J M R) (hi : -2147483648 ≤ i ∧ i < 2147483648) (hv : -9223372036854775808 ≤ v ∧ v < 9223372036854775808) (hh : J 38 0 = 2) (hso : J 38 2 = 3) : zW X (d + 20) 138 0 (gEn 138 [(.ref 0), (zi 0), (zi i), (zl v)]) [] J M R (stP X (d + 20) 252 [(zi 0), (zi i), (zl v)]) := by
  have hr0 := hr
  obtain ⟨hR, hG, hY, hD, hP, hC, hAc, hS, hTp, hX, hW⟩ := hr0
  have hRr : zRoR R := zRoR_of hR
  have e83 : J 83 0 = -2 - J 38 2 := (hS 0 (by decide) (by decide)).1.symm.trans (cH_2 hh)
  have s3 : 0 ≤ J 38 2 ∧ J 38 2 ≤ 4 := (hS 0 (by decide) (by decide)).2.2.1
  have s4 : 0 ≤ J 38 3 ∧ J 38 3 ≤ 60 := (hS 0 (by decide) (by decide)).2.2.2.1
  have s6 := (hS 0 (by decide) (by decide)).2.2.2.2.2 hh
  have s7 : J 84 0 = J 38 3 := s6.1.symm
  have s8 : ∀ i, 0 ≤ i → i < J 38 3 → M 39 i = M 85 (0 + i) := s6.2.1
  show zW _ _ _ _ [some (.ref 0), some (zi 0), some (zi i), some (zl v), none, none] _ _ _ _ _
  refine z_iload1 gi_138_0 ?_
  refine z_cS1 gi_138_1 (Nat.le_of_ble_eq_true rfl) gc_143_I ?_
  refine z_iload0 gi_143_0 ?_
  refine z_if_ltF gi_143_1 zr_0 (by decide) ?_
  refine z_iload0 gi_143_4 ?_
  refine z_pushJ gp_143_5 ?_
  refine z_icmp_geF gi_143_7 zr_0 zr_6 (by decide) ?_
  refine z_pushJ gp_143_10 ?_
  refine z_goto gi_143_11 ?_
  refine z_bret1 gi_143_15 gr_143 ?_
  show zW _ _ _ _ _ _ _ _ _ _
  refine z_if_neT gi_138_4 zr_1 (by decide) ?_
  refine z_aload0 gi_138_9 ?_
  refine z_getR (r := 37) gi_138_10 gk_0 (hR _ rm_0_11) ?_
  refine z_iload1 gi_138_13 ?_
  refine z_aald (r := 38) gi_138_14 rfl (by decide) (by decide) (hR _ rm_37_0) ?_
  refine z_iload2 gi_138_15 ?_
  refine z_cV1 gi_138_16 gk_38 go_70 (Nat.le_of_ble_eq_true rfl) gc_70_RI ?_
  refine z_aload0 gi_70_0 ?_
  refine z_getI (v := 2) gi_70_1 gk_38 (hh) ?_
  refine z_if_neT gi_70_4 zr_2 (by decide) ?_
  refine z_aload0 gi_70_10 ?_
  refine z_getI (v := 2) gi_70_11 gk_38 (hh) ?_
  refine z_pushJ gp_70_14 ?_
  refine z_icmp_eqT gi_70_15 zr_2 zr_2 (by decide) ?_
  refine z_iload1 gi_70_21 ?_
  refine z_if_lt gi_70_22 (by omega) (fun h1 => ?_) (fun h1 => ?_)
  · refine z_pushJ gp_70_37 ?_
    refine z_iret gi_70_39 gr_70 ?_
    show zW _ _ _ _ _ _ _ _ _ _
    refine z_istore (ls1 := [some (.ref 0), some (zi 0), some (zi i), some (zl v), none, some (zi (-13))]) gi_138_19 rfl ?_
    refine z_iload5 gi_138_21 ?_
    refine z_if_geF gi_138_23 zrn_13 (by decide) ?_
    refine z_iload5 gi_138_26 ?_
    refine z_iret gi_138_28 gr_138 ?_
    refine ⟨_, rfl, ?_⟩
    show zW _ _ _ _ [some (.ref 50), some (zi 0), some (zi i), some (zl v), none, none, none] _ _ _ _ _
    refine z_aload0 gi_252_0 ?_
    refine z_iload1 gi_252_1 ?_
    refine z_iload2 gi_252_2 ?_
    refine z_cV2 gi_252_3 gk_50 go_251 (Nat.le_of_ble_eq_true rfl) gc_251_RII ?_
    refine z_iload1 gi_251_0 ?_
    refine z_cS1 gi_251_1 (Nat.le_of_ble_eq_true rfl) gc_248_I ?_
    refine z_iload0 gi_248_0 ?_
    refine z_pushJ gp_248_1 ?_
    refine z_pushJ gp_248_2 ?_
    refine z_cS3 gi_248_3 (Nat.le_of_ble_eq_true rfl) gc_148_III ?_
    refine z_iload0 gi_148_0 ?_
    refine z_iload1 gi_148_1 ?_
    refine z_icmp_ltF gi_148_2 zr_0 zr_0 (by decide) ?_
    refine z_iload0 gi_148_5 ?_
    refine z_iload2 gi_148_6 ?_
    refine z_icmp_gtF gi_148_7 zr_0 zr_5 (by decide) ?_
    refine z_pushJ gp_148_10 ?_
    refine z_goto gi_148_11 ?_
    refine z_bret1 gi_148_15 gr_148 ?_
    show zW _ _ _ _ _ _ _ _ _ _
    refine z_bret1 gi_248_6 gr_248 ?_
    show zW _ _ _ _ _ _ _ _ _ _
    refine z_if_neT gi_251_4 zr_1 (by decide) ?_
    refine z_aload0 gi_251_9 ?_
    refine z_getR (r := 83) gi_251_10 gk_50 (hRr _ rm_50_58 (by decide)) ?_
    refine z_iload1 gi_251_13 ?_
    refine z_iald (v := (-5)) gi_251_14 gk_83 (by decide) (by decide) ((e83.trans (by rw [hso]; rfl))) ?_
    refine z_pushJ gp_251_15 ?_
    refine z_icmp_neT gi_251_16 zrn_5 zrn_1 (by decide) ?_
    refine z_aload0 gi_251_22 ?_
    refine z_getR (r := 83) gi_251_23 gk_50 (hRr _ rm_50_58 (by decide)) ?_
    refine z_iload1 gi_251_26 ?_
    refine z_iald (v := (-5)) gi_251_27 gk_83 (by decide) (by decide) ((e83.trans (by rw [hso]; rfl))) ?_
    refine z_if_ltT gi_251_28 zrn_5 (by decide) ?_
    refine z_iload2 gi_251_34 ?_
    refine z_pushJ gp_251_35 ?_
    refine z_aload0 gi_251_36 ?_
    refine z_getR (r := 84) gi_251_37 gk_50 (hRr _ rm_50_59 (by decide)) ?_
    refine z_iload1 gi_251_40 ?_
    refine z_iald (v := J 38 3) gi_251_41 gk_84 (by decide) (by decide) (s7) ?_
    refine z_pushJ gp_251_42 ?_
    refine z_isub (e := (J 38 3) - 1) gi_251_43 rfl ?_
    refine z_cS3 gi_251_44 (Nat.le_of_ble_eq_true rfl) gc_148_III ?_
    refine z_iload0 gi_148_0 ?_
    refine z_iload1 gi_148_1 ?_
    refine z_icmp_ltT gi_148_2 (by omega) zr_0 (by omega) ?_
    refine z_pushJ gp_148_14 ?_
    refine z_bret0 gi_148_15 gr_148 ?_
    show zW _ _ _ _ _ _ _ _ _ _
    refine z_if_eqT gi_251_47 zr_0 (by decide) ?_
    refine z_pushJ gp_251_54 ?_
    refine z_iret gi_251_56 gr_251 ?_
    show zW _ _ _ _ _ _ _ _ _ _
    refine z_istore (ls1 := [some (.ref 50), some (zi 0), some (zi i), some (zl v), none, some (zi (-13)), none]) gi_252_6 rfl ?_
    refine z_iload5 gi_252_8 ?_
    refine z_if_geF gi_252_10 zrn_13 (by decide) ?_
    refine z_iload5 gi_252_13 ?_
    refine z_iret gi_252_15 gr_252 ?_
    refine ⟨?_, ?_⟩
    · first | rfl | exact congrArg (fun v => some (zi v)) (by omega) | (exfalso; omega)
    · exact hr
  · refine z_iload1 gi_70_25 ?_
    refine z_aload0 gi_70_26 ?_
    refine z_getI (v := J 38 3) gi_70_27 gk_38 (rfl) ?_
    refine z_icmp_ge gi_70_30 (by omega) (by omega) (fun h2 => ?_) (fun h2 => ?_)
    · refine z_pushJ gp_70_37 ?_
      refine z_iret gi_70_39 gr_70 ?_
      show zW _ _ _ _ _ _ _ _ _ _
      refine z_istore (ls1 := [some (.ref 0), some (zi 0), some (zi i), some (zl v), none, some (zi (-13))]) gi_138_19 rfl ?_
      refine z_iload5 gi_138_21 ?_
      refine z_if_geF gi_138_23 zrn_13 (by decide) ?_
      refine z_iload5 gi_138_26 ?_
      refine z_iret gi_138_28 gr_138 ?_
      refine ⟨_, rfl, ?_⟩
      show zW _ _ _ _ [some (.ref 50), some (zi 0), some (zi i), some (zl v), none, none, none] _ _ _ _ _
      refine z_aload0 gi_252_0 ?_
      refine z_iload1 gi_252_1 ?_
      refine z_iload2 gi_252_2 ?_
      refine z_cV2 gi_252_3 gk_50 go_251 (Nat.le_of_ble_eq_true rfl) gc_251_RII ?_
      refine z_iload1 gi_251_0 ?_
      refine z_cS1 gi_251_1 (Nat.le_of_ble_eq_true rfl) gc_248_I ?_
      refine z_iload0 gi_248_0 ?_
      refine z_pushJ gp_248_1 ?_
      refine z_pushJ gp_248_2 ?_
      refine z_cS3 gi_248_3 (Nat.le_of_ble_eq_true rfl) gc_148_III ?_
      refine z_iload0 gi_148_0 ?_
      refine z_iload1 gi_148_1 ?_
      refine z_icmp_ltF gi_148_2 zr_0 zr_0 (by decide) ?_
      refine z_iload0 gi_148_5 ?_
      refine z_iload2 gi_148_6 ?_
      refine z_icmp_gtF gi_148_7 zr_0 zr_5 (by decide) ?_
      refine z_pushJ gp_148_10 ?_
      refine z_goto gi_148_11 ?_
      refine z_bret1 gi_148_15 gr_148 ?_
      show zW _ _ _ _ _ _ _ _ _ _
      refine z_bret1 gi_248_6 gr_248 ?_
      show zW _ _ _ _ _ _ _ _ _ _
      refine z_if_neT gi_251_4 zr_1 (by decide) ?_
      refine z_aload0 gi_251_9 ?_
      refine z_getR (r := 83) gi_251_10 gk_50 (hRr _ rm_50_58 (by decide)) ?_
      refine z_iload1 gi_251_13 ?_
      refine z_iald (v := (-5)) gi_251_14 gk_83 (by decide) (by decide) ((e83.trans (by rw [hso]; rfl))) ?_
      refine z_pushJ gp_251_15 ?_
      refine z_icmp_neT gi_251_16 zrn_5 zrn_1 (by decide) ?_
      refine z_aload0 gi_251_22 ?_
      refine z_getR (r := 83) gi_251_23 gk_50 (hRr _ rm_50_58 (by decide)) ?_
      refine z_iload1 gi_251_26 ?_
      refine z_iald (v := (-5)) gi_251_27 gk_83 (by decide) (by decide) ((e83.trans (by rw [hso]; rfl))) ?_
      refine z_if_ltT gi_251_28 zrn_5 (by decide) ?_
      refine z_iload2 gi_251_34 ?_
      refine z_pushJ gp_251_35 ?_
      refine z_aload0 gi_251_36 ?_
      refine z_getR (r := 84) gi_251_37 gk_50 (hRr _ rm_50_59 (by decide)) ?_
      refine z_iload1 gi_251_40 ?_
      refine z_iald (v := J 38 3) gi_251_41 gk_84 (by decide) (by decide) (s7) ?_
      refine z_pushJ gp_251_42 ?_
      refine z_isub (e := (J 38 3) - 1) gi_251_43 rfl ?_
      refine z_cS3 gi_251_44 (Nat.le_of_ble_eq_true rfl) gc_148_III ?_
      refine z_iload0 gi_148_0 ?_
      refine z_iload1 gi_148_1 ?_
      refine z_icmp_ltF gi_148_2 (by omega) zr_0 (by omega) ?_
      refine z_iload0 gi_148_5 ?_
      refine z_iload2 gi_148_6 ?_
      refine z_icmp_gtT gi_148_7 (by omega) (by omega) (by omega) ?_
      refine z_pushJ gp_148_14 ?_
      refine z_bret0 gi_148_15 gr_148 ?_
      show zW _ _ _ _ _ _ _ _ _ _
      refine z_if_eqT gi_251_47 zr_0 (by decide) ?_
      refine z_pushJ gp_251_54 ?_
      refine z_iret gi_251_56 gr_251 ?_
      show zW _ _ _ _ _ _ _ _ _ _
      refine z_istore (ls1 := [some (.ref 50), some (zi 0), some (zi i), some (zl v), none, some (zi (-13)), none]) gi_252_6 rfl ?_
      refine z_iload5 gi_252_8 ?_
      refine z_if_geF gi_252_10 zrn_13 (by decide) ?_
      refine z_iload5 gi_252_13 ?_
      refine z_iret gi_252_15 gr_252 ?_
      refine ⟨?_, ?_⟩
      · first | rfl | exact congrArg (fun v => some (zi v)) (by omega) | (exfalso; omega)
      · exact hr
    · refine z_pushJ gp_70_33 ?_
      refine z_goto gi_70_34 ?_
      refine z_iret gi_70_39 gr_70 ?_
      show zW _ _ _ _ _ _ _ _ _ _
      refine z_istore (ls1 := [some (.ref 0), some (zi 0), some (zi i), some (zl v), none, some (zi 0)]) gi_138_19 rfl ?_
      refine z_iload5 gi_138_21 ?_
      refine z_if_geT gi_138_23 zr_0 (by decide) ?_
      refine z_aload0 gi_138_29 ?_
      refine z_getR (r := 37) gi_138_30 gk_0 (hR _ rm_0_11) ?_
      refine z_iload1 gi_138_33 ?_
      refine z_aald (r := 38) gi_138_34 rfl (by decide) (by decide) (hR _ rm_37_0) ?_
      refine z_iload2 gi_138_35 ?_
      refine z_lload3 gi_138_36 ?_
      refine z_callVi (As := [_, _]) (le := [some _, some _, some _, none]) gi_138_37 rfl gk_38 (Nat.le_of_ble_eq_true rfl) (Nat.le_of_ble_eq_true rfl) rfl ?_
      refine z_iload1 gi_73_0 ?_
      refine z_if_ltF gi_73_1 (by omega) (by omega) ?_
      refine z_iload1 gi_73_4 ?_
      refine z_aload0 gi_73_5 ?_
      refine z_getI (v := J 38 3) gi_73_6 gk_38 (rfl) ?_
      refine z_icmp_geF gi_73_9 (by omega) (by omega) (by omega) ?_
      refine z_aload0 gi_73_12 ?_
      refine z_getR (r := 39) gi_73_13 gk_38 (hR _ rm_38_4) ?_
      refine z_iload1 gi_73_16 ?_
      refine z_aload0 gi_73_17 ?_
      refine z_lload2 gi_73_18 ?_
      refine z_callVi (As := [_]) (le := [some _, some _, none]) gi_73_19 rfl gk_38 (Nat.le_of_ble_eq_true rfl) (Nat.le_of_ble_eq_true rfl) rfl ?_
      refine z_aload0 gi_74_0 ?_
      refine z_getI (v := 3) gi_74_1 gk_38 (hso) ?_
      refine z_swI (tg := 66) gi_74_4 (by decide) (T := [((0 : Int), 40), ((1 : Int), 45), ((2 : Int), 50), ((3 : Int), 66), ((4 : Int), 54)]) rfl (by decide) ?_
      refine z_lload1 gi_74_66 ?_
      refine z_lret gi_74_67 gr_74 ?_
      show zW _ _ _ _ _ _ _ _ _ _
      refine z_last (e := v) gi_73_22 gk_39 (by decide) (by omega) rfl ?_
      refine z_vret gi_73_23 gr_73 ?_
      show zW _ _ _ _ _ _ _ _ _ _
      refine z_pushJ gp_138_40 ?_
      refine z_iret gi_138_41 gr_138 ?_
      refine ⟨_, rfl, ?_⟩
      show zW _ _ _ _ [some (.ref 50), some (zi 0), some (zi i), some (zl v), none, none, none] _ _ _ _ _
      refine z_aload0 gi_252_0 ?_
      refine z_iload1 gi_252_1 ?_
      refine z_iload2 gi_252_2 ?_
      refine z_cV2 gi_252_3 gk_50 go_251 (Nat.le_of_ble_eq_true rfl) gc_251_RII ?_
      refine z_iload1 gi_251_0 ?_
      refine z_cS1 gi_251_1 (Nat.le_of_ble_eq_true rfl) gc_248_I ?_
      refine z_iload0 gi_248_0 ?_
      refine z_pushJ gp_248_1 ?_
      refine z_pushJ gp_248_2 ?_
      refine z_cS3 gi_248_3 (Nat.le_of_ble_eq_true rfl) gc_148_III ?_
      refine z_iload0 gi_148_0 ?_
      refine z_iload1 gi_148_1 ?_
      refine z_icmp_ltF gi_148_2 zr_0 zr_0 (by decide) ?_
      refine z_iload0 gi_148_5 ?_
      refine z_iload2 gi_148_6 ?_
      refine z_icmp_gtF gi_148_7 zr_0 zr_5 (by decide) ?_
      refine z_pushJ gp_148_10 ?_
      refine z_goto gi_148_11 ?_
      refine z_bret1 gi_148_15 gr_148 ?_
      show zW _ _ _ _ _ _ _ _ _ _
      refine z_bret1 gi_248_6 gr_248 ?_
      show zW _ _ _ _ _ _ _ _ _ _
      refine z_if_neT gi_251_4 zr_1 (by decide) ?_
      refine z_aload0 gi_251_9 ?_
      refine z_getR (r := 83) gi_251_10 gk_50 (hRr _ rm_50_58 (by decide)) ?_
      refine z_iload1 gi_251_13 ?_
      refine z_iald (v := (-5)) gi_251_14 gk_83 (by decide) (by decide) ((e83.trans (by rw [hso]; rfl))) ?_
      refine z_pushJ gp_251_15 ?_
      refine z_icmp_neT gi_251_16 zrn_5 zrn_1 (by decide) ?_
      refine z_aload0 gi_251_22 ?_
      refine z_getR (r := 83) gi_251_23 gk_50 (hRr _ rm_50_58 (by decide)) ?_
      refine z_iload1 gi_251_26 ?_
      refine z_iald (v := (-5)) gi_251_27 gk_83 (by decide) (by decide) ((e83.trans (by rw [hso]; rfl))) ?_
      refine z_if_ltT gi_251_28 zrn_5 (by decide) ?_
      refine z_iload2 gi_251_34 ?_
      refine z_pushJ gp_251_35 ?_
      refine z_aload0 gi_251_36 ?_
      refine z_getR (r := 84) gi_251_37 gk_50 (hRr _ rm_50_59 (by decide)) ?_
      refine z_iload1 gi_251_40 ?_
      refine z_iald (v := J 38 3) gi_251_41 gk_84 (by decide) (by decide) (s7) ?_
      refine z_pushJ gp_251_42 ?_
      refine z_isub (e := (J 38 3) - 1) gi_251_43 rfl ?_
      refine z_cS3 gi_251_44 (Nat.le_of_ble_eq_true rfl) gc_148_III ?_
      refine z_iload0 gi_148_0 ?_
      refine z_iload1 gi_148_1 ?_
      refine z_icmp_ltF gi_148_2 (by omega) zr_0 (by omega) ?_
      refine z_iload0 gi_148_5 ?_
      refine z_iload2 gi_148_6 ?_
      refine z_icmp_gtF gi_148_7 (by omega) (by omega) (by omega) ?_
      refine z_pushJ gp_148_10 ?_
      refine z_goto gi_148_11 ?_
      refine z_bret1 gi_148_15 gr_148 ?_
      show zW _ _ _ _ _ _ _ _ _ _
      refine z_if_eqF gi_251_47 zr_1 (by decide) ?_
      refine z_pushJ gp_251_50 ?_
      refine z_goto gi_251_51 ?_
      refine z_iret gi_251_56 gr_251 ?_
      show zW _ _ _ _ _ _ _ _ _ _
      refine z_istore (ls1 := [some (.ref 50), some (zi 0), some (zi i), some (zl v), none, some (zi 0), none]) gi_252_6 rfl ?_
      refine z_iload5 gi_252_8 ?_
      refine z_if_geT gi_252_10 zr_0 (by decide) ?_
      refine z_pushJ gp_252_16 ?_
      refine z_aload0 gi_252_18 ?_
      refine z_getR (r := 83) gi_252_19 gk_50 (hRr _ rm_50_58 (by decide)) ?_
      refine z_iload1 gi_252_22 ?_
      refine z_iald (v := (-5)) gi_252_23 gk_83 (by decide) (by decide) ((e83.trans (by rw [hso]; rfl))) ?_
      refine z_isub (e := 3) gi_252_24 rfl ?_
      refine z_istore (ls1 := [some (.ref 50), some (zi 0), some (zi i), some (zl v), none, some (zi 0), some (zi 3)]) gi_252_25 rfl ?_
      refine z_aload0 gi_252_27 ?_
      refine z_getR (r := 85) gi_252_28 gk_50 (hRr _ rm_50_60 (by decide)) ?_
      refine z_pushJ gp_252_31 ?_
      refine z_iload1 gi_252_33 ?_
      refine z_imul (e := 0) gi_252_34 rfl ?_
      refine z_iload2 gi_252_35 ?_
      refine z_iadd (e := 0 + i) gi_252_36 rfl ?_
      refine z_iload6 gi_252_37 ?_
      refine z_if_neT gi_252_39 zr_3 (by decide) ?_
      refine z_iload6 gi_252_49 ?_
      refine z_pushJ gp_252_51 ?_
      refine z_icmp_neT gi_252_52 zr_3 zr_1 (by decide) ?_
      refine z_iload6 gi_252_62 ?_
      refine z_pushJ gp_252_64 ?_
      refine z_icmp_neT gi_252_65 zr_3 zr_2 (by decide) ?_
      refine z_iload6 gi_252_74 ?_
      refine z_pushJ gp_252_76 ?_
      refine z_icmp_neF gi_252_77 zr_3 zr_3 (by decide) ?_
      refine z_lload3 gi_252_80 ?_
      refine z_goto gi_252_81 ?_
      refine z_last (e := v) gi_252_95 gk_85 (by decide) (by omega) rfl ?_
      refine z_pushJ gp_252_96 ?_
      refine z_iret gi_252_97 gr_252 ?_
      refine ⟨?_, ?_⟩
      · first | rfl | exact congrArg (fun v => some (zi v)) (by omega) | (exfalso; omega)
      · have hk := (zK_r (k := (kL [] [])) (A := J))
        have hkm := (zK_x (a := 85) (x := 0 + i) (v := v) (zK_x (a := 39) (x := i) (v := v) (zK_r (k := (kL [39, 85] [])) (A := M)) rfl) rfl)
        exact ⟨hR, hG, RelY_k hk (by repeat' constructor) (fun p => by repeat' constructor) hY, RelD_k hk (by repeat' constructor) (fun p => by repeat' constructor) hD, RelP_k hk (by repeat' constructor) (fun p => by repeat' constructor) hP, RelC_k hk (by repeat' constructor) (fun p => by repeat' constructor) hC, RelA_k hk (by repeat' constructor) (fun p => by repeat' constructor) hAc, (RelS_one (J := J) (M := M) (c := 0) (fun t t1 t2 te => by have q : t = 0 ∨ t = 1 ∨ t = 2 ∨ t = 3 ∨ t = 4 ∨ t = 5 := (by omega); rcases q with rfl | rfl | rfl | rfl | rfl | rfl <;> first | exact absurd rfl te | exact ⟨fun j => rfl, rfl, rfl⟩) (fun t t1 t2 te => by have q : t = 0 ∨ t = 1 ∨ t = 2 ∨ t = 3 ∨ t = 4 ∨ t = 5 := (by omega); rcases q with rfl | rfl | rfl | rfl | rfl | rfl <;> first | exact absurd rfl te | exact ⟨fun j => rfl, fun j j1 j2 => (zU_x (by omega)).trans (zU_n (by decide))⟩) rfl (show RelS1 _ _ _ from ⟨(hS 0 (by decide) (by decide)).1, (hS 0 (by decide) (by decide)).2.1, s3, s4, (hS 0 (by decide) (by decide)).2.2.2.2.1, fun _ => ⟨s7.symm, fun k k1 k2 => by show (if k = i then v else M 39 k) = (if 0 + k = 0 + i then v else M 85 (0 + k)); by_cases e : k = i; rw [if_pos e, if_pos (by omega)]; rw [if_neg e, if_neg (by omega)]; exact s8 k k1 k2, (fun hq => absurd (Eq.trans (Eq.symm hq) hso) (by decide))⟩⟩) hS), RelT_k hk (by repeat' constructor) (fun p => by repeat' constructor) hTp, RelX_k hk (by repeat' constructor) (fun p => by repeat' constructor) hX, RelW_k hk ⟨rfl, rfl⟩ trivial hW⟩
theorem st_put_024 {X : Nat × (Nat → Int32)} {d : Nat} {J M : zA} {R : zR} {i v : Int} (hr : Rel X J M R) (hi : -2147483648 ≤ i ∧ i < 2147483648) (hv : -9223372036854775808 ≤ v ∧ v < 9223372036854775808) (hh : J 38 0 = 2) (hso : J 38 2 = 4) : zW X (d + 20) 138 0 (gEn 138 [(.ref 0), (zi 0), (zi i), (zl v)]) [] J M R (stP X (d + 20) 252 [(zi 0), (zi i), (zl v)]) := by
  have hr0 := hr
  obtain ⟨hR, hG, hY, hD, hP, hC, hAc, hS, hTp, hX, hW⟩ := hr0
  have hRr : zRoR R := zRoR_of hR
  have e83 : J 83 0 = -2 - J 38 2 := (hS 0 (by decide) (by decide)).1.symm.trans (cH_2 hh)
  have s3 : 0 ≤ J 38 2 ∧ J 38 2 ≤ 4 := (hS 0 (by decide) (by decide)).2.2.1
  have s4 : 0 ≤ J 38 3 ∧ J 38 3 ≤ 60 := (hS 0 (by decide) (by decide)).2.2.2.1
  have s6 := (hS 0 (by decide) (by decide)).2.2.2.2.2 hh
  have s7 : J 84 0 = J 38 3 := s6.1.symm
  have s8 : ∀ i, 0 ≤ i → i < J 38 3 → M 39 i = M 85 (0 + i) := s6.2.1
  show zW _ _ _ _ [some (.ref 0), some (zi 0), some (zi i), some (zl v), none, none] _ _ _ _ _
  refine z_iload1 gi_138_0 ?_
  refine z_cS1 gi_138_1 (Nat.le_of_ble_eq_true rfl) gc_143_I ?_
  refine z_iload0 gi_143_0 ?_
  refine z_if_ltF gi_143_1 zr_0 (by decide) ?_
  refine z_iload0 gi_143_4 ?_
  refine z_pushJ gp_143_5 ?_
  refine z_icmp_geF gi_143_7 zr_0 zr_6 (by decide) ?_
  refine z_pushJ gp_143_10 ?_
  refine z_goto gi_143_11 ?_
  refine z_bret1 gi_143_15 gr_143 ?_
  show zW _ _ _ _ _ _ _ _ _ _
  refine z_if_neT gi_138_4 zr_1 (by decide) ?_
  refine z_aload0 gi_138_9 ?_
  refine z_getR (r := 37) gi_138_10 gk_0 (hR _ rm_0_11) ?_
  refine z_iload1 gi_138_13 ?_
  refine z_aald (r := 38) gi_138_14 rfl (by decide) (by decide) (hR _ rm_37_0) ?_
  refine z_iload2 gi_138_15 ?_
  refine z_cV1 gi_138_16 gk_38 go_70 (Nat.le_of_ble_eq_true rfl) gc_70_RI ?_
  refine z_aload0 gi_70_0 ?_
  refine z_getI (v := 2) gi_70_1 gk_38 (hh) ?_
  refine z_if_neT gi_70_4 zr_2 (by decide) ?_
  refine z_aload0 gi_70_10 ?_
  refine z_getI (v := 2) gi_70_11 gk_38 (hh) ?_
  refine z_pushJ gp_70_14 ?_
  refine z_icmp_eqT gi_70_15 zr_2 zr_2 (by decide) ?_
  refine z_iload1 gi_70_21 ?_
  refine z_if_lt gi_70_22 (by omega) (fun h1 => ?_) (fun h1 => ?_)
  · refine z_pushJ gp_70_37 ?_
    refine z_iret gi_70_39 gr_70 ?_
    show zW _ _ _ _ _ _ _ _ _ _
    refine z_istore (ls1 := [some (.ref 0), some (zi 0), some (zi i), some (zl v), none, some (zi (-13))]) gi_138_19 rfl ?_
    refine z_iload5 gi_138_21 ?_
    refine z_if_geF gi_138_23 zrn_13 (by decide) ?_
    refine z_iload5 gi_138_26 ?_
    refine z_iret gi_138_28 gr_138 ?_
    refine ⟨_, rfl, ?_⟩
    show zW _ _ _ _ [some (.ref 50), some (zi 0), some (zi i), some (zl v), none, none, none] _ _ _ _ _
    refine z_aload0 gi_252_0 ?_
    refine z_iload1 gi_252_1 ?_
    refine z_iload2 gi_252_2 ?_
    refine z_cV2 gi_252_3 gk_50 go_251 (Nat.le_of_ble_eq_true rfl) gc_251_RII ?_
    refine z_iload1 gi_251_0 ?_
    refine z_cS1 gi_251_1 (Nat.le_of_ble_eq_true rfl) gc_248_I ?_
    refine z_iload0 gi_248_0 ?_
    refine z_pushJ gp_248_1 ?_
    refine z_pushJ gp_248_2 ?_
    refine z_cS3 gi_248_3 (Nat.le_of_ble_eq_true rfl) gc_148_III ?_
    refine z_iload0 gi_148_0 ?_
    refine z_iload1 gi_148_1 ?_
    refine z_icmp_ltF gi_148_2 zr_0 zr_0 (by decide) ?_
    refine z_iload0 gi_148_5 ?_
    refine z_iload2 gi_148_6 ?_
    refine z_icmp_gtF gi_148_7 zr_0 zr_5 (by decide) ?_
    refine z_pushJ gp_148_10 ?_
    refine z_goto gi_148_11 ?_
    refine z_bret1 gi_148_15 gr_148 ?_
    show zW _ _ _ _ _ _ _ _ _ _
    refine z_bret1 gi_248_6 gr_248 ?_
    show zW _ _ _ _ _ _ _ _ _ _
    refine z_if_neT gi_251_4 zr_1 (by decide) ?_
    refine z_aload0 gi_251_9 ?_
    refine z_getR (r := 83) gi_251_10 gk_50 (hRr _ rm_50_58 (by decide)) ?_
    refine z_iload1 gi_251_13 ?_
    refine z_iald (v := (-6)) gi_251_14 gk_83 (by decide) (by decide) ((e83.trans (by rw [hso]; rfl))) ?_
    refine z_pushJ gp_251_15 ?_
    refine z_icmp_neT gi_251_16 zrn_6 zrn_1 (by decide) ?_
    refine z_aload0 gi_251_22 ?_
    refine z_getR (r := 83) gi_251_23 gk_50 (hRr _ rm_50_58 (by decide)) ?_
    refine z_iload1 gi_251_26 ?_
    refine z_iald (v := (-6)) gi_251_27 gk_83 (by decide) (by decide) ((e83.trans (by rw [hso]; rfl))) ?_
    refine z_if_ltT gi_251_28 zrn_6 (by decide) ?_
    refine z_iload2 gi_251_34 ?_
    refine z_pushJ gp_251_35 ?_
    refine z_aload0 gi_251_36 ?_
    refine z_getR (r := 84) gi_251_37 gk_50 (hRr _ rm_50_59 (by decide)) ?_
    refine z_iload1 gi_251_40 ?_
    refine z_iald (v := J 38 3) gi_251_41 gk_84 (by decide) (by decide) (s7) ?_
    refine z_pushJ gp_251_42 ?_
    refine z_isub (e := (J 38 3) - 1) gi_251_43 rfl ?_
    refine z_cS3 gi_251_44 (Nat.le_of_ble_eq_true rfl) gc_148_III ?_
    refine z_iload0 gi_148_0 ?_
    refine z_iload1 gi_148_1 ?_
    refine z_icmp_ltT gi_148_2 (by omega) zr_0 (by omega) ?_
    refine z_pushJ gp_148_14 ?_
    refine z_bret0 gi_148_15 gr_148 ?_
    show zW _ _ _ _ _ _ _ _ _ _
    refine z_if_eqT gi_251_47 zr_0 (by decide) ?_
    refine z_pushJ gp_251_54 ?_
    refine z_iret gi_251_56 gr_251 ?_
    show zW _ _ _ _ _ _ _ _ _ _
    refine z_istore (ls1 := [some (.ref 50), some (zi 0), some (zi i), some (zl v), none, some (zi (-13)), none]) gi_252_6 rfl ?_
    refine z_iload5 gi_252_8 ?_
    refine z_if_geF gi_252_10 zrn_13 (by decide) ?_
    refine z_iload5 gi_252_13 ?_
    refine z_iret gi_252_15 gr_252 ?_
    refine ⟨?_, ?_⟩
    · first | rfl | exact congrArg (fun v => some (zi v)) (by omega) | (exfalso; omega)
    · exact hr
  · refine z_iload1 gi_70_25 ?_
    refine z_aload0 gi_70_26 ?_
    refine z_getI (v := J 38 3) gi_70_27 gk_38 (rfl) ?_
    refine z_icmp_ge gi_70_30 (by omega) (by omega) (fun h2 => ?_) (fun h2 => ?_)
    · refine z_pushJ gp_70_37 ?_
      refine z_iret gi_70_39 gr_70 ?_
      show zW _ _ _ _ _ _ _ _ _ _
      refine z_istore (ls1 := [some (.ref 0), some (zi 0), some (zi i), some (zl v), none, some (zi (-13))]) gi_138_19 rfl ?_
      refine z_iload5 gi_138_21 ?_
      refine z_if_geF gi_138_23 zrn_13 (by decide) ?_
      refine z_iload5 gi_138_26 ?_
      refine z_iret gi_138_28 gr_138 ?_
      refine ⟨_, rfl, ?_⟩
      show zW _ _ _ _ [some (.ref 50), some (zi 0), some (zi i), some (zl v), none, none, none] _ _ _ _ _
      refine z_aload0 gi_252_0 ?_
      refine z_iload1 gi_252_1 ?_
      refine z_iload2 gi_252_2 ?_
      refine z_cV2 gi_252_3 gk_50 go_251 (Nat.le_of_ble_eq_true rfl) gc_251_RII ?_
      refine z_iload1 gi_251_0 ?_
      refine z_cS1 gi_251_1 (Nat.le_of_ble_eq_true rfl) gc_248_I ?_
      refine z_iload0 gi_248_0 ?_
      refine z_pushJ gp_248_1 ?_
      refine z_pushJ gp_248_2 ?_
      refine z_cS3 gi_248_3 (Nat.le_of_ble_eq_true rfl) gc_148_III ?_
      refine z_iload0 gi_148_0 ?_
      refine z_iload1 gi_148_1 ?_
      refine z_icmp_ltF gi_148_2 zr_0 zr_0 (by decide) ?_
      refine z_iload0 gi_148_5 ?_
      refine z_iload2 gi_148_6 ?_
      refine z_icmp_gtF gi_148_7 zr_0 zr_5 (by decide) ?_
      refine z_pushJ gp_148_10 ?_
      refine z_goto gi_148_11 ?_
      refine z_bret1 gi_148_15 gr_148 ?_
      show zW _ _ _ _ _ _ _ _ _ _
      refine z_bret1 gi_248_6 gr_248 ?_
      show zW _ _ _ _ _ _ _ _ _ _
      refine z_if_neT gi_251_4 zr_1 (by decide) ?_
      refine z_aload0 gi_251_9 ?_
      refine z_getR (r := 83) gi_251_10 gk_50 (hRr _ rm_50_58 (by decide)) ?_
      refine z_iload1 gi_251_13 ?_
      refine z_iald (v := (-6)) gi_251_14 gk_83 (by decide) (by decide) ((e83.trans (by rw [hso]; rfl))) ?_
      refine z_pushJ gp_251_15 ?_
      refine z_icmp_neT gi_251_16 zrn_6 zrn_1 (by decide) ?_
      refine z_aload0 gi_251_22 ?_
      refine z_getR (r := 83) gi_251_23 gk_50 (hRr _ rm_50_58 (by decide)) ?_
      refine z_iload1 gi_251_26 ?_
      refine z_iald (v := (-6)) gi_251_27 gk_83 (by decide) (by decide) ((e83.trans (by rw [hso]; rfl))) ?_
      refine z_if_ltT gi_251_28 zrn_6 (by decide) ?_
      refine z_iload2 gi_251_34 ?_
      refine z_pushJ gp_251_35 ?_
      refine z_aload0 gi_251_36 ?_
      refine z_getR (r := 84) gi_251_37 gk_50 (hRr _ rm_50_59 (by decide)) ?_
      refine z_iload1 gi_251_40 ?_
      refine z_iald (v := J 38 3) gi_251_41 gk_84 (by decide) (by decide) (s7) ?_
      refine z_pushJ gp_251_42 ?_
      refine z_isub (e := (J 38 3) - 1) gi_251_43 rfl ?_
      refine z_cS3 gi_251_44 (Nat.le_of_ble_eq_true rfl) gc_148_III ?_
      refine z_iload0 gi_148_0 ?_
      refine z_iload1 gi_148_1 ?_
      refine z_icmp_ltF gi_148_2 (by omega) zr_0 (by omega) ?_
      refine z_iload0 gi_148_5 ?_
      refine z_iload2 gi_148_6 ?_
      refine z_icmp_gtT gi_148_7 (by omega) (by omega) (by omega) ?_
      refine z_pushJ gp_148_14 ?_
      refine z_bret0 gi_148_15 gr_148 ?_
      show zW _ _ _ _ _ _ _ _ _ _
      refine z_if_eqT gi_251_47 zr_0 (by decide) ?_
      refine z_pushJ gp_251_54 ?_
      refine z_iret gi_251_56 gr_251 ?_
      show zW _ _ _ _ _ _ _ _ _ _
      refine z_istore (ls1 := [some (.ref 50), some (zi 0), some (zi i), some (zl v), none, some (zi (-13)), none]) gi_252_6 rfl ?_
      refine z_iload5 gi_252_8 ?_
      refine z_if_geF gi_252_10 zrn_13 (by decide) ?_
      refine z_iload5 gi_252_13 ?_
      refine z_iret gi_252_15 gr_252 ?_
      refine ⟨?_, ?_⟩
      · first | rfl | exact congrArg (fun v => some (zi v)) (by omega) | (exfalso; omega)
      · exact hr
    · refine z_pushJ gp_70_33 ?_
      refine z_goto gi_70_34 ?_
      refine z_iret gi_70_39 gr_70 ?_
      show zW _ _ _ _ _ _ _ _ _ _
      refine z_istore (ls1 := [some (.ref 0), some (zi 0), some (zi i), some (zl v), none, some (zi 0)]) gi_138_19 rfl ?_
      refine z_iload5 gi_138_21 ?_
      refine z_if_geT gi_138_23 zr_0 (by decide) ?_
      refine z_aload0 gi_138_29 ?_
      refine z_getR (r := 37) gi_138_30 gk_0 (hR _ rm_0_11) ?_
      refine z_iload1 gi_138_33 ?_
      refine z_aald (r := 38) gi_138_34 rfl (by decide) (by decide) (hR _ rm_37_0) ?_
      refine z_iload2 gi_138_35 ?_
      refine z_lload3 gi_138_36 ?_
      refine z_callVi (As := [_, _]) (le := [some _, some _, some _, none]) gi_138_37 rfl gk_38 (Nat.le_of_ble_eq_true rfl) (Nat.le_of_ble_eq_true rfl) rfl ?_
      refine z_iload1 gi_73_0 ?_
      refine z_if_ltF gi_73_1 (by omega) (by omega) ?_
      refine z_iload1 gi_73_4 ?_
      refine z_aload0 gi_73_5 ?_
      refine z_getI (v := J 38 3) gi_73_6 gk_38 (rfl) ?_
      refine z_icmp_geF gi_73_9 (by omega) (by omega) (by omega) ?_
      refine z_aload0 gi_73_12 ?_
      refine z_getR (r := 39) gi_73_13 gk_38 (hR _ rm_38_4) ?_
      refine z_iload1 gi_73_16 ?_
      refine z_aload0 gi_73_17 ?_
      refine z_lload2 gi_73_18 ?_
      refine z_callVi (As := [_]) (le := [some _, some _, none]) gi_73_19 rfl gk_38 (Nat.le_of_ble_eq_true rfl) (Nat.le_of_ble_eq_true rfl) rfl ?_
      refine z_aload0 gi_74_0 ?_
      refine z_getI (v := 4) gi_74_1 gk_38 (hso) ?_
      refine z_swI (tg := 54) gi_74_4 (by decide) (T := [((0 : Int), 40), ((1 : Int), 45), ((2 : Int), 50), ((3 : Int), 66), ((4 : Int), 54)]) rfl (by decide) ?_
      refine z_lload1 gi_74_54 ?_
      refine z_pushL (z := 0) gi_74_55 rfl ?_
      refine z_lcmp_eq gi_74_56 gi_74_57 (by omega) (by omega) (fun h3 => ?_) (fun h3 => ?_)
      · refine z_pushL (z := 0) gi_74_64 rfl ?_
        refine z_lret gi_74_65 gr_74 ?_
        show zW _ _ _ _ _ _ _ _ _ _
        refine z_last (e := 0) gi_73_22 gk_39 (by decide) (by omega) rfl ?_
        refine z_vret gi_73_23 gr_73 ?_
        show zW _ _ _ _ _ _ _ _ _ _
        refine z_pushJ gp_138_40 ?_
        refine z_iret gi_138_41 gr_138 ?_
        refine ⟨_, rfl, ?_⟩
        show zW _ _ _ _ [some (.ref 50), some (zi 0), some (zi i), some (zl v), none, none, none] _ _ _ _ _
        refine z_aload0 gi_252_0 ?_
        refine z_iload1 gi_252_1 ?_
        refine z_iload2 gi_252_2 ?_
        refine z_cV2 gi_252_3 gk_50 go_251 (Nat.le_of_ble_eq_true rfl) gc_251_RII ?_
        refine z_iload1 gi_251_0 ?_
        refine z_cS1 gi_251_1 (Nat.le_of_ble_eq_true rfl) gc_248_I ?_
        refine z_iload0 gi_248_0 ?_
        refine z_pushJ gp_248_1 ?_
        refine z_pushJ gp_248_2 ?_
        refine z_cS3 gi_248_3 (Nat.le_of_ble_eq_true rfl) gc_148_III ?_
        refine z_iload0 gi_148_0 ?_
        refine z_iload1 gi_148_1 ?_
        refine z_icmp_ltF gi_148_2 zr_0 zr_0 (by decide) ?_
        refine z_iload0 gi_148_5 ?_
        refine z_iload2 gi_148_6 ?_
        refine z_icmp_gtF gi_148_7 zr_0 zr_5 (by decide) ?_
        refine z_pushJ gp_148_10 ?_
        refine z_goto gi_148_11 ?_
        refine z_bret1 gi_148_15 gr_148 ?_
        show zW _ _ _ _ _ _ _ _ _ _
        refine z_bret1 gi_248_6 gr_248 ?_
        show zW _ _ _ _ _ _ _ _ _ _
        refine z_if_neT gi_251_4 zr_1 (by decide) ?_
        refine z_aload0 gi_251_9 ?_
        refine z_getR (r := 83) gi_251_10 gk_50 (hRr _ rm_50_58 (by decide)) ?_
        refine z_iload1 gi_251_13 ?_
        refine z_iald (v := (-6)) gi_251_14 gk_83 (by decide) (by decide) ((e83.trans (by rw [hso]; rfl))) ?_
        refine z_pushJ gp_251_15 ?_
        refine z_icmp_neT gi_251_16 zrn_6 zrn_1 (by decide) ?_
        refine z_aload0 gi_251_22 ?_
        refine z_getR (r := 83) gi_251_23 gk_50 (hRr _ rm_50_58 (by decide)) ?_
        refine z_iload1 gi_251_26 ?_
        refine z_iald (v := (-6)) gi_251_27 gk_83 (by decide) (by decide) ((e83.trans (by rw [hso]; rfl))) ?_
        refine z_if_ltT gi_251_28 zrn_6 (by decide) ?_
        refine z_iload2 gi_251_34 ?_
        refine z_pushJ gp_251_35 ?_
        refine z_aload0 gi_251_36 ?_
        refine z_getR (r := 84) gi_251_37 gk_50 (hRr _ rm_50_59 (by decide)) ?_
        refine z_iload1 gi_251_40 ?_
        refine z_iald (v := J 38 3) gi_251_41 gk_84 (by decide) (by decide) (s7) ?_
        refine z_pushJ gp_251_42 ?_
        refine z_isub (e := (J 38 3) - 1) gi_251_43 rfl ?_
        refine z_cS3 gi_251_44 (Nat.le_of_ble_eq_true rfl) gc_148_III ?_
        refine z_iload0 gi_148_0 ?_
        refine z_iload1 gi_148_1 ?_
        refine z_icmp_ltF gi_148_2 (by omega) zr_0 (by omega) ?_
        refine z_iload0 gi_148_5 ?_
        refine z_iload2 gi_148_6 ?_
        refine z_icmp_gtF gi_148_7 (by omega) (by omega) (by omega) ?_
        refine z_pushJ gp_148_10 ?_
        refine z_goto gi_148_11 ?_
        refine z_bret1 gi_148_15 gr_148 ?_
        show zW _ _ _ _ _ _ _ _ _ _
        refine z_if_eqF gi_251_47 zr_1 (by decide) ?_
        refine z_pushJ gp_251_50 ?_
        refine z_goto gi_251_51 ?_
        refine z_iret gi_251_56 gr_251 ?_
        show zW _ _ _ _ _ _ _ _ _ _
        refine z_istore (ls1 := [some (.ref 50), some (zi 0), some (zi i), some (zl v), none, some (zi 0), none]) gi_252_6 rfl ?_
        refine z_iload5 gi_252_8 ?_
        refine z_if_geT gi_252_10 zr_0 (by decide) ?_
        refine z_pushJ gp_252_16 ?_
        refine z_aload0 gi_252_18 ?_
        refine z_getR (r := 83) gi_252_19 gk_50 (hRr _ rm_50_58 (by decide)) ?_
        refine z_iload1 gi_252_22 ?_
        refine z_iald (v := (-6)) gi_252_23 gk_83 (by decide) (by decide) ((e83.trans (by rw [hso]; rfl))) ?_
        refine z_isub (e := 4) gi_252_24 rfl ?_
        refine z_istore (ls1 := [some (.ref 50), some (zi 0), some (zi i), some (zl v), none, some (zi 0), some (zi 4)]) gi_252_25 rfl ?_
        refine z_aload0 gi_252_27 ?_
        refine z_getR (r := 85) gi_252_28 gk_50 (hRr _ rm_50_60 (by decide)) ?_
        refine z_pushJ gp_252_31 ?_
        refine z_iload1 gi_252_33 ?_
        refine z_imul (e := 0) gi_252_34 rfl ?_
        refine z_iload2 gi_252_35 ?_
        refine z_iadd (e := 0 + i) gi_252_36 rfl ?_
        refine z_iload6 gi_252_37 ?_
        refine z_if_neT gi_252_39 zr_4 (by decide) ?_
        refine z_iload6 gi_252_49 ?_
        refine z_pushJ gp_252_51 ?_
        refine z_icmp_neT gi_252_52 zr_4 zr_1 (by decide) ?_
        refine z_iload6 gi_252_62 ?_
        refine z_pushJ gp_252_64 ?_
        refine z_icmp_neT gi_252_65 zr_4 zr_2 (by decide) ?_
        refine z_iload6 gi_252_74 ?_
        refine z_pushJ gp_252_76 ?_
        refine z_icmp_neT gi_252_77 zr_4 zr_3 (by decide) ?_
        refine z_lload3 gi_252_84 ?_
        refine z_pushL (z := 0) gi_252_85 rfl ?_
        refine z_lcmp_eq gi_252_86 gi_252_87 (by omega) (by omega) (fun h4 => ?_) (fun h4 => ?_)
        · refine z_pushL (z := 0) gi_252_94 rfl ?_
          refine z_last (e := 0) gi_252_95 gk_85 (by decide) (by omega) rfl ?_
          refine z_pushJ gp_252_96 ?_
          refine z_iret gi_252_97 gr_252 ?_
          refine ⟨?_, ?_⟩
          · first | rfl | exact congrArg (fun v => some (zi v)) (by omega) | (exfalso; omega)
          · have hk := (zK_r (k := (kL [] [])) (A := J))
            have hkm := (zK_x (a := 85) (x := 0 + i) (v := 0) (zK_x (a := 39) (x := i) (v := 0) (zK_r (k := (kL [39, 85] [])) (A := M)) rfl) rfl)
            exact ⟨hR, hG, RelY_k hk (by repeat' constructor) (fun p => by repeat' constructor) hY, RelD_k hk (by repeat' constructor) (fun p => by repeat' constructor) hD, RelP_k hk (by repeat' constructor) (fun p => by repeat' constructor) hP, RelC_k hk (by repeat' constructor) (fun p => by repeat' constructor) hC, RelA_k hk (by repeat' constructor) (fun p => by repeat' constructor) hAc, (RelS_one (J := J) (M := M) (c := 0) (fun t t1 t2 te => by have q : t = 0 ∨ t = 1 ∨ t = 2 ∨ t = 3 ∨ t = 4 ∨ t = 5 := (by omega); rcases q with rfl | rfl | rfl | rfl | rfl | rfl <;> first | exact absurd rfl te | exact ⟨fun j => rfl, rfl, rfl⟩) (fun t t1 t2 te => by have q : t = 0 ∨ t = 1 ∨ t = 2 ∨ t = 3 ∨ t = 4 ∨ t = 5 := (by omega); rcases q with rfl | rfl | rfl | rfl | rfl | rfl <;> first | exact absurd rfl te | exact ⟨fun j => rfl, fun j j1 j2 => (zU_x (by omega)).trans (zU_n (by decide))⟩) rfl (show RelS1 _ _ _ from ⟨(hS 0 (by decide) (by decide)).1, (hS 0 (by decide) (by decide)).2.1, s3, s4, (hS 0 (by decide) (by decide)).2.2.2.2.1, fun _ => ⟨s7.symm, fun k k1 k2 => by show (if k = i then 0 else M 39 k) = (if 0 + k = 0 + i then 0 else M 85 (0 + k)); by_cases e : k = i; rw [if_pos e, if_pos (by omega)]; rw [if_neg e, if_neg (by omega)]; exact s8 k k1 k2, (fun hq => absurd (Eq.trans (Eq.symm hq) hso) (by decide))⟩⟩) hS), RelT_k hk (by repeat' constructor) (fun p => by repeat' constructor) hTp, RelX_k hk (by repeat' constructor) (fun p => by repeat' constructor) hX, RelW_k hk ⟨rfl, rfl⟩ trivial hW⟩
        · refine z_pushL (z := 1) gi_252_90 rfl ?_
          refine z_goto gi_252_91 ?_
          refine z_last (e := 1) gi_252_95 gk_85 (by decide) (by omega) rfl ?_
          refine z_pushJ gp_252_96 ?_
          refine z_iret gi_252_97 gr_252 ?_
          refine ⟨?_, ?_⟩
          · first | rfl | exact congrArg (fun v => some (zi v)) (by omega) | (exfalso; omega)
          · exfalso
            omega
      · refine z_pushL (z := 1) gi_74_60 rfl ?_
        refine z_goto gi_74_61 ?_
        refine z_lret gi_74_65 gr_74 ?_
        show zW _ _ _ _ _ _ _ _ _ _
        refine z_last (e := 1) gi_73_22 gk_39 (by decide) (by omega) rfl ?_
        refine z_vret gi_73_23 gr_73 ?_
        show zW _ _ _ _ _ _ _ _ _ _
        refine z_pushJ gp_138_40 ?_
        refine z_iret gi_138_41 gr_138 ?_
        refine ⟨_, rfl, ?_⟩
        show zW _ _ _ _ [some (.ref 50), some (zi 0), some (zi i), some (zl v), none, none, none] _ _ _ _ _
        refine z_aload0 gi_252_0 ?_
        refine z_iload1 gi_252_1 ?_
        refine z_iload2 gi_252_2 ?_
        refine z_cV2 gi_252_3 gk_50 go_251 (Nat.le_of_ble_eq_true rfl) gc_251_RII ?_
        refine z_iload1 gi_251_0 ?_
        refine z_cS1 gi_251_1 (Nat.le_of_ble_eq_true rfl) gc_248_I ?_
        refine z_iload0 gi_248_0 ?_
        refine z_pushJ gp_248_1 ?_
        refine z_pushJ gp_248_2 ?_
        refine z_cS3 gi_248_3 (Nat.le_of_ble_eq_true rfl) gc_148_III ?_
        refine z_iload0 gi_148_0 ?_
        refine z_iload1 gi_148_1 ?_
        refine z_icmp_ltF gi_148_2 zr_0 zr_0 (by decide) ?_
        refine z_iload0 gi_148_5 ?_
        refine z_iload2 gi_148_6 ?_
        refine z_icmp_gtF gi_148_7 zr_0 zr_5 (by decide) ?_
        refine z_pushJ gp_148_10 ?_
        refine z_goto gi_148_11 ?_
        refine z_bret1 gi_148_15 gr_148 ?_
        show zW _ _ _ _ _ _ _ _ _ _
        refine z_bret1 gi_248_6 gr_248 ?_
        show zW _ _ _ _ _ _ _ _ _ _
        refine z_if_neT gi_251_4 zr_1 (by decide) ?_
        refine z_aload0 gi_251_9 ?_
        refine z_getR (r := 83) gi_251_10 gk_50 (hRr _ rm_50_58 (by decide)) ?_
        refine z_iload1 gi_251_13 ?_
        refine z_iald (v := (-6)) gi_251_14 gk_83 (by decide) (by decide) ((e83.trans (by rw [hso]; rfl))) ?_
        refine z_pushJ gp_251_15 ?_
        refine z_icmp_neT gi_251_16 zrn_6 zrn_1 (by decide) ?_
        refine z_aload0 gi_251_22 ?_
        refine z_getR (r := 83) gi_251_23 gk_50 (hRr _ rm_50_58 (by decide)) ?_
        refine z_iload1 gi_251_26 ?_
        refine z_iald (v := (-6)) gi_251_27 gk_83 (by decide) (by decide) ((e83.trans (by rw [hso]; rfl))) ?_
        refine z_if_ltT gi_251_28 zrn_6 (by decide) ?_
        refine z_iload2 gi_251_34 ?_
        refine z_pushJ gp_251_35 ?_
        refine z_aload0 gi_251_36 ?_
        refine z_getR (r := 84) gi_251_37 gk_50 (hRr _ rm_50_59 (by decide)) ?_
        refine z_iload1 gi_251_40 ?_
        refine z_iald (v := J 38 3) gi_251_41 gk_84 (by decide) (by decide) (s7) ?_
        refine z_pushJ gp_251_42 ?_
        refine z_isub (e := (J 38 3) - 1) gi_251_43 rfl ?_
        refine z_cS3 gi_251_44 (Nat.le_of_ble_eq_true rfl) gc_148_III ?_
        refine z_iload0 gi_148_0 ?_
        refine z_iload1 gi_148_1 ?_
        refine z_icmp_ltF gi_148_2 (by omega) zr_0 (by omega) ?_
        refine z_iload0 gi_148_5 ?_
        refine z_iload2 gi_148_6 ?_
        refine z_icmp_gtF gi_148_7 (by omega) (by omega) (by omega) ?_
        refine z_pushJ gp_148_10 ?_
        refine z_goto gi_148_11 ?_
        refine z_bret1 gi_148_15 gr_148 ?_
        show zW _ _ _ _ _ _ _ _ _ _
        refine z_if_eqF gi_251_47 zr_1 (by decide) ?_
        refine z_pushJ gp_251_50 ?_
        refine z_goto gi_251_51 ?_
        refine z_iret gi_251_56 gr_251 ?_
        show zW _ _ _ _ _ _ _ _ _ _
        refine z_istore (ls1 := [some (.ref 50), some (zi 0), some (zi i), some (zl v), none, some (zi 0), none]) gi_252_6 rfl ?_
        refine z_iload5 gi_252_8 ?_
        refine z_if_geT gi_252_10 zr_0 (by decide) ?_
        refine z_pushJ gp_252_16 ?_
        refine z_aload0 gi_252_18 ?_
        refine z_getR (r := 83) gi_252_19 gk_50 (hRr _ rm_50_58 (by decide)) ?_
        refine z_iload1 gi_252_22 ?_
        refine z_iald (v := (-6)) gi_252_23 gk_83 (by decide) (by decide) ((e83.trans (by rw [hso]; rfl))) ?_
        refine z_isub (e := 4) gi_252_24 rfl ?_
        refine z_istore (ls1 := [some (.ref 50), some (zi 0), some (zi i), some (zl v), none, some (zi 0), some (zi 4)]) gi_252_25 rfl ?_
        refine z_aload0 gi_252_27 ?_
        refine z_getR (r := 85) gi_252_28 gk_50 (hRr _ rm_50_60 (by decide)) ?_
        refine z_pushJ gp_252_31 ?_
        refine z_iload1 gi_252_33 ?_
        refine z_imul (e := 0) gi_252_34 rfl ?_
        refine z_iload2 gi_252_35 ?_
        refine z_iadd (e := 0 + i) gi_252_36 rfl ?_
        refine z_iload6 gi_252_37 ?_
        refine z_if_neT gi_252_39 zr_4 (by decide) ?_
        refine z_iload6 gi_252_49 ?_
        refine z_pushJ gp_252_51 ?_
        refine z_icmp_neT gi_252_52 zr_4 zr_1 (by decide) ?_
        refine z_iload6 gi_252_62 ?_
        refine z_pushJ gp_252_64 ?_
        refine z_icmp_neT gi_252_65 zr_4 zr_2 (by decide) ?_
        refine z_iload6 gi_252_74 ?_
        refine z_pushJ gp_252_76 ?_
        refine z_icmp_neT gi_252_77 zr_4 zr_3 (by decide) ?_
        refine z_lload3 gi_252_84 ?_
        refine z_pushL (z := 0) gi_252_85 rfl ?_
        refine z_lcmp_eq gi_252_86 gi_252_87 (by omega) (by omega) (fun h4 => ?_) (fun h4 => ?_)
        · refine z_pushL (z := 0) gi_252_94 rfl ?_
          refine z_last (e := 0) gi_252_95 gk_85 (by decide) (by omega) rfl ?_
          refine z_pushJ gp_252_96 ?_
          refine z_iret gi_252_97 gr_252 ?_
          refine ⟨?_, ?_⟩
          · first | rfl | exact congrArg (fun v => some (zi v)) (by omega) | (exfalso; omega)
          · exfalso
            omega
        · refine z_pushL (z := 1) gi_252_90 rfl ?_
          refine z_goto gi_252_91 ?_
          refine z_last (e := 1) gi_252_95 gk_85 (by decide) (by omega) rfl ?_
          refine z_pushJ gp_252_96 ?_
          refine z_iret gi_252_97 gr_252 ?_
          refine ⟨?_, ?_⟩
          · first | rfl | exact congrArg (fun v => some (zi v)) (by omega) | (exfalso; omega)
          · have hk := (zK_r (k := (kL [] [])) (A := J))
            have hkm := (zK_x (a := 85) (x := 0 + i) (v := 1) (zK_x (a := 39) (x := i) (v := 1) (zK_r (k := (kL [39, 85] [])) (A := M)) rfl) rfl)
            exact ⟨hR, hG, RelY_k hk (by repeat' constructor) (fun p => by repeat' constructor) hY, RelD_k hk (by repeat' constructor) (fun p => by repeat' constructor) hD, RelP_k hk (by repeat' constructor) (fun p => by repeat' constructor) hP, RelC_k hk (by repeat' constructor) (fun p => by repeat' constructor) hC, RelA_k hk (by repeat' constructor) (fun p => by repeat' constructor) hAc, (RelS_one (J := J) (M := M) (c := 0) (fun t t1 t2 te => by have q : t = 0 ∨ t = 1 ∨ t = 2 ∨ t = 3 ∨ t = 4 ∨ t = 5 := (by omega); rcases q with rfl | rfl | rfl | rfl | rfl | rfl <;> first | exact absurd rfl te | exact ⟨fun j => rfl, rfl, rfl⟩) (fun t t1 t2 te => by have q : t = 0 ∨ t = 1 ∨ t = 2 ∨ t = 3 ∨ t = 4 ∨ t = 5 := (by omega); rcases q with rfl | rfl | rfl | rfl | rfl | rfl <;> first | exact absurd rfl te | exact ⟨fun j => rfl, fun j j1 j2 => (zU_x (by omega)).trans (zU_n (by decide))⟩) rfl (show RelS1 _ _ _ from ⟨(hS 0 (by decide) (by decide)).1, (hS 0 (by decide) (by decide)).2.1, s3, s4, (hS 0 (by decide) (by decide)).2.2.2.2.1, fun _ => ⟨s7.symm, fun k k1 k2 => by show (if k = i then 1 else M 39 k) = (if 0 + k = 0 + i then 1 else M 85 (0 + k)); by_cases e : k = i; rw [if_pos e, if_pos (by omega)]; rw [if_neg e, if_neg (by omega)]; exact s8 k k1 k2, (fun hq => absurd (Eq.trans (Eq.symm hq) hso) (by decide))⟩⟩) hS), RelT_k hk (by repeat' constructor) (fun p => by repeat' constructor) hTp, RelX_k hk (by repeat' constructor) (fun p => by repeat' constructor) hX, RelW_k hk ⟨rfl, rfl⟩ trivial hW⟩
theorem st_element_10 {X : Nat × (Nat → Int32)} {d : Nat} {J M : zA} {R : zR} {i : Int} (hr : Rel X J M R) (hi : -2147483648 ≤ i ∧ i < 2147483648) (hh : J 40 0 = 0) : zW X (d + 20) 139 0 (gEn 139 [(.ref 0), (zi 1), (zi i)]) [] J M R (stL X (d + 20) 253 [(zi 1), (zi i)]) := by
  have hr0 := hr
  obtain ⟨hR, hG, hY, hD, hP, hC, hAc, hS, hTp, hX, hW⟩ := hr0
  have hRr : zRoR R := zRoR_of hR
  have hA0 := hAc
  obtain ⟨a1, a2, a3, a4, a5, a6⟩ := hA0
  have e83 : J 83 1 = -1 := (hS 1 (by decide) (by decide)).1.symm.trans (cH_0 hh)
  have s3 : 0 ≤ J 40 2 ∧ J 40 2 ≤ 4 := (hS 1 (by decide) (by decide)).2.2.1
  have s4 : 0 ≤ J 40 3 ∧ J 40 3 ≤ 60 := (hS 1 (by decide) (by decide)).2.2.2.1
  show zW _ _ _ _ [some (.ref 0), some (zi 1), some (zi i)] _ _ _ _ _
  refine z_iload1 gi_139_0 ?_
  refine z_cS1 gi_139_1 (Nat.le_of_ble_eq_true rfl) gc_143_I ?_
  refine z_iload0 gi_143_0 ?_
  refine z_if_ltF gi_143_1 zr_1 (by decide) ?_
  refine z_iload0 gi_143_4 ?_
  refine z_pushJ gp_143_5 ?_
  refine z_icmp_geF gi_143_7 zr_1 zr_6 (by decide) ?_
  refine z_pushJ gp_143_10 ?_
  refine z_goto gi_143_11 ?_
  refine z_bret1 gi_143_15 gr_143 ?_
  show zW _ _ _ _ _ _ _ _ _ _
  refine z_if_eqF gi_139_4 zr_1 (by decide) ?_
  refine z_aload0 gi_139_7 ?_
  refine z_getR (r := 37) gi_139_8 gk_0 (hR _ rm_0_11) ?_
  refine z_iload1 gi_139_11 ?_
  refine z_aald (r := 40) gi_139_12 rfl (by decide) (by decide) (hR _ rm_37_1) ?_
  refine z_iload2 gi_139_13 ?_
  refine z_cV1 gi_139_14 gk_40 go_70 (Nat.le_of_ble_eq_true rfl) gc_70_RI ?_
  refine z_aload0 gi_70_0 ?_
  refine z_getI (v := 0) gi_70_1 gk_40 (hh) ?_
  refine z_if_neF gi_70_4 zr_0 (by decide) ?_
  refine z_pushJ gp_70_7 ?_
  refine z_iret gi_70_9 gr_70 ?_
  show zW _ _ _ _ _ _ _ _ _ _
  refine z_if_geF gi_139_17 zrn_11 (by decide) ?_
  refine z_pushL (z := (-9223372036854775808)) gi_139_20 rfl ?_
  refine z_lret gi_139_23 gr_139 ?_
  refine ⟨_, rfl, ?_⟩
  show zW _ _ _ _ [some (.ref 50), some (zi 1), some (zi i)] _ _ _ _ _
  refine z_aload0 gi_253_0 ?_
  refine z_iload1 gi_253_1 ?_
  refine z_iload2 gi_253_2 ?_
  refine z_cV2 gi_253_3 gk_50 go_251 (Nat.le_of_ble_eq_true rfl) gc_251_RII ?_
  refine z_iload1 gi_251_0 ?_
  refine z_cS1 gi_251_1 (Nat.le_of_ble_eq_true rfl) gc_248_I ?_
  refine z_iload0 gi_248_0 ?_
  refine z_pushJ gp_248_1 ?_
  refine z_pushJ gp_248_2 ?_
  refine z_cS3 gi_248_3 (Nat.le_of_ble_eq_true rfl) gc_148_III ?_
  refine z_iload0 gi_148_0 ?_
  refine z_iload1 gi_148_1 ?_
  refine z_icmp_ltF gi_148_2 zr_1 zr_0 (by decide) ?_
  refine z_iload0 gi_148_5 ?_
  refine z_iload2 gi_148_6 ?_
  refine z_icmp_gtF gi_148_7 zr_1 zr_5 (by decide) ?_
  refine z_pushJ gp_148_10 ?_
  refine z_goto gi_148_11 ?_
  refine z_bret1 gi_148_15 gr_148 ?_
  show zW _ _ _ _ _ _ _ _ _ _
  refine z_bret1 gi_248_6 gr_248 ?_
  show zW _ _ _ _ _ _ _ _ _ _
  refine z_if_neT gi_251_4 zr_1 (by decide) ?_
  refine z_aload0 gi_251_9 ?_
  refine z_getR (r := 83) gi_251_10 gk_50 (hRr _ rm_50_58 (by decide)) ?_
  refine z_iload1 gi_251_13 ?_
  refine z_iald (v := (-1)) gi_251_14 gk_83 (by decide) (by decide) (e83) ?_
  refine z_pushJ gp_251_15 ?_
  refine z_icmp_neF gi_251_16 zrn_1 zrn_1 (by decide) ?_
  refine z_pushJ gp_251_19 ?_
  refine z_iret gi_251_21 gr_251 ?_
  show zW _ _ _ _ _ _ _ _ _ _
  refine z_if_geF gi_253_6 zrn_11 (by decide) ?_
  refine z_pushL (z := (-9223372036854775808)) gi_253_9 rfl ?_
  refine z_goto gi_253_12 ?_
  refine z_lret gi_253_26 gr_253 ?_
  refine ⟨?_, ?_⟩
  · first | rfl | exact congrArg (fun v => some (zl v)) (by omega) | (exfalso; omega)
  · exact hr
theorem st_put_10 {X : Nat × (Nat → Int32)} {d : Nat} {J M : zA} {R : zR} {i v : Int} (hr : Rel X J M R) (hi : -2147483648 ≤ i ∧ i < 2147483648) (hv : -9223372036854775808 ≤ v ∧ v < 9223372036854775808) (hh : J 40 0 = 0) : zW X (d + 20) 138 0 (gEn 138 [(.ref 0), (zi 1), (zi i), (zl v)]) [] J M R (stP X (d + 20) 252 [(zi 1), (zi i), (zl v)]) := by
  have hr0 := hr
  obtain ⟨hR, hG, hY, hD, hP, hC, hAc, hS, hTp, hX, hW⟩ := hr0
  have hRr : zRoR R := zRoR_of hR
  have hA0 := hAc
  obtain ⟨a1, a2, a3, a4, a5, a6⟩ := hA0
  have e83 : J 83 1 = -1 := (hS 1 (by decide) (by decide)).1.symm.trans (cH_0 hh)
  have s3 : 0 ≤ J 40 2 ∧ J 40 2 ≤ 4 := (hS 1 (by decide) (by decide)).2.2.1
  have s4 : 0 ≤ J 40 3 ∧ J 40 3 ≤ 60 := (hS 1 (by decide) (by decide)).2.2.2.1
  show zW _ _ _ _ [some (.ref 0), some (zi 1), some (zi i), some (zl v), none, none] _ _ _ _ _
  refine z_iload1 gi_138_0 ?_
  refine z_cS1 gi_138_1 (Nat.le_of_ble_eq_true rfl) gc_143_I ?_
  refine z_iload0 gi_143_0 ?_
  refine z_if_ltF gi_143_1 zr_1 (by decide) ?_
  refine z_iload0 gi_143_4 ?_
  refine z_pushJ gp_143_5 ?_
  refine z_icmp_geF gi_143_7 zr_1 zr_6 (by decide) ?_
  refine z_pushJ gp_143_10 ?_
  refine z_goto gi_143_11 ?_
  refine z_bret1 gi_143_15 gr_143 ?_
  show zW _ _ _ _ _ _ _ _ _ _
  refine z_if_neT gi_138_4 zr_1 (by decide) ?_
  refine z_aload0 gi_138_9 ?_
  refine z_getR (r := 37) gi_138_10 gk_0 (hR _ rm_0_11) ?_
  refine z_iload1 gi_138_13 ?_
  refine z_aald (r := 40) gi_138_14 rfl (by decide) (by decide) (hR _ rm_37_1) ?_
  refine z_iload2 gi_138_15 ?_
  refine z_cV1 gi_138_16 gk_40 go_70 (Nat.le_of_ble_eq_true rfl) gc_70_RI ?_
  refine z_aload0 gi_70_0 ?_
  refine z_getI (v := 0) gi_70_1 gk_40 (hh) ?_
  refine z_if_neF gi_70_4 zr_0 (by decide) ?_
  refine z_pushJ gp_70_7 ?_
  refine z_iret gi_70_9 gr_70 ?_
  show zW _ _ _ _ _ _ _ _ _ _
  refine z_istore (ls1 := [some (.ref 0), some (zi 1), some (zi i), some (zl v), none, some (zi (-11))]) gi_138_19 rfl ?_
  refine z_iload5 gi_138_21 ?_
  refine z_if_geF gi_138_23 zrn_11 (by decide) ?_
  refine z_iload5 gi_138_26 ?_
  refine z_iret gi_138_28 gr_138 ?_
  refine ⟨_, rfl, ?_⟩
  show zW _ _ _ _ [some (.ref 50), some (zi 1), some (zi i), some (zl v), none, none, none] _ _ _ _ _
  refine z_aload0 gi_252_0 ?_
  refine z_iload1 gi_252_1 ?_
  refine z_iload2 gi_252_2 ?_
  refine z_cV2 gi_252_3 gk_50 go_251 (Nat.le_of_ble_eq_true rfl) gc_251_RII ?_
  refine z_iload1 gi_251_0 ?_
  refine z_cS1 gi_251_1 (Nat.le_of_ble_eq_true rfl) gc_248_I ?_
  refine z_iload0 gi_248_0 ?_
  refine z_pushJ gp_248_1 ?_
  refine z_pushJ gp_248_2 ?_
  refine z_cS3 gi_248_3 (Nat.le_of_ble_eq_true rfl) gc_148_III ?_
  refine z_iload0 gi_148_0 ?_
  refine z_iload1 gi_148_1 ?_
  refine z_icmp_ltF gi_148_2 zr_1 zr_0 (by decide) ?_
  refine z_iload0 gi_148_5 ?_
  refine z_iload2 gi_148_6 ?_
  refine z_icmp_gtF gi_148_7 zr_1 zr_5 (by decide) ?_
  refine z_pushJ gp_148_10 ?_
  refine z_goto gi_148_11 ?_
  refine z_bret1 gi_148_15 gr_148 ?_
  show zW _ _ _ _ _ _ _ _ _ _
  refine z_bret1 gi_248_6 gr_248 ?_
  show zW _ _ _ _ _ _ _ _ _ _
  refine z_if_neT gi_251_4 zr_1 (by decide) ?_
  refine z_aload0 gi_251_9 ?_
  refine z_getR (r := 83) gi_251_10 gk_50 (hRr _ rm_50_58 (by decide)) ?_
  refine z_iload1 gi_251_13 ?_
  refine z_iald (v := (-1)) gi_251_14 gk_83 (by decide) (by decide) (e83) ?_
  refine z_pushJ gp_251_15 ?_
  refine z_icmp_neF gi_251_16 zrn_1 zrn_1 (by decide) ?_
  refine z_pushJ gp_251_19 ?_
  refine z_iret gi_251_21 gr_251 ?_
  show zW _ _ _ _ _ _ _ _ _ _
  refine z_istore (ls1 := [some (.ref 50), some (zi 1), some (zi i), some (zl v), none, some (zi (-11)), none]) gi_252_6 rfl ?_
  refine z_iload5 gi_252_8 ?_
  refine z_if_geF gi_252_10 zrn_11 (by decide) ?_
  refine z_iload5 gi_252_13 ?_
  refine z_iret gi_252_15 gr_252 ?_
  refine ⟨?_, ?_⟩
  · first | rfl | exact congrArg (fun v => some (zi v)) (by omega) | (exfalso; omega)
  · exact hr
theorem st_element_11 {X : Nat × (Nat → Int32)} {d : Nat} {J M : zA} {R : zR} {i : Int} (hr : Rel X J M R) (hi : -2147483648 ≤ i ∧ i < 2147483648) (hh : J 40 0 = 1) : zW X (d + 20) 139 0 (gEn 139 [(.ref 0), (zi 1), (zi i)]) [] J M R (stL X (d + 20) 253 [(zi 1), (zi i)]) := by
  have hr0 := hr
  obtain ⟨hR, hG, hY, hD, hP, hC, hAc, hS, hTp, hX, hW⟩ := hr0
  have hRr : zRoR R := zRoR_of hR
  have hA0 := hAc
  obtain ⟨a1, a2, a3, a4, a5, a6⟩ := hA0
  have e83 : J 83 1 = J 40 1 := (hS 1 (by decide) (by decide)).1.symm.trans (cH_1 hh)
  have s3 : 0 ≤ J 40 2 ∧ J 40 2 ≤ 4 := (hS 1 (by decide) (by decide)).2.2.1
  have s4 : 0 ≤ J 40 3 ∧ J 40 3 ≤ 60 := (hS 1 (by decide) (by decide)).2.2.2.1
  have s5 : 0 ≤ J 40 1 ∧ J 40 1 < J 34 1 := (hS 1 (by decide) (by decide)).2.2.2.2.1 hh
  show zW _ _ _ _ [some (.ref 0), some (zi 1), some (zi i)] _ _ _ _ _
  refine z_iload1 gi_139_0 ?_
  refine z_cS1 gi_139_1 (Nat.le_of_ble_eq_true rfl) gc_143_I ?_
  refine z_iload0 gi_143_0 ?_
  refine z_if_ltF gi_143_1 zr_1 (by decide) ?_
  refine z_iload0 gi_143_4 ?_
  refine z_pushJ gp_143_5 ?_
  refine z_icmp_geF gi_143_7 zr_1 zr_6 (by decide) ?_
  refine z_pushJ gp_143_10 ?_
  refine z_goto gi_143_11 ?_
  refine z_bret1 gi_143_15 gr_143 ?_
  show zW _ _ _ _ _ _ _ _ _ _
  refine z_if_eqF gi_139_4 zr_1 (by decide) ?_
  refine z_aload0 gi_139_7 ?_
  refine z_getR (r := 37) gi_139_8 gk_0 (hR _ rm_0_11) ?_
  refine z_iload1 gi_139_11 ?_
  refine z_aald (r := 40) gi_139_12 rfl (by decide) (by decide) (hR _ rm_37_1) ?_
  refine z_iload2 gi_139_13 ?_
  refine z_cV1 gi_139_14 gk_40 go_70 (Nat.le_of_ble_eq_true rfl) gc_70_RI ?_
  refine z_aload0 gi_70_0 ?_
  refine z_getI (v := 1) gi_70_1 gk_40 (hh) ?_
  refine z_if_neT gi_70_4 zr_1 (by decide) ?_
  refine z_aload0 gi_70_10 ?_
  refine z_getI (v := 1) gi_70_11 gk_40 (hh) ?_
  refine z_pushJ gp_70_14 ?_
  refine z_icmp_eqF gi_70_15 zr_1 zr_2 (by decide) ?_
  refine z_pushJ gp_70_18 ?_
  refine z_iret gi_70_20 gr_70 ?_
  show zW _ _ _ _ _ _ _ _ _ _
  refine z_if_geF gi_139_17 zrn_12 (by decide) ?_
  refine z_pushL (z := (-9223372036854775808)) gi_139_20 rfl ?_
  refine z_lret gi_139_23 gr_139 ?_
  refine ⟨_, rfl, ?_⟩
  show zW _ _ _ _ [some (.ref 50), some (zi 1), some (zi i)] _ _ _ _ _
  refine z_aload0 gi_253_0 ?_
  refine z_iload1 gi_253_1 ?_
  refine z_iload2 gi_253_2 ?_
  refine z_cV2 gi_253_3 gk_50 go_251 (Nat.le_of_ble_eq_true rfl) gc_251_RII ?_
  refine z_iload1 gi_251_0 ?_
  refine z_cS1 gi_251_1 (Nat.le_of_ble_eq_true rfl) gc_248_I ?_
  refine z_iload0 gi_248_0 ?_
  refine z_pushJ gp_248_1 ?_
  refine z_pushJ gp_248_2 ?_
  refine z_cS3 gi_248_3 (Nat.le_of_ble_eq_true rfl) gc_148_III ?_
  refine z_iload0 gi_148_0 ?_
  refine z_iload1 gi_148_1 ?_
  refine z_icmp_ltF gi_148_2 zr_1 zr_0 (by decide) ?_
  refine z_iload0 gi_148_5 ?_
  refine z_iload2 gi_148_6 ?_
  refine z_icmp_gtF gi_148_7 zr_1 zr_5 (by decide) ?_
  refine z_pushJ gp_148_10 ?_
  refine z_goto gi_148_11 ?_
  refine z_bret1 gi_148_15 gr_148 ?_
  show zW _ _ _ _ _ _ _ _ _ _
  refine z_bret1 gi_248_6 gr_248 ?_
  show zW _ _ _ _ _ _ _ _ _ _
  refine z_if_neT gi_251_4 zr_1 (by decide) ?_
  refine z_aload0 gi_251_9 ?_
  refine z_getR (r := 83) gi_251_10 gk_50 (hRr _ rm_50_58 (by decide)) ?_
  refine z_iload1 gi_251_13 ?_
  refine z_iald (v := J 40 1) gi_251_14 gk_83 (by decide) (by decide) (e83) ?_
  refine z_pushJ gp_251_15 ?_
  refine z_icmp_ne gi_251_16 (by omega) zrn_1 (fun h1 => ?_) (fun h1 => ?_)
  · refine z_aload0 gi_251_22 ?_
    refine z_getR (r := 83) gi_251_23 gk_50 (hRr _ rm_50_58 (by decide)) ?_
    refine z_iload1 gi_251_26 ?_
    refine z_iald (v := J 40 1) gi_251_27 gk_83 (by decide) (by decide) (e83) ?_
    refine z_if_lt gi_251_28 (by omega) (fun h2 => ?_) (fun h2 => ?_)
    · refine z_iload2 gi_251_34 ?_
      refine z_pushJ gp_251_35 ?_
      refine z_aload0 gi_251_36 ?_
      refine z_getR (r := 84) gi_251_37 gk_50 (hRr _ rm_50_59 (by decide)) ?_
      refine z_iload1 gi_251_40 ?_
      refine z_iald (v := J 84 1) gi_251_41 gk_84 (by decide) (by decide) (rfl) ?_
      refine z_pushJ gp_251_42 ?_
      refine z_isub (e := (J 84 1) - 1) gi_251_43 rfl ?_
      refine z_cS3 gi_251_44 (Nat.le_of_ble_eq_true rfl) gc_148_III ?_
      refine z_iload0 gi_148_0 ?_
      refine z_iload1 gi_148_1 ?_
      refine z_icmp_lt gi_148_2 (by omega) zr_0 (fun h3 => ?_) (fun h3 => ?_)
      · refine z_pushJ gp_148_14 ?_
        refine z_bret0 gi_148_15 gr_148 ?_
        show zW _ _ _ _ _ _ _ _ _ _
        refine z_if_eqT gi_251_47 zr_0 (by decide) ?_
        refine z_pushJ gp_251_54 ?_
        refine z_iret gi_251_56 gr_251 ?_
        show zW _ _ _ _ _ _ _ _ _ _
        refine z_if_geF gi_253_6 zrn_13 (by decide) ?_
        refine z_pushL (z := (-9223372036854775808)) gi_253_9 rfl ?_
        refine z_goto gi_253_12 ?_
        refine z_lret gi_253_26 gr_253 ?_
        refine ⟨?_, ?_⟩
        · first | rfl | exact congrArg (fun v => some (zl v)) (by omega) | (exfalso; omega)
        · exact hr
      · refine z_iload0 gi_148_5 ?_
        refine z_iload2 gi_148_6 ?_
        refine z_icmp_gt gi_148_7 (by omega) (by omega) (fun h4 => ?_) (fun h4 => ?_)
        · refine z_pushJ gp_148_14 ?_
          refine z_bret0 gi_148_15 gr_148 ?_
          show zW _ _ _ _ _ _ _ _ _ _
          refine z_if_eqT gi_251_47 zr_0 (by decide) ?_
          refine z_pushJ gp_251_54 ?_
          refine z_iret gi_251_56 gr_251 ?_
          show zW _ _ _ _ _ _ _ _ _ _
          refine z_if_geF gi_253_6 zrn_13 (by decide) ?_
          refine z_pushL (z := (-9223372036854775808)) gi_253_9 rfl ?_
          refine z_goto gi_253_12 ?_
          refine z_lret gi_253_26 gr_253 ?_
          refine ⟨?_, ?_⟩
          · first | rfl | exact congrArg (fun v => some (zl v)) (by omega) | (exfalso; omega)
          · exact hr
        · refine z_pushJ gp_148_10 ?_
          refine z_goto gi_148_11 ?_
          refine z_bret1 gi_148_15 gr_148 ?_
          show zW _ _ _ _ _ _ _ _ _ _
          refine z_if_eqF gi_251_47 zr_1 (by decide) ?_
          refine z_pushJ gp_251_50 ?_
          refine z_goto gi_251_51 ?_
          refine z_iret gi_251_56 gr_251 ?_
          show zW _ _ _ _ _ _ _ _ _ _
          refine z_if_geT gi_253_6 zr_0 (by decide) ?_
          refine z_aload0 gi_253_15 ?_
          refine z_getR (r := 85) gi_253_16 gk_50 (hRr _ rm_50_60 (by decide)) ?_
          refine z_pushJ gp_253_19 ?_
          refine z_iload1 gi_253_21 ?_
          refine z_imul (e := 60) gi_253_22 rfl ?_
          refine z_iload2 gi_253_23 ?_
          refine z_iadd (e := 60 + i) gi_253_24 rfl ?_
          refine z_lald (v := M 85 (60 + i)) gi_253_25 gk_85 (by decide) (by omega) (rfl) ?_
          refine z_lret gi_253_26 gr_253 ?_
          refine ⟨?_, ?_⟩
          · first | rfl | exact congrArg (fun v => some (zl v)) (by omega) | (exfalso; omega)
          · exact hr
    · refine z_pushJ gp_251_31 ?_
      refine z_iret gi_251_33 gr_251 ?_
      show zW _ _ _ _ _ _ _ _ _ _
      refine z_if_geF gi_253_6 zrn_12 (by decide) ?_
      refine z_pushL (z := (-9223372036854775808)) gi_253_9 rfl ?_
      refine z_goto gi_253_12 ?_
      refine z_lret gi_253_26 gr_253 ?_
      refine ⟨?_, ?_⟩
      · first | rfl | exact congrArg (fun v => some (zl v)) (by omega) | (exfalso; omega)
      · exact hr
  · refine z_pushJ gp_251_19 ?_
    refine z_iret gi_251_21 gr_251 ?_
    show zW _ _ _ _ _ _ _ _ _ _
    refine z_if_geF gi_253_6 zrn_11 (by decide) ?_
    refine z_pushL (z := (-9223372036854775808)) gi_253_9 rfl ?_
    refine z_goto gi_253_12 ?_
    refine z_lret gi_253_26 gr_253 ?_
    refine ⟨?_, ?_⟩
    · first | rfl | exact congrArg (fun v => some (zl v)) (by omega) | (exfalso; omega)
    · exact hr
theorem st_put_11 {X : Nat × (Nat → Int32)} {d : Nat} {J M : zA} {R : zR} {i v : Int} (hr : Rel X J M R) (hi : -2147483648 ≤ i ∧ i < 2147483648) (hv : -9223372036854775808 ≤ v ∧ v < 9223372036854775808) (hh : J 40 0 = 1) : zW X (d + 20) 138 0 (gEn 138 [(.ref 0), (zi 1), (zi i), (zl v)]) [] J M R (stP X (d + 20) 252 [(zi 1), (zi i), (zl v)]) := by
  have hr0 := hr
  obtain ⟨hR, hG, hY, hD, hP, hC, hAc, hS, hTp, hX, hW⟩ := hr0
  have hRr : zRoR R := zRoR_of hR
  have hA0 := hAc
  obtain ⟨a1, a2, a3, a4, a5, a6⟩ := hA0
  have e83 : J 83 1 = J 40 1 := (hS 1 (by decide) (by decide)).1.symm.trans (cH_1 hh)
  have s3 : 0 ≤ J 40 2 ∧ J 40 2 ≤ 4 := (hS 1 (by decide) (by decide)).2.2.1
  have s4 : 0 ≤ J 40 3 ∧ J 40 3 ≤ 60 := (hS 1 (by decide) (by decide)).2.2.2.1
  have s5 : 0 ≤ J 40 1 ∧ J 40 1 < J 34 1 := (hS 1 (by decide) (by decide)).2.2.2.2.1 hh
  show zW _ _ _ _ [some (.ref 0), some (zi 1), some (zi i), some (zl v), none, none] _ _ _ _ _
  refine z_iload1 gi_138_0 ?_
  refine z_cS1 gi_138_1 (Nat.le_of_ble_eq_true rfl) gc_143_I ?_
  refine z_iload0 gi_143_0 ?_
  refine z_if_ltF gi_143_1 zr_1 (by decide) ?_
  refine z_iload0 gi_143_4 ?_
  refine z_pushJ gp_143_5 ?_
  refine z_icmp_geF gi_143_7 zr_1 zr_6 (by decide) ?_
  refine z_pushJ gp_143_10 ?_
  refine z_goto gi_143_11 ?_
  refine z_bret1 gi_143_15 gr_143 ?_
  show zW _ _ _ _ _ _ _ _ _ _
  refine z_if_neT gi_138_4 zr_1 (by decide) ?_
  refine z_aload0 gi_138_9 ?_
  refine z_getR (r := 37) gi_138_10 gk_0 (hR _ rm_0_11) ?_
  refine z_iload1 gi_138_13 ?_
  refine z_aald (r := 40) gi_138_14 rfl (by decide) (by decide) (hR _ rm_37_1) ?_
  refine z_iload2 gi_138_15 ?_
  refine z_cV1 gi_138_16 gk_40 go_70 (Nat.le_of_ble_eq_true rfl) gc_70_RI ?_
  refine z_aload0 gi_70_0 ?_
  refine z_getI (v := 1) gi_70_1 gk_40 (hh) ?_
  refine z_if_neT gi_70_4 zr_1 (by decide) ?_
  refine z_aload0 gi_70_10 ?_
  refine z_getI (v := 1) gi_70_11 gk_40 (hh) ?_
  refine z_pushJ gp_70_14 ?_
  refine z_icmp_eqF gi_70_15 zr_1 zr_2 (by decide) ?_
  refine z_pushJ gp_70_18 ?_
  refine z_iret gi_70_20 gr_70 ?_
  show zW _ _ _ _ _ _ _ _ _ _
  refine z_istore (ls1 := [some (.ref 0), some (zi 1), some (zi i), some (zl v), none, some (zi (-12))]) gi_138_19 rfl ?_
  refine z_iload5 gi_138_21 ?_
  refine z_if_geF gi_138_23 zrn_12 (by decide) ?_
  refine z_iload5 gi_138_26 ?_
  refine z_iret gi_138_28 gr_138 ?_
  refine ⟨_, rfl, ?_⟩
  show zW _ _ _ _ [some (.ref 50), some (zi 1), some (zi i), some (zl v), none, none, none] _ _ _ _ _
  refine z_aload0 gi_252_0 ?_
  refine z_iload1 gi_252_1 ?_
  refine z_iload2 gi_252_2 ?_
  refine z_cV2 gi_252_3 gk_50 go_251 (Nat.le_of_ble_eq_true rfl) gc_251_RII ?_
  refine z_iload1 gi_251_0 ?_
  refine z_cS1 gi_251_1 (Nat.le_of_ble_eq_true rfl) gc_248_I ?_
  refine z_iload0 gi_248_0 ?_
  refine z_pushJ gp_248_1 ?_
  refine z_pushJ gp_248_2 ?_
  refine z_cS3 gi_248_3 (Nat.le_of_ble_eq_true rfl) gc_148_III ?_
  refine z_iload0 gi_148_0 ?_
  refine z_iload1 gi_148_1 ?_
  refine z_icmp_ltF gi_148_2 zr_1 zr_0 (by decide) ?_
  refine z_iload0 gi_148_5 ?_
  refine z_iload2 gi_148_6 ?_
  refine z_icmp_gtF gi_148_7 zr_1 zr_5 (by decide) ?_
  refine z_pushJ gp_148_10 ?_
  refine z_goto gi_148_11 ?_
  refine z_bret1 gi_148_15 gr_148 ?_
  show zW _ _ _ _ _ _ _ _ _ _
  refine z_bret1 gi_248_6 gr_248 ?_
  show zW _ _ _ _ _ _ _ _ _ _
  refine z_if_neT gi_251_4 zr_1 (by decide) ?_
  refine z_aload0 gi_251_9 ?_
  refine z_getR (r := 83) gi_251_10 gk_50 (hRr _ rm_50_58 (by decide)) ?_
  refine z_iload1 gi_251_13 ?_
  refine z_iald (v := J 40 1) gi_251_14 gk_83 (by decide) (by decide) (e83) ?_
  refine z_pushJ gp_251_15 ?_
  refine z_icmp_ne gi_251_16 (by omega) zrn_1 (fun h1 => ?_) (fun h1 => ?_)
  · refine z_aload0 gi_251_22 ?_
    refine z_getR (r := 83) gi_251_23 gk_50 (hRr _ rm_50_58 (by decide)) ?_
    refine z_iload1 gi_251_26 ?_
    refine z_iald (v := J 40 1) gi_251_27 gk_83 (by decide) (by decide) (e83) ?_
    refine z_if_lt gi_251_28 (by omega) (fun h2 => ?_) (fun h2 => ?_)
    · refine z_iload2 gi_251_34 ?_
      refine z_pushJ gp_251_35 ?_
      refine z_aload0 gi_251_36 ?_
      refine z_getR (r := 84) gi_251_37 gk_50 (hRr _ rm_50_59 (by decide)) ?_
      refine z_iload1 gi_251_40 ?_
      refine z_iald (v := J 84 1) gi_251_41 gk_84 (by decide) (by decide) (rfl) ?_
      refine z_pushJ gp_251_42 ?_
      refine z_isub (e := (J 84 1) - 1) gi_251_43 rfl ?_
      refine z_cS3 gi_251_44 (Nat.le_of_ble_eq_true rfl) gc_148_III ?_
      refine z_iload0 gi_148_0 ?_
      refine z_iload1 gi_148_1 ?_
      refine z_icmp_lt gi_148_2 (by omega) zr_0 (fun h3 => ?_) (fun h3 => ?_)
      · refine z_pushJ gp_148_14 ?_
        refine z_bret0 gi_148_15 gr_148 ?_
        show zW _ _ _ _ _ _ _ _ _ _
        refine z_if_eqT gi_251_47 zr_0 (by decide) ?_
        refine z_pushJ gp_251_54 ?_
        refine z_iret gi_251_56 gr_251 ?_
        show zW _ _ _ _ _ _ _ _ _ _
        refine z_istore (ls1 := [some (.ref 50), some (zi 1), some (zi i), some (zl v), none, some (zi (-13)), none]) gi_252_6 rfl ?_
        refine z_iload5 gi_252_8 ?_
        refine z_if_geF gi_252_10 zrn_13 (by decide) ?_
        refine z_iload5 gi_252_13 ?_
        refine z_iret gi_252_15 gr_252 ?_
        refine ⟨?_, ?_⟩
        · first | rfl | exact congrArg (fun v => some (zi v)) (by omega) | (exfalso; omega)
        · exact hr
      · refine z_iload0 gi_148_5 ?_
        refine z_iload2 gi_148_6 ?_
        refine z_icmp_gt gi_148_7 (by omega) (by omega) (fun h4 => ?_) (fun h4 => ?_)
        · refine z_pushJ gp_148_14 ?_
          refine z_bret0 gi_148_15 gr_148 ?_
          show zW _ _ _ _ _ _ _ _ _ _
          refine z_if_eqT gi_251_47 zr_0 (by decide) ?_
          refine z_pushJ gp_251_54 ?_
          refine z_iret gi_251_56 gr_251 ?_
          show zW _ _ _ _ _ _ _ _ _ _
          refine z_istore (ls1 := [some (.ref 50), some (zi 1), some (zi i), some (zl v), none, some (zi (-13)), none]) gi_252_6 rfl ?_
          refine z_iload5 gi_252_8 ?_
          refine z_if_geF gi_252_10 zrn_13 (by decide) ?_
          refine z_iload5 gi_252_13 ?_
          refine z_iret gi_252_15 gr_252 ?_
          refine ⟨?_, ?_⟩
          · first | rfl | exact congrArg (fun v => some (zi v)) (by omega) | (exfalso; omega)
          · exact hr
        · refine z_pushJ gp_148_10 ?_
          refine z_goto gi_148_11 ?_
          refine z_bret1 gi_148_15 gr_148 ?_
          show zW _ _ _ _ _ _ _ _ _ _
          refine z_if_eqF gi_251_47 zr_1 (by decide) ?_
          refine z_pushJ gp_251_50 ?_
          refine z_goto gi_251_51 ?_
          refine z_iret gi_251_56 gr_251 ?_
          show zW _ _ _ _ _ _ _ _ _ _
          refine z_istore (ls1 := [some (.ref 50), some (zi 1), some (zi i), some (zl v), none, some (zi 0), none]) gi_252_6 rfl ?_
          refine z_iload5 gi_252_8 ?_
          refine z_if_geT gi_252_10 zr_0 (by decide) ?_
          refine z_pushJ gp_252_16 ?_
          refine z_aload0 gi_252_18 ?_
          refine z_getR (r := 83) gi_252_19 gk_50 (hRr _ rm_50_58 (by decide)) ?_
          refine z_iload1 gi_252_22 ?_
          refine z_iald (v := J 40 1) gi_252_23 gk_83 (by decide) (by decide) (e83) ?_
          refine z_isub (e := (-2) - (J 40 1)) gi_252_24 rfl ?_
          refine z_istore (ls1 := [some (.ref 50), some (zi 1), some (zi i), some (zl v), none, some (zi 0), some (zi ((-2) - (J 40 1)))]) gi_252_25 rfl ?_
          refine z_aload0 gi_252_27 ?_
          refine z_getR (r := 85) gi_252_28 gk_50 (hRr _ rm_50_60 (by decide)) ?_
          refine z_pushJ gp_252_31 ?_
          refine z_iload1 gi_252_33 ?_
          refine z_imul (e := 60) gi_252_34 rfl ?_
          refine z_iload2 gi_252_35 ?_
          refine z_iadd (e := 60 + i) gi_252_36 rfl ?_
          refine z_iload6 gi_252_37 ?_
          refine z_if_ne gi_252_39 (by omega) (fun h5 => ?_) (fun h5 => ?_)
          · refine z_iload6 gi_252_49 ?_
            refine z_pushJ gp_252_51 ?_
            refine z_icmp_ne gi_252_52 (by omega) zr_1 (fun h6 => ?_) (fun h6 => ?_)
            · refine z_iload6 gi_252_62 ?_
              refine z_pushJ gp_252_64 ?_
              refine z_icmp_ne gi_252_65 (by omega) zr_2 (fun h7 => ?_) (fun h7 => ?_)
              · refine z_iload6 gi_252_74 ?_
                refine z_pushJ gp_252_76 ?_
                refine z_icmp_ne gi_252_77 (by omega) zr_3 (fun h8 => ?_) (fun h8 => ?_)
                · refine z_lload3 gi_252_84 ?_
                  refine z_pushL (z := 0) gi_252_85 rfl ?_
                  refine z_lcmp_eq gi_252_86 gi_252_87 (by omega) (by omega) (fun h9 => ?_) (fun h9 => ?_)
                  · refine z_pushL (z := 0) gi_252_94 rfl ?_
                    refine z_last (e := 0) gi_252_95 gk_85 (by decide) (by omega) rfl ?_
                    refine z_pushJ gp_252_96 ?_
                    refine z_iret gi_252_97 gr_252 ?_
                    refine ⟨?_, ?_⟩
                    · first | rfl | exact congrArg (fun v => some (zi v)) (by omega) | (exfalso; omega)
                    · exfalso
                      omega
                  · refine z_pushL (z := 1) gi_252_90 rfl ?_
                    refine z_goto gi_252_91 ?_
                    refine z_last (e := 1) gi_252_95 gk_85 (by decide) (by omega) rfl ?_
                    refine z_pushJ gp_252_96 ?_
                    refine z_iret gi_252_97 gr_252 ?_
                    refine ⟨?_, ?_⟩
                    · first | rfl | exact congrArg (fun v => some (zi v)) (by omega) | (exfalso; omega)
                    · exfalso
                      omega
                · refine z_lload3 gi_252_80 ?_
                  refine z_goto gi_252_81 ?_
                  refine z_last (e := v) gi_252_95 gk_85 (by decide) (by omega) rfl ?_
                  refine z_pushJ gp_252_96 ?_
                  refine z_iret gi_252_97 gr_252 ?_
                  refine ⟨?_, ?_⟩
                  · first | rfl | exact congrArg (fun v => some (zi v)) (by omega) | (exfalso; omega)
                  · exfalso
                    omega
              · refine z_lload3 gi_252_68 ?_
                refine z_l2i gi_252_69 ?_
                refine z_topn (e := zn v) rfl ?_
                have q10 := zn_r v
                refine z_i2l gi_252_70 (by omega) ?_
                refine z_goto gi_252_71 ?_
                refine z_last (e := zn v) gi_252_95 gk_85 (by decide) (by omega) rfl ?_
                refine z_pushJ gp_252_96 ?_
                refine z_iret gi_252_97 gr_252 ?_
                refine ⟨?_, ?_⟩
                · first | rfl | exact congrArg (fun v => some (zi v)) (by omega) | (exfalso; omega)
                · exfalso
                  omega
            · refine z_lload3 gi_252_55 ?_
              refine z_l2i gi_252_56 ?_
              refine z_i2s (e := zh v) gi_252_57 rfl ?_
              have q11 := zh_r v
              refine z_i2l gi_252_58 (by omega) ?_
              refine z_goto gi_252_59 ?_
              refine z_last (e := zh v) gi_252_95 gk_85 (by decide) (by omega) rfl ?_
              refine z_pushJ gp_252_96 ?_
              refine z_iret gi_252_97 gr_252 ?_
              refine ⟨?_, ?_⟩
              · first | rfl | exact congrArg (fun v => some (zi v)) (by omega) | (exfalso; omega)
              · exfalso
                omega
          · refine z_lload3 gi_252_42 ?_
            refine z_l2i gi_252_43 ?_
            refine z_i2b (e := zb v) gi_252_44 rfl ?_
            have q12 := zb_r v
            refine z_i2l gi_252_45 (by omega) ?_
            refine z_goto gi_252_46 ?_
            refine z_last (e := zb v) gi_252_95 gk_85 (by decide) (by omega) rfl ?_
            refine z_pushJ gp_252_96 ?_
            refine z_iret gi_252_97 gr_252 ?_
            refine ⟨?_, ?_⟩
            · first | rfl | exact congrArg (fun v => some (zi v)) (by omega) | (exfalso; omega)
            · exfalso
              omega
    · refine z_pushJ gp_251_31 ?_
      refine z_iret gi_251_33 gr_251 ?_
      show zW _ _ _ _ _ _ _ _ _ _
      refine z_istore (ls1 := [some (.ref 50), some (zi 1), some (zi i), some (zl v), none, some (zi (-12)), none]) gi_252_6 rfl ?_
      refine z_iload5 gi_252_8 ?_
      refine z_if_geF gi_252_10 zrn_12 (by decide) ?_
      refine z_iload5 gi_252_13 ?_
      refine z_iret gi_252_15 gr_252 ?_
      refine ⟨?_, ?_⟩
      · first | rfl | exact congrArg (fun v => some (zi v)) (by omega) | (exfalso; omega)
      · exact hr
  · refine z_pushJ gp_251_19 ?_
    refine z_iret gi_251_21 gr_251 ?_
    show zW _ _ _ _ _ _ _ _ _ _
    refine z_istore (ls1 := [some (.ref 50), some (zi 1), some (zi i), some (zl v), none, some (zi (-11)), none]) gi_252_6 rfl ?_
    refine z_iload5 gi_252_8 ?_
    refine z_if_geF gi_252_10 zrn_11 (by decide) ?_
    refine z_iload5 gi_252_13 ?_
    refine z_iret gi_252_15 gr_252 ?_
    refine ⟨?_, ?_⟩
    · first | rfl | exact congrArg (fun v => some (zi v)) (by omega) | (exfalso; omega)
    · exact hr
theorem st_element_12 {X : Nat × (Nat → Int32)} {d : Nat} {J M : zA} {R : zR} {i : Int} (hr : Rel X J M R) (hi : -2147483648 ≤ i ∧ i < 2147483648) (hh : J 40 0 = 2) : zW X (d + 20) 139 0 (gEn 139 [(.ref 0), (zi 1), (zi i)]) [] J M R (stL X (d + 20) 253 [(zi 1), (zi i)]) := by
  have hr0 := hr
  obtain ⟨hR, hG, hY, hD, hP, hC, hAc, hS, hTp, hX, hW⟩ := hr0
  have hRr : zRoR R := zRoR_of hR
  have hA0 := hAc
  obtain ⟨a1, a2, a3, a4, a5, a6⟩ := hA0
  have e83 : J 83 1 = -2 - J 40 2 := (hS 1 (by decide) (by decide)).1.symm.trans (cH_2 hh)
  have s3 : 0 ≤ J 40 2 ∧ J 40 2 ≤ 4 := (hS 1 (by decide) (by decide)).2.2.1
  have s4 : 0 ≤ J 40 3 ∧ J 40 3 ≤ 60 := (hS 1 (by decide) (by decide)).2.2.2.1
  have s6 := (hS 1 (by decide) (by decide)).2.2.2.2.2 hh
  have s7 : J 84 1 = J 40 3 := s6.1.symm
  have s8 : ∀ i, 0 ≤ i → i < J 40 3 → M 41 i = M 85 (60 + i) := s6.2.1
  show zW _ _ _ _ [some (.ref 0), some (zi 1), some (zi i)] _ _ _ _ _
  refine z_iload1 gi_139_0 ?_
  refine z_cS1 gi_139_1 (Nat.le_of_ble_eq_true rfl) gc_143_I ?_
  refine z_iload0 gi_143_0 ?_
  refine z_if_ltF gi_143_1 zr_1 (by decide) ?_
  refine z_iload0 gi_143_4 ?_
  refine z_pushJ gp_143_5 ?_
  refine z_icmp_geF gi_143_7 zr_1 zr_6 (by decide) ?_
  refine z_pushJ gp_143_10 ?_
  refine z_goto gi_143_11 ?_
  refine z_bret1 gi_143_15 gr_143 ?_
  show zW _ _ _ _ _ _ _ _ _ _
  refine z_if_eqF gi_139_4 zr_1 (by decide) ?_
  refine z_aload0 gi_139_7 ?_
  refine z_getR (r := 37) gi_139_8 gk_0 (hR _ rm_0_11) ?_
  refine z_iload1 gi_139_11 ?_
  refine z_aald (r := 40) gi_139_12 rfl (by decide) (by decide) (hR _ rm_37_1) ?_
  refine z_iload2 gi_139_13 ?_
  refine z_cV1 gi_139_14 gk_40 go_70 (Nat.le_of_ble_eq_true rfl) gc_70_RI ?_
  refine z_aload0 gi_70_0 ?_
  refine z_getI (v := 2) gi_70_1 gk_40 (hh) ?_
  refine z_if_neT gi_70_4 zr_2 (by decide) ?_
  refine z_aload0 gi_70_10 ?_
  refine z_getI (v := 2) gi_70_11 gk_40 (hh) ?_
  refine z_pushJ gp_70_14 ?_
  refine z_icmp_eqT gi_70_15 zr_2 zr_2 (by decide) ?_
  refine z_iload1 gi_70_21 ?_
  refine z_if_lt gi_70_22 (by omega) (fun h1 => ?_) (fun h1 => ?_)
  · refine z_pushJ gp_70_37 ?_
    refine z_iret gi_70_39 gr_70 ?_
    show zW _ _ _ _ _ _ _ _ _ _
    refine z_if_geF gi_139_17 zrn_13 (by decide) ?_
    refine z_pushL (z := (-9223372036854775808)) gi_139_20 rfl ?_
    refine z_lret gi_139_23 gr_139 ?_
    refine ⟨_, rfl, ?_⟩
    show zW _ _ _ _ [some (.ref 50), some (zi 1), some (zi i)] _ _ _ _ _
    refine z_aload0 gi_253_0 ?_
    refine z_iload1 gi_253_1 ?_
    refine z_iload2 gi_253_2 ?_
    refine z_cV2 gi_253_3 gk_50 go_251 (Nat.le_of_ble_eq_true rfl) gc_251_RII ?_
    refine z_iload1 gi_251_0 ?_
    refine z_cS1 gi_251_1 (Nat.le_of_ble_eq_true rfl) gc_248_I ?_
    refine z_iload0 gi_248_0 ?_
    refine z_pushJ gp_248_1 ?_
    refine z_pushJ gp_248_2 ?_
    refine z_cS3 gi_248_3 (Nat.le_of_ble_eq_true rfl) gc_148_III ?_
    refine z_iload0 gi_148_0 ?_
    refine z_iload1 gi_148_1 ?_
    refine z_icmp_ltF gi_148_2 zr_1 zr_0 (by decide) ?_
    refine z_iload0 gi_148_5 ?_
    refine z_iload2 gi_148_6 ?_
    refine z_icmp_gtF gi_148_7 zr_1 zr_5 (by decide) ?_
    refine z_pushJ gp_148_10 ?_
    refine z_goto gi_148_11 ?_
    refine z_bret1 gi_148_15 gr_148 ?_
    show zW _ _ _ _ _ _ _ _ _ _
    refine z_bret1 gi_248_6 gr_248 ?_
    show zW _ _ _ _ _ _ _ _ _ _
    refine z_if_neT gi_251_4 zr_1 (by decide) ?_
    refine z_aload0 gi_251_9 ?_
    refine z_getR (r := 83) gi_251_10 gk_50 (hRr _ rm_50_58 (by decide)) ?_
    refine z_iload1 gi_251_13 ?_
    refine z_iald (v := (-2) - (J 40 2)) gi_251_14 gk_83 (by decide) (by decide) (e83) ?_
    refine z_pushJ gp_251_15 ?_
    refine z_icmp_ne gi_251_16 (by omega) zrn_1 (fun h2 => ?_) (fun h2 => ?_)
    · refine z_aload0 gi_251_22 ?_
      refine z_getR (r := 83) gi_251_23 gk_50 (hRr _ rm_50_58 (by decide)) ?_
      refine z_iload1 gi_251_26 ?_
      refine z_iald (v := (-2) - (J 40 2)) gi_251_27 gk_83 (by decide) (by decide) (e83) ?_
      refine z_if_lt gi_251_28 (by omega) (fun h3 => ?_) (fun h3 => ?_)
      · refine z_iload2 gi_251_34 ?_
        refine z_pushJ gp_251_35 ?_
        refine z_aload0 gi_251_36 ?_
        refine z_getR (r := 84) gi_251_37 gk_50 (hRr _ rm_50_59 (by decide)) ?_
        refine z_iload1 gi_251_40 ?_
        refine z_iald (v := J 40 3) gi_251_41 gk_84 (by decide) (by decide) (s7) ?_
        refine z_pushJ gp_251_42 ?_
        refine z_isub (e := (J 40 3) - 1) gi_251_43 rfl ?_
        refine z_cS3 gi_251_44 (Nat.le_of_ble_eq_true rfl) gc_148_III ?_
        refine z_iload0 gi_148_0 ?_
        refine z_iload1 gi_148_1 ?_
        refine z_icmp_ltT gi_148_2 (by omega) zr_0 (by omega) ?_
        refine z_pushJ gp_148_14 ?_
        refine z_bret0 gi_148_15 gr_148 ?_
        show zW _ _ _ _ _ _ _ _ _ _
        refine z_if_eqT gi_251_47 zr_0 (by decide) ?_
        refine z_pushJ gp_251_54 ?_
        refine z_iret gi_251_56 gr_251 ?_
        show zW _ _ _ _ _ _ _ _ _ _
        refine z_if_geF gi_253_6 zrn_13 (by decide) ?_
        refine z_pushL (z := (-9223372036854775808)) gi_253_9 rfl ?_
        refine z_goto gi_253_12 ?_
        refine z_lret gi_253_26 gr_253 ?_
        refine ⟨?_, ?_⟩
        · first | rfl | exact congrArg (fun v => some (zl v)) (by omega) | (exfalso; omega)
        · exact hr
      · refine z_pushJ gp_251_31 ?_
        refine z_iret gi_251_33 gr_251 ?_
        show zW _ _ _ _ _ _ _ _ _ _
        refine z_if_geF gi_253_6 zrn_12 (by decide) ?_
        refine z_pushL (z := (-9223372036854775808)) gi_253_9 rfl ?_
        refine z_goto gi_253_12 ?_
        refine z_lret gi_253_26 gr_253 ?_
        refine ⟨?_, ?_⟩
        · first | rfl | exact congrArg (fun v => some (zl v)) (by omega) | (exfalso; omega)
        · exact hr
    · refine z_pushJ gp_251_19 ?_
      refine z_iret gi_251_21 gr_251 ?_
      show zW _ _ _ _ _ _ _ _ _ _
      refine z_if_geF gi_253_6 zrn_11 (by decide) ?_
      refine z_pushL (z := (-9223372036854775808)) gi_253_9 rfl ?_
      refine z_goto gi_253_12 ?_
      refine z_lret gi_253_26 gr_253 ?_
      refine ⟨?_, ?_⟩
      · first | rfl | exact congrArg (fun v => some (zl v)) (by omega) | (exfalso; omega)
      · exact hr
  · refine z_iload1 gi_70_25 ?_
    refine z_aload0 gi_70_26 ?_
    refine z_getI (v := J 40 3) gi_70_27 gk_40 (rfl) ?_
    refine z_icmp_ge gi_70_30 (by omega) (by omega) (fun h2 => ?_) (fun h2 => ?_)
    · refine z_pushJ gp_70_37 ?_
      refine z_iret gi_70_39 gr_70 ?_
      show zW _ _ _ _ _ _ _ _ _ _
      refine z_if_geF gi_139_17 zrn_13 (by decide) ?_
      refine z_pushL (z := (-9223372036854775808)) gi_139_20 rfl ?_
      refine z_lret gi_139_23 gr_139 ?_
      refine ⟨_, rfl, ?_⟩
      show zW _ _ _ _ [some (.ref 50), some (zi 1), some (zi i)] _ _ _ _ _
      refine z_aload0 gi_253_0 ?_
      refine z_iload1 gi_253_1 ?_
      refine z_iload2 gi_253_2 ?_
      refine z_cV2 gi_253_3 gk_50 go_251 (Nat.le_of_ble_eq_true rfl) gc_251_RII ?_
      refine z_iload1 gi_251_0 ?_
      refine z_cS1 gi_251_1 (Nat.le_of_ble_eq_true rfl) gc_248_I ?_
      refine z_iload0 gi_248_0 ?_
      refine z_pushJ gp_248_1 ?_
      refine z_pushJ gp_248_2 ?_
      refine z_cS3 gi_248_3 (Nat.le_of_ble_eq_true rfl) gc_148_III ?_
      refine z_iload0 gi_148_0 ?_
      refine z_iload1 gi_148_1 ?_
      refine z_icmp_ltF gi_148_2 zr_1 zr_0 (by decide) ?_
      refine z_iload0 gi_148_5 ?_
      refine z_iload2 gi_148_6 ?_
      refine z_icmp_gtF gi_148_7 zr_1 zr_5 (by decide) ?_
      refine z_pushJ gp_148_10 ?_
      refine z_goto gi_148_11 ?_
      refine z_bret1 gi_148_15 gr_148 ?_
      show zW _ _ _ _ _ _ _ _ _ _
      refine z_bret1 gi_248_6 gr_248 ?_
      show zW _ _ _ _ _ _ _ _ _ _
      refine z_if_neT gi_251_4 zr_1 (by decide) ?_
      refine z_aload0 gi_251_9 ?_
      refine z_getR (r := 83) gi_251_10 gk_50 (hRr _ rm_50_58 (by decide)) ?_
      refine z_iload1 gi_251_13 ?_
      refine z_iald (v := (-2) - (J 40 2)) gi_251_14 gk_83 (by decide) (by decide) (e83) ?_
      refine z_pushJ gp_251_15 ?_
      refine z_icmp_ne gi_251_16 (by omega) zrn_1 (fun h3 => ?_) (fun h3 => ?_)
      · refine z_aload0 gi_251_22 ?_
        refine z_getR (r := 83) gi_251_23 gk_50 (hRr _ rm_50_58 (by decide)) ?_
        refine z_iload1 gi_251_26 ?_
        refine z_iald (v := (-2) - (J 40 2)) gi_251_27 gk_83 (by decide) (by decide) (e83) ?_
        refine z_if_lt gi_251_28 (by omega) (fun h4 => ?_) (fun h4 => ?_)
        · refine z_iload2 gi_251_34 ?_
          refine z_pushJ gp_251_35 ?_
          refine z_aload0 gi_251_36 ?_
          refine z_getR (r := 84) gi_251_37 gk_50 (hRr _ rm_50_59 (by decide)) ?_
          refine z_iload1 gi_251_40 ?_
          refine z_iald (v := J 40 3) gi_251_41 gk_84 (by decide) (by decide) (s7) ?_
          refine z_pushJ gp_251_42 ?_
          refine z_isub (e := (J 40 3) - 1) gi_251_43 rfl ?_
          refine z_cS3 gi_251_44 (Nat.le_of_ble_eq_true rfl) gc_148_III ?_
          refine z_iload0 gi_148_0 ?_
          refine z_iload1 gi_148_1 ?_
          refine z_icmp_ltF gi_148_2 (by omega) zr_0 (by omega) ?_
          refine z_iload0 gi_148_5 ?_
          refine z_iload2 gi_148_6 ?_
          refine z_icmp_gtT gi_148_7 (by omega) (by omega) (by omega) ?_
          refine z_pushJ gp_148_14 ?_
          refine z_bret0 gi_148_15 gr_148 ?_
          show zW _ _ _ _ _ _ _ _ _ _
          refine z_if_eqT gi_251_47 zr_0 (by decide) ?_
          refine z_pushJ gp_251_54 ?_
          refine z_iret gi_251_56 gr_251 ?_
          show zW _ _ _ _ _ _ _ _ _ _
          refine z_if_geF gi_253_6 zrn_13 (by decide) ?_
          refine z_pushL (z := (-9223372036854775808)) gi_253_9 rfl ?_
          refine z_goto gi_253_12 ?_
          refine z_lret gi_253_26 gr_253 ?_
          refine ⟨?_, ?_⟩
          · first | rfl | exact congrArg (fun v => some (zl v)) (by omega) | (exfalso; omega)
          · exact hr
        · refine z_pushJ gp_251_31 ?_
          refine z_iret gi_251_33 gr_251 ?_
          show zW _ _ _ _ _ _ _ _ _ _
          refine z_if_geF gi_253_6 zrn_12 (by decide) ?_
          refine z_pushL (z := (-9223372036854775808)) gi_253_9 rfl ?_
          refine z_goto gi_253_12 ?_
          refine z_lret gi_253_26 gr_253 ?_
          refine ⟨?_, ?_⟩
          · first | rfl | exact congrArg (fun v => some (zl v)) (by omega) | (exfalso; omega)
          · exact hr
      · refine z_pushJ gp_251_19 ?_
        refine z_iret gi_251_21 gr_251 ?_
        show zW _ _ _ _ _ _ _ _ _ _
        refine z_if_geF gi_253_6 zrn_11 (by decide) ?_
        refine z_pushL (z := (-9223372036854775808)) gi_253_9 rfl ?_
        refine z_goto gi_253_12 ?_
        refine z_lret gi_253_26 gr_253 ?_
        refine ⟨?_, ?_⟩
        · first | rfl | exact congrArg (fun v => some (zl v)) (by omega) | (exfalso; omega)
        · exact hr
    · refine z_pushJ gp_70_33 ?_
      refine z_goto gi_70_34 ?_
      refine z_iret gi_70_39 gr_70 ?_
      show zW _ _ _ _ _ _ _ _ _ _
      refine z_if_geT gi_139_17 zr_0 (by decide) ?_
      refine z_aload0 gi_139_24 ?_
      refine z_getR (r := 37) gi_139_25 gk_0 (hR _ rm_0_11) ?_
      refine z_iload1 gi_139_28 ?_
      refine z_aald (r := 40) gi_139_29 rfl (by decide) (by decide) (hR _ rm_37_1) ?_
      refine z_iload2 gi_139_30 ?_
      refine z_cV1 gi_139_31 gk_40 go_72 (Nat.le_of_ble_eq_true rfl) gc_72_RI ?_
      refine z_iload1 gi_72_0 ?_
      refine z_if_ltF gi_72_1 (by omega) (by omega) ?_
      refine z_iload1 gi_72_4 ?_
      refine z_aload0 gi_72_5 ?_
      refine z_getI (v := J 40 3) gi_72_6 gk_40 (rfl) ?_
      refine z_icmp_geF gi_72_9 (by omega) (by omega) (by omega) ?_
      refine z_aload0 gi_72_12 ?_
      refine z_getR (r := 41) gi_72_13 gk_40 (hR _ rm_40_4) ?_
      refine z_iload1 gi_72_16 ?_
      refine z_lald (v := M 41 i) gi_72_17 gk_41 (by decide) (by omega) (rfl) ?_
      refine z_goto gi_72_18 ?_
      refine z_lret gi_72_22 gr_72 ?_
      show zW _ _ _ _ _ _ _ _ _ _
      refine z_lret gi_139_34 gr_139 ?_
      refine ⟨_, rfl, ?_⟩
      show zW _ _ _ _ [some (.ref 50), some (zi 1), some (zi i)] _ _ _ _ _
      refine z_aload0 gi_253_0 ?_
      refine z_iload1 gi_253_1 ?_
      refine z_iload2 gi_253_2 ?_
      refine z_cV2 gi_253_3 gk_50 go_251 (Nat.le_of_ble_eq_true rfl) gc_251_RII ?_
      refine z_iload1 gi_251_0 ?_
      refine z_cS1 gi_251_1 (Nat.le_of_ble_eq_true rfl) gc_248_I ?_
      refine z_iload0 gi_248_0 ?_
      refine z_pushJ gp_248_1 ?_
      refine z_pushJ gp_248_2 ?_
      refine z_cS3 gi_248_3 (Nat.le_of_ble_eq_true rfl) gc_148_III ?_
      refine z_iload0 gi_148_0 ?_
      refine z_iload1 gi_148_1 ?_
      refine z_icmp_ltF gi_148_2 zr_1 zr_0 (by decide) ?_
      refine z_iload0 gi_148_5 ?_
      refine z_iload2 gi_148_6 ?_
      refine z_icmp_gtF gi_148_7 zr_1 zr_5 (by decide) ?_
      refine z_pushJ gp_148_10 ?_
      refine z_goto gi_148_11 ?_
      refine z_bret1 gi_148_15 gr_148 ?_
      show zW _ _ _ _ _ _ _ _ _ _
      refine z_bret1 gi_248_6 gr_248 ?_
      show zW _ _ _ _ _ _ _ _ _ _
      refine z_if_neT gi_251_4 zr_1 (by decide) ?_
      refine z_aload0 gi_251_9 ?_
      refine z_getR (r := 83) gi_251_10 gk_50 (hRr _ rm_50_58 (by decide)) ?_
      refine z_iload1 gi_251_13 ?_
      refine z_iald (v := (-2) - (J 40 2)) gi_251_14 gk_83 (by decide) (by decide) (e83) ?_
      refine z_pushJ gp_251_15 ?_
      refine z_icmp_ne gi_251_16 (by omega) zrn_1 (fun h3 => ?_) (fun h3 => ?_)
      · refine z_aload0 gi_251_22 ?_
        refine z_getR (r := 83) gi_251_23 gk_50 (hRr _ rm_50_58 (by decide)) ?_
        refine z_iload1 gi_251_26 ?_
        refine z_iald (v := (-2) - (J 40 2)) gi_251_27 gk_83 (by decide) (by decide) (e83) ?_
        refine z_if_lt gi_251_28 (by omega) (fun h4 => ?_) (fun h4 => ?_)
        · refine z_iload2 gi_251_34 ?_
          refine z_pushJ gp_251_35 ?_
          refine z_aload0 gi_251_36 ?_
          refine z_getR (r := 84) gi_251_37 gk_50 (hRr _ rm_50_59 (by decide)) ?_
          refine z_iload1 gi_251_40 ?_
          refine z_iald (v := J 40 3) gi_251_41 gk_84 (by decide) (by decide) (s7) ?_
          refine z_pushJ gp_251_42 ?_
          refine z_isub (e := (J 40 3) - 1) gi_251_43 rfl ?_
          refine z_cS3 gi_251_44 (Nat.le_of_ble_eq_true rfl) gc_148_III ?_
          refine z_iload0 gi_148_0 ?_
          refine z_iload1 gi_148_1 ?_
          refine z_icmp_ltF gi_148_2 (by omega) zr_0 (by omega) ?_
          refine z_iload0 gi_148_5 ?_
          refine z_iload2 gi_148_6 ?_
          refine z_icmp_gtF gi_148_7 (by omega) (by omega) (by omega) ?_
          refine z_pushJ gp_148_10 ?_
          refine z_goto gi_148_11 ?_
          refine z_bret1 gi_148_15 gr_148 ?_
          show zW _ _ _ _ _ _ _ _ _ _
          refine z_if_eqF gi_251_47 zr_1 (by decide) ?_
          refine z_pushJ gp_251_50 ?_
          refine z_goto gi_251_51 ?_
          refine z_iret gi_251_56 gr_251 ?_
          show zW _ _ _ _ _ _ _ _ _ _
          refine z_if_geT gi_253_6 zr_0 (by decide) ?_
          refine z_aload0 gi_253_15 ?_
          refine z_getR (r := 85) gi_253_16 gk_50 (hRr _ rm_50_60 (by decide)) ?_
          refine z_pushJ gp_253_19 ?_
          refine z_iload1 gi_253_21 ?_
          refine z_imul (e := 60) gi_253_22 rfl ?_
          refine z_iload2 gi_253_23 ?_
          refine z_iadd (e := 60 + i) gi_253_24 rfl ?_
          refine z_lald (v := M 85 (60 + i)) gi_253_25 gk_85 (by decide) (by omega) (rfl) ?_
          refine z_lret gi_253_26 gr_253 ?_
          refine ⟨?_, ?_⟩
          · first | exact congrArg (fun v => some (zl v)) (s8 i (by omega) (by omega)).symm | (exfalso; omega)
          · exact hr
        · refine z_pushJ gp_251_31 ?_
          refine z_iret gi_251_33 gr_251 ?_
          show zW _ _ _ _ _ _ _ _ _ _
          refine z_if_geF gi_253_6 zrn_12 (by decide) ?_
          refine z_pushL (z := (-9223372036854775808)) gi_253_9 rfl ?_
          refine z_goto gi_253_12 ?_
          refine z_lret gi_253_26 gr_253 ?_
          refine ⟨?_, ?_⟩
          · first | exact congrArg (fun v => some (zl v)) (s8 i (by omega) (by omega)).symm | (exfalso; omega)
          · exact hr
      · refine z_pushJ gp_251_19 ?_
        refine z_iret gi_251_21 gr_251 ?_
        show zW _ _ _ _ _ _ _ _ _ _
        refine z_if_geF gi_253_6 zrn_11 (by decide) ?_
        refine z_pushL (z := (-9223372036854775808)) gi_253_9 rfl ?_
        refine z_goto gi_253_12 ?_
        refine z_lret gi_253_26 gr_253 ?_
        refine ⟨?_, ?_⟩
        · first | exact congrArg (fun v => some (zl v)) (s8 i (by omega) (by omega)).symm | (exfalso; omega)
        · exact hr
theorem st_put_120 {X : Nat × (Nat → Int32)} {d : Nat} {J M : zA} {R : zR} {i v : Int} (hr : Rel X J M R) (hi : -2147483648 ≤ i ∧ i < 2147483648) (hv : -9223372036854775808 ≤ v ∧ v < 9223372036854775808) (hh : J 40 0 = 2) (hso : J 40 2 = 0) : zW X (d + 20) 138 0 (gEn 138 [(.ref 0), (zi 1), (zi i), (zl v)]) [] J M R (stP X (d + 20) 252 [(zi 1), (zi i), (zl v)]) := by
  have hr0 := hr
  obtain ⟨hR, hG, hY, hD, hP, hC, hAc, hS, hTp, hX, hW⟩ := hr0
  have hRr : zRoR R := zRoR_of hR
  have e83 : J 83 1 = -2 - J 40 2 := (hS 1 (by decide) (by decide)).1.symm.trans (cH_2 hh)
  have s3 : 0 ≤ J 40 2 ∧ J 40 2 ≤ 4 := (hS 1 (by decide) (by decide)).2.2.1
  have s4 : 0 ≤ J 40 3 ∧ J 40 3 ≤ 60 := (hS 1 (by decide) (by decide)).2.2.2.1
  have s6 := (hS 1 (by decide) (by decide)).2.2.2.2.2 hh
  have s7 : J 84 1 = J 40 3 := s6.1.symm
  have s8 : ∀ i, 0 ≤ i → i < J 40 3 → M 41 i = M 85 (60 + i) := s6.2.1
  show zW _ _ _ _ [some (.ref 0), some (zi 1), some (zi i), some (zl v), none, none] _ _ _ _ _
  refine z_iload1 gi_138_0 ?_
  refine z_cS1 gi_138_1 (Nat.le_of_ble_eq_true rfl) gc_143_I ?_
  refine z_iload0 gi_143_0 ?_
  refine z_if_ltF gi_143_1 zr_1 (by decide) ?_
  refine z_iload0 gi_143_4 ?_
  refine z_pushJ gp_143_5 ?_
  refine z_icmp_geF gi_143_7 zr_1 zr_6 (by decide) ?_
  refine z_pushJ gp_143_10 ?_
  refine z_goto gi_143_11 ?_
  refine z_bret1 gi_143_15 gr_143 ?_
  show zW _ _ _ _ _ _ _ _ _ _
  refine z_if_neT gi_138_4 zr_1 (by decide) ?_
  refine z_aload0 gi_138_9 ?_
  refine z_getR (r := 37) gi_138_10 gk_0 (hR _ rm_0_11) ?_
  refine z_iload1 gi_138_13 ?_
  refine z_aald (r := 40) gi_138_14 rfl (by decide) (by decide) (hR _ rm_37_1) ?_
  refine z_iload2 gi_138_15 ?_
  refine z_cV1 gi_138_16 gk_40 go_70 (Nat.le_of_ble_eq_true rfl) gc_70_RI ?_
  refine z_aload0 gi_70_0 ?_
  refine z_getI (v := 2) gi_70_1 gk_40 (hh) ?_
  refine z_if_neT gi_70_4 zr_2 (by decide) ?_
  refine z_aload0 gi_70_10 ?_
  refine z_getI (v := 2) gi_70_11 gk_40 (hh) ?_
  refine z_pushJ gp_70_14 ?_
  refine z_icmp_eqT gi_70_15 zr_2 zr_2 (by decide) ?_
  refine z_iload1 gi_70_21 ?_
  refine z_if_lt gi_70_22 (by omega) (fun h1 => ?_) (fun h1 => ?_)
  · refine z_pushJ gp_70_37 ?_
    refine z_iret gi_70_39 gr_70 ?_
    show zW _ _ _ _ _ _ _ _ _ _
    refine z_istore (ls1 := [some (.ref 0), some (zi 1), some (zi i), some (zl v), none, some (zi (-13))]) gi_138_19 rfl ?_
    refine z_iload5 gi_138_21 ?_
    refine z_if_geF gi_138_23 zrn_13 (by decide) ?_
    refine z_iload5 gi_138_26 ?_
    refine z_iret gi_138_28 gr_138 ?_
    refine ⟨_, rfl, ?_⟩
    show zW _ _ _ _ [some (.ref 50), some (zi 1), some (zi i), some (zl v), none, none, none] _ _ _ _ _
    refine z_aload0 gi_252_0 ?_
    refine z_iload1 gi_252_1 ?_
    refine z_iload2 gi_252_2 ?_
    refine z_cV2 gi_252_3 gk_50 go_251 (Nat.le_of_ble_eq_true rfl) gc_251_RII ?_
    refine z_iload1 gi_251_0 ?_
    refine z_cS1 gi_251_1 (Nat.le_of_ble_eq_true rfl) gc_248_I ?_
    refine z_iload0 gi_248_0 ?_
    refine z_pushJ gp_248_1 ?_
    refine z_pushJ gp_248_2 ?_
    refine z_cS3 gi_248_3 (Nat.le_of_ble_eq_true rfl) gc_148_III ?_
    refine z_iload0 gi_148_0 ?_
    refine z_iload1 gi_148_1 ?_
    refine z_icmp_ltF gi_148_2 zr_1 zr_0 (by decide) ?_
    refine z_iload0 gi_148_5 ?_
    refine z_iload2 gi_148_6 ?_
    refine z_icmp_gtF gi_148_7 zr_1 zr_5 (by decide) ?_
    refine z_pushJ gp_148_10 ?_
    refine z_goto gi_148_11 ?_
    refine z_bret1 gi_148_15 gr_148 ?_
    show zW _ _ _ _ _ _ _ _ _ _
    refine z_bret1 gi_248_6 gr_248 ?_
    show zW _ _ _ _ _ _ _ _ _ _
    refine z_if_neT gi_251_4 zr_1 (by decide) ?_
    refine z_aload0 gi_251_9 ?_
    refine z_getR (r := 83) gi_251_10 gk_50 (hRr _ rm_50_58 (by decide)) ?_
    refine z_iload1 gi_251_13 ?_
    refine z_iald (v := (-2)) gi_251_14 gk_83 (by decide) (by decide) ((e83.trans (by rw [hso]; rfl))) ?_
    refine z_pushJ gp_251_15 ?_
    refine z_icmp_neT gi_251_16 zrn_2 zrn_1 (by decide) ?_
    refine z_aload0 gi_251_22 ?_
    refine z_getR (r := 83) gi_251_23 gk_50 (hRr _ rm_50_58 (by decide)) ?_
    refine z_iload1 gi_251_26 ?_
    refine z_iald (v := (-2)) gi_251_27 gk_83 (by decide) (by decide) ((e83.trans (by rw [hso]; rfl))) ?_
    refine z_if_ltT gi_251_28 zrn_2 (by decide) ?_
    refine z_iload2 gi_251_34 ?_
    refine z_pushJ gp_251_35 ?_
    refine z_aload0 gi_251_36 ?_
    refine z_getR (r := 84) gi_251_37 gk_50 (hRr _ rm_50_59 (by decide)) ?_
    refine z_iload1 gi_251_40 ?_
    refine z_iald (v := J 40 3) gi_251_41 gk_84 (by decide) (by decide) (s7) ?_
    refine z_pushJ gp_251_42 ?_
    refine z_isub (e := (J 40 3) - 1) gi_251_43 rfl ?_
    refine z_cS3 gi_251_44 (Nat.le_of_ble_eq_true rfl) gc_148_III ?_
    refine z_iload0 gi_148_0 ?_
    refine z_iload1 gi_148_1 ?_
    refine z_icmp_ltT gi_148_2 (by omega) zr_0 (by omega) ?_
    refine z_pushJ gp_148_14 ?_
    refine z_bret0 gi_148_15 gr_148 ?_
    show zW _ _ _ _ _ _ _ _ _ _
    refine z_if_eqT gi_251_47 zr_0 (by decide) ?_
    refine z_pushJ gp_251_54 ?_
    refine z_iret gi_251_56 gr_251 ?_
    show zW _ _ _ _ _ _ _ _ _ _
    refine z_istore (ls1 := [some (.ref 50), some (zi 1), some (zi i), some (zl v), none, some (zi (-13)), none]) gi_252_6 rfl ?_
    refine z_iload5 gi_252_8 ?_
    refine z_if_geF gi_252_10 zrn_13 (by decide) ?_
    refine z_iload5 gi_252_13 ?_
    refine z_iret gi_252_15 gr_252 ?_
    refine ⟨?_, ?_⟩
    · first | rfl | exact congrArg (fun v => some (zi v)) (by omega) | (exfalso; omega)
    · exact hr
  · refine z_iload1 gi_70_25 ?_
    refine z_aload0 gi_70_26 ?_
    refine z_getI (v := J 40 3) gi_70_27 gk_40 (rfl) ?_
    refine z_icmp_ge gi_70_30 (by omega) (by omega) (fun h2 => ?_) (fun h2 => ?_)
    · refine z_pushJ gp_70_37 ?_
      refine z_iret gi_70_39 gr_70 ?_
      show zW _ _ _ _ _ _ _ _ _ _
      refine z_istore (ls1 := [some (.ref 0), some (zi 1), some (zi i), some (zl v), none, some (zi (-13))]) gi_138_19 rfl ?_
      refine z_iload5 gi_138_21 ?_
      refine z_if_geF gi_138_23 zrn_13 (by decide) ?_
      refine z_iload5 gi_138_26 ?_
      refine z_iret gi_138_28 gr_138 ?_
      refine ⟨_, rfl, ?_⟩
      show zW _ _ _ _ [some (.ref 50), some (zi 1), some (zi i), some (zl v), none, none, none] _ _ _ _ _
      refine z_aload0 gi_252_0 ?_
      refine z_iload1 gi_252_1 ?_
      refine z_iload2 gi_252_2 ?_
      refine z_cV2 gi_252_3 gk_50 go_251 (Nat.le_of_ble_eq_true rfl) gc_251_RII ?_
      refine z_iload1 gi_251_0 ?_
      refine z_cS1 gi_251_1 (Nat.le_of_ble_eq_true rfl) gc_248_I ?_
      refine z_iload0 gi_248_0 ?_
      refine z_pushJ gp_248_1 ?_
      refine z_pushJ gp_248_2 ?_
      refine z_cS3 gi_248_3 (Nat.le_of_ble_eq_true rfl) gc_148_III ?_
      refine z_iload0 gi_148_0 ?_
      refine z_iload1 gi_148_1 ?_
      refine z_icmp_ltF gi_148_2 zr_1 zr_0 (by decide) ?_
      refine z_iload0 gi_148_5 ?_
      refine z_iload2 gi_148_6 ?_
      refine z_icmp_gtF gi_148_7 zr_1 zr_5 (by decide) ?_
      refine z_pushJ gp_148_10 ?_
      refine z_goto gi_148_11 ?_
      refine z_bret1 gi_148_15 gr_148 ?_
      show zW _ _ _ _ _ _ _ _ _ _
      refine z_bret1 gi_248_6 gr_248 ?_
      show zW _ _ _ _ _ _ _ _ _ _
      refine z_if_neT gi_251_4 zr_1 (by decide) ?_
      refine z_aload0 gi_251_9 ?_
      refine z_getR (r := 83) gi_251_10 gk_50 (hRr _ rm_50_58 (by decide)) ?_
      refine z_iload1 gi_251_13 ?_
      refine z_iald (v := (-2)) gi_251_14 gk_83 (by decide) (by decide) ((e83.trans (by rw [hso]; rfl))) ?_
      refine z_pushJ gp_251_15 ?_
      refine z_icmp_neT gi_251_16 zrn_2 zrn_1 (by decide) ?_
      refine z_aload0 gi_251_22 ?_
      refine z_getR (r := 83) gi_251_23 gk_50 (hRr _ rm_50_58 (by decide)) ?_
      refine z_iload1 gi_251_26 ?_
      refine z_iald (v := (-2)) gi_251_27 gk_83 (by decide) (by decide) ((e83.trans (by rw [hso]; rfl))) ?_
      refine z_if_ltT gi_251_28 zrn_2 (by decide) ?_
      refine z_iload2 gi_251_34 ?_
      refine z_pushJ gp_251_35 ?_
      refine z_aload0 gi_251_36 ?_
      refine z_getR (r := 84) gi_251_37 gk_50 (hRr _ rm_50_59 (by decide)) ?_
      refine z_iload1 gi_251_40 ?_
      refine z_iald (v := J 40 3) gi_251_41 gk_84 (by decide) (by decide) (s7) ?_
      refine z_pushJ gp_251_42 ?_
      refine z_isub (e := (J 40 3) - 1) gi_251_43 rfl ?_
      refine z_cS3 gi_251_44 (Nat.le_of_ble_eq_true rfl) gc_148_III ?_
      refine z_iload0 gi_148_0 ?_
      refine z_iload1 gi_148_1 ?_
      refine z_icmp_ltF gi_148_2 (by omega) zr_0 (by omega) ?_
      refine z_iload0 gi_148_5 ?_
      refine z_iload2 gi_148_6 ?_
      refine z_icmp_gtT gi_148_7 (by omega) (by omega) (by omega) ?_
      refine z_pushJ gp_148_14 ?_
      refine z_bret0 gi_148_15 gr_148 ?_
      show zW _ _ _ _ _ _ _ _ _ _
      refine z_if_eqT gi_251_47 zr_0 (by decide) ?_
      refine z_pushJ gp_251_54 ?_
      refine z_iret gi_251_56 gr_251 ?_
      show zW _ _ _ _ _ _ _ _ _ _
      refine z_istore (ls1 := [some (.ref 50), some (zi 1), some (zi i), some (zl v), none, some (zi (-13)), none]) gi_252_6 rfl ?_
      refine z_iload5 gi_252_8 ?_
      refine z_if_geF gi_252_10 zrn_13 (by decide) ?_
      refine z_iload5 gi_252_13 ?_
      refine z_iret gi_252_15 gr_252 ?_
      refine ⟨?_, ?_⟩
      · first | rfl | exact congrArg (fun v => some (zi v)) (by omega) | (exfalso; omega)
      · exact hr
    · refine z_pushJ gp_70_33 ?_
      refine z_goto gi_70_34 ?_
      refine z_iret gi_70_39 gr_70 ?_
      show zW _ _ _ _ _ _ _ _ _ _
      refine z_istore (ls1 := [some (.ref 0), some (zi 1), some (zi i), some (zl v), none, some (zi 0)]) gi_138_19 rfl ?_
      refine z_iload5 gi_138_21 ?_
      refine z_if_geT gi_138_23 zr_0 (by decide) ?_
      refine z_aload0 gi_138_29 ?_
      refine z_getR (r := 37) gi_138_30 gk_0 (hR _ rm_0_11) ?_
      refine z_iload1 gi_138_33 ?_
      refine z_aald (r := 40) gi_138_34 rfl (by decide) (by decide) (hR _ rm_37_1) ?_
      refine z_iload2 gi_138_35 ?_
      refine z_lload3 gi_138_36 ?_
      refine z_callVi (As := [_, _]) (le := [some _, some _, some _, none]) gi_138_37 rfl gk_40 (Nat.le_of_ble_eq_true rfl) (Nat.le_of_ble_eq_true rfl) rfl ?_
      refine z_iload1 gi_73_0 ?_
      refine z_if_ltF gi_73_1 (by omega) (by omega) ?_
      refine z_iload1 gi_73_4 ?_
      refine z_aload0 gi_73_5 ?_
      refine z_getI (v := J 40 3) gi_73_6 gk_40 (rfl) ?_
      refine z_icmp_geF gi_73_9 (by omega) (by omega) (by omega) ?_
      refine z_aload0 gi_73_12 ?_
      refine z_getR (r := 41) gi_73_13 gk_40 (hR _ rm_40_4) ?_
      refine z_iload1 gi_73_16 ?_
      refine z_aload0 gi_73_17 ?_
      refine z_lload2 gi_73_18 ?_
      refine z_callVi (As := [_]) (le := [some _, some _, none]) gi_73_19 rfl gk_40 (Nat.le_of_ble_eq_true rfl) (Nat.le_of_ble_eq_true rfl) rfl ?_
      refine z_aload0 gi_74_0 ?_
      refine z_getI (v := 0) gi_74_1 gk_40 (hso) ?_
      refine z_swI (tg := 40) gi_74_4 (by decide) (T := [((0 : Int), 40), ((1 : Int), 45), ((2 : Int), 50), ((3 : Int), 66), ((4 : Int), 54)]) rfl (by decide) ?_
      refine z_lload1 gi_74_40 ?_
      refine z_l2i gi_74_41 ?_
      refine z_i2b (e := zb v) gi_74_42 rfl ?_
      have q3 := zb_r v
      refine z_i2l gi_74_43 (by omega) ?_
      refine z_lret gi_74_44 gr_74 ?_
      show zW _ _ _ _ _ _ _ _ _ _
      refine z_last (e := zb v) gi_73_22 gk_41 (by decide) (by omega) rfl ?_
      refine z_vret gi_73_23 gr_73 ?_
      show zW _ _ _ _ _ _ _ _ _ _
      refine z_pushJ gp_138_40 ?_
      refine z_iret gi_138_41 gr_138 ?_
      refine ⟨_, rfl, ?_⟩
      show zW _ _ _ _ [some (.ref 50), some (zi 1), some (zi i), some (zl v), none, none, none] _ _ _ _ _
      refine z_aload0 gi_252_0 ?_
      refine z_iload1 gi_252_1 ?_
      refine z_iload2 gi_252_2 ?_
      refine z_cV2 gi_252_3 gk_50 go_251 (Nat.le_of_ble_eq_true rfl) gc_251_RII ?_
      refine z_iload1 gi_251_0 ?_
      refine z_cS1 gi_251_1 (Nat.le_of_ble_eq_true rfl) gc_248_I ?_
      refine z_iload0 gi_248_0 ?_
      refine z_pushJ gp_248_1 ?_
      refine z_pushJ gp_248_2 ?_
      refine z_cS3 gi_248_3 (Nat.le_of_ble_eq_true rfl) gc_148_III ?_
      refine z_iload0 gi_148_0 ?_
      refine z_iload1 gi_148_1 ?_
      refine z_icmp_ltF gi_148_2 zr_1 zr_0 (by decide) ?_
      refine z_iload0 gi_148_5 ?_
      refine z_iload2 gi_148_6 ?_
      refine z_icmp_gtF gi_148_7 zr_1 zr_5 (by decide) ?_
      refine z_pushJ gp_148_10 ?_
      refine z_goto gi_148_11 ?_
      refine z_bret1 gi_148_15 gr_148 ?_
      show zW _ _ _ _ _ _ _ _ _ _
      refine z_bret1 gi_248_6 gr_248 ?_
      show zW _ _ _ _ _ _ _ _ _ _
      refine z_if_neT gi_251_4 zr_1 (by decide) ?_
      refine z_aload0 gi_251_9 ?_
      refine z_getR (r := 83) gi_251_10 gk_50 (hRr _ rm_50_58 (by decide)) ?_
      refine z_iload1 gi_251_13 ?_
      refine z_iald (v := (-2)) gi_251_14 gk_83 (by decide) (by decide) ((e83.trans (by rw [hso]; rfl))) ?_
      refine z_pushJ gp_251_15 ?_
      refine z_icmp_neT gi_251_16 zrn_2 zrn_1 (by decide) ?_
      refine z_aload0 gi_251_22 ?_
      refine z_getR (r := 83) gi_251_23 gk_50 (hRr _ rm_50_58 (by decide)) ?_
      refine z_iload1 gi_251_26 ?_
      refine z_iald (v := (-2)) gi_251_27 gk_83 (by decide) (by decide) ((e83.trans (by rw [hso]; rfl))) ?_
      refine z_if_ltT gi_251_28 zrn_2 (by decide) ?_
      refine z_iload2 gi_251_34 ?_
      refine z_pushJ gp_251_35 ?_
      refine z_aload0 gi_251_36 ?_
      refine z_getR (r := 84) gi_251_37 gk_50 (hRr _ rm_50_59 (by decide)) ?_
      refine z_iload1 gi_251_40 ?_
      refine z_iald (v := J 40 3) gi_251_41 gk_84 (by decide) (by decide) (s7) ?_
      refine z_pushJ gp_251_42 ?_
      refine z_isub (e := (J 40 3) - 1) gi_251_43 rfl ?_
      refine z_cS3 gi_251_44 (Nat.le_of_ble_eq_true rfl) gc_148_III ?_
      refine z_iload0 gi_148_0 ?_
      refine z_iload1 gi_148_1 ?_
      refine z_icmp_ltF gi_148_2 (by omega) zr_0 (by omega) ?_
      refine z_iload0 gi_148_5 ?_
      refine z_iload2 gi_148_6 ?_
      refine z_icmp_gtF gi_148_7 (by omega) (by omega) (by omega) ?_
      refine z_pushJ gp_148_10 ?_
      refine z_goto gi_148_11 ?_
      refine z_bret1 gi_148_15 gr_148 ?_
      show zW _ _ _ _ _ _ _ _ _ _
      refine z_if_eqF gi_251_47 zr_1 (by decide) ?_
      refine z_pushJ gp_251_50 ?_
      refine z_goto gi_251_51 ?_
      refine z_iret gi_251_56 gr_251 ?_
      show zW _ _ _ _ _ _ _ _ _ _
      refine z_istore (ls1 := [some (.ref 50), some (zi 1), some (zi i), some (zl v), none, some (zi 0), none]) gi_252_6 rfl ?_
      refine z_iload5 gi_252_8 ?_
      refine z_if_geT gi_252_10 zr_0 (by decide) ?_
      refine z_pushJ gp_252_16 ?_
      refine z_aload0 gi_252_18 ?_
      refine z_getR (r := 83) gi_252_19 gk_50 (hRr _ rm_50_58 (by decide)) ?_
      refine z_iload1 gi_252_22 ?_
      refine z_iald (v := (-2)) gi_252_23 gk_83 (by decide) (by decide) ((e83.trans (by rw [hso]; rfl))) ?_
      refine z_isub (e := 0) gi_252_24 rfl ?_
      refine z_istore (ls1 := [some (.ref 50), some (zi 1), some (zi i), some (zl v), none, some (zi 0), some (zi 0)]) gi_252_25 rfl ?_
      refine z_aload0 gi_252_27 ?_
      refine z_getR (r := 85) gi_252_28 gk_50 (hRr _ rm_50_60 (by decide)) ?_
      refine z_pushJ gp_252_31 ?_
      refine z_iload1 gi_252_33 ?_
      refine z_imul (e := 60) gi_252_34 rfl ?_
      refine z_iload2 gi_252_35 ?_
      refine z_iadd (e := 60 + i) gi_252_36 rfl ?_
      refine z_iload6 gi_252_37 ?_
      refine z_if_neF gi_252_39 zr_0 (by decide) ?_
      refine z_lload3 gi_252_42 ?_
      refine z_l2i gi_252_43 ?_
      refine z_i2b (e := zb v) gi_252_44 rfl ?_
      have q4 := zb_r v
      refine z_i2l gi_252_45 (by omega) ?_
      refine z_goto gi_252_46 ?_
      refine z_last (e := zb v) gi_252_95 gk_85 (by decide) (by omega) rfl ?_
      refine z_pushJ gp_252_96 ?_
      refine z_iret gi_252_97 gr_252 ?_
      refine ⟨?_, ?_⟩
      · first | rfl | exact congrArg (fun v => some (zi v)) (by omega) | (exfalso; omega)
      · have hk := (zK_r (k := (kL [] [])) (A := J))
        have hkm := (zK_x (a := 85) (x := 60 + i) (v := zb v) (zK_x (a := 41) (x := i) (v := zb v) (zK_r (k := (kL [41, 85] [])) (A := M)) rfl) rfl)
        exact ⟨hR, hG, RelY_k hk (by repeat' constructor) (fun p => by repeat' constructor) hY, RelD_k hk (by repeat' constructor) (fun p => by repeat' constructor) hD, RelP_k hk (by repeat' constructor) (fun p => by repeat' constructor) hP, RelC_k hk (by repeat' constructor) (fun p => by repeat' constructor) hC, RelA_k hk (by repeat' constructor) (fun p => by repeat' constructor) hAc, (RelS_one (J := J) (M := M) (c := 1) (fun t t1 t2 te => by have q : t = 0 ∨ t = 1 ∨ t = 2 ∨ t = 3 ∨ t = 4 ∨ t = 5 := (by omega); rcases q with rfl | rfl | rfl | rfl | rfl | rfl <;> first | exact absurd rfl te | exact ⟨fun j => rfl, rfl, rfl⟩) (fun t t1 t2 te => by have q : t = 0 ∨ t = 1 ∨ t = 2 ∨ t = 3 ∨ t = 4 ∨ t = 5 := (by omega); rcases q with rfl | rfl | rfl | rfl | rfl | rfl <;> first | exact absurd rfl te | exact ⟨fun j => rfl, fun j j1 j2 => (zU_x (by omega)).trans (zU_n (by decide))⟩) rfl (show RelS1 _ _ _ from ⟨(hS 1 (by decide) (by decide)).1, (hS 1 (by decide) (by decide)).2.1, s3, s4, (hS 1 (by decide) (by decide)).2.2.2.2.1, fun _ => ⟨s7.symm, fun k k1 k2 => by show (if k = i then zb v else M 41 k) = (if 60 + k = 60 + i then zb v else M 85 (60 + k)); by_cases e : k = i; rw [if_pos e, if_pos (by omega)]; rw [if_neg e, if_neg (by omega)]; exact s8 k k1 k2, (fun hq k k1 k2 => by show -128 ≤ (if k = i then zb v else M 41 k) ∧ (if k = i then zb v else M 41 k) ≤ 127; split <;> first | (have := zb_r v; omega) | exact s6.2.2 hq k k1 k2)⟩⟩) hS), RelT_k hk (by repeat' constructor) (fun p => by repeat' constructor) hTp, RelX_k hk (by repeat' constructor) (fun p => by repeat' constructor) hX, RelW_k hk ⟨rfl, rfl⟩ trivial hW⟩
theorem st_put_121 {X : Nat × (Nat → Int32)} {d : Nat} {J M : zA} {R : zR} {i v : Int} (hr : Rel X J M R) (hi : -2147483648 ≤ i ∧ i < 2147483648) (hv : -9223372036854775808 ≤ v ∧ v < 9223372036854775808) (hh : J 40 0 = 2) (hso : J 40 2 = 1) : zW X (d + 20) 138 0 (gEn 138 [(.ref 0), (zi 1), (zi i), (zl v)]) [] J M R (stP X (d + 20) 252 [(zi 1), (zi i), (zl v)]) := by
  have hr0 := hr
  obtain ⟨hR, hG, hY, hD, hP, hC, hAc, hS, hTp, hX, hW⟩ := hr0
  have hRr : zRoR R := zRoR_of hR
  have e83 : J 83 1 = -2 - J 40 2 := (hS 1 (by decide) (by decide)).1.symm.trans (cH_2 hh)
  have s3 : 0 ≤ J 40 2 ∧ J 40 2 ≤ 4 := (hS 1 (by decide) (by decide)).2.2.1
  have s4 : 0 ≤ J 40 3 ∧ J 40 3 ≤ 60 := (hS 1 (by decide) (by decide)).2.2.2.1
  have s6 := (hS 1 (by decide) (by decide)).2.2.2.2.2 hh
  have s7 : J 84 1 = J 40 3 := s6.1.symm
  have s8 : ∀ i, 0 ≤ i → i < J 40 3 → M 41 i = M 85 (60 + i) := s6.2.1
  show zW _ _ _ _ [some (.ref 0), some (zi 1), some (zi i), some (zl v), none, none] _ _ _ _ _
  refine z_iload1 gi_138_0 ?_
  refine z_cS1 gi_138_1 (Nat.le_of_ble_eq_true rfl) gc_143_I ?_
  refine z_iload0 gi_143_0 ?_
  refine z_if_ltF gi_143_1 zr_1 (by decide) ?_
  refine z_iload0 gi_143_4 ?_
  refine z_pushJ gp_143_5 ?_
  refine z_icmp_geF gi_143_7 zr_1 zr_6 (by decide) ?_
  refine z_pushJ gp_143_10 ?_
  refine z_goto gi_143_11 ?_
  refine z_bret1 gi_143_15 gr_143 ?_
  show zW _ _ _ _ _ _ _ _ _ _
  refine z_if_neT gi_138_4 zr_1 (by decide) ?_
  refine z_aload0 gi_138_9 ?_
  refine z_getR (r := 37) gi_138_10 gk_0 (hR _ rm_0_11) ?_
  refine z_iload1 gi_138_13 ?_
  refine z_aald (r := 40) gi_138_14 rfl (by decide) (by decide) (hR _ rm_37_1) ?_
  refine z_iload2 gi_138_15 ?_
  refine z_cV1 gi_138_16 gk_40 go_70 (Nat.le_of_ble_eq_true rfl) gc_70_RI ?_
  refine z_aload0 gi_70_0 ?_
  refine z_getI (v := 2) gi_70_1 gk_40 (hh) ?_
  refine z_if_neT gi_70_4 zr_2 (by decide) ?_
  refine z_aload0 gi_70_10 ?_
  refine z_getI (v := 2) gi_70_11 gk_40 (hh) ?_
  refine z_pushJ gp_70_14 ?_
  refine z_icmp_eqT gi_70_15 zr_2 zr_2 (by decide) ?_
  refine z_iload1 gi_70_21 ?_
  refine z_if_lt gi_70_22 (by omega) (fun h1 => ?_) (fun h1 => ?_)
  · refine z_pushJ gp_70_37 ?_
    refine z_iret gi_70_39 gr_70 ?_
    show zW _ _ _ _ _ _ _ _ _ _
    refine z_istore (ls1 := [some (.ref 0), some (zi 1), some (zi i), some (zl v), none, some (zi (-13))]) gi_138_19 rfl ?_
    refine z_iload5 gi_138_21 ?_
    refine z_if_geF gi_138_23 zrn_13 (by decide) ?_
    refine z_iload5 gi_138_26 ?_
    refine z_iret gi_138_28 gr_138 ?_
    refine ⟨_, rfl, ?_⟩
    show zW _ _ _ _ [some (.ref 50), some (zi 1), some (zi i), some (zl v), none, none, none] _ _ _ _ _
    refine z_aload0 gi_252_0 ?_
    refine z_iload1 gi_252_1 ?_
    refine z_iload2 gi_252_2 ?_
    refine z_cV2 gi_252_3 gk_50 go_251 (Nat.le_of_ble_eq_true rfl) gc_251_RII ?_
    refine z_iload1 gi_251_0 ?_
    refine z_cS1 gi_251_1 (Nat.le_of_ble_eq_true rfl) gc_248_I ?_
    refine z_iload0 gi_248_0 ?_
    refine z_pushJ gp_248_1 ?_
    refine z_pushJ gp_248_2 ?_
    refine z_cS3 gi_248_3 (Nat.le_of_ble_eq_true rfl) gc_148_III ?_
    refine z_iload0 gi_148_0 ?_
    refine z_iload1 gi_148_1 ?_
    refine z_icmp_ltF gi_148_2 zr_1 zr_0 (by decide) ?_
    refine z_iload0 gi_148_5 ?_
    refine z_iload2 gi_148_6 ?_
    refine z_icmp_gtF gi_148_7 zr_1 zr_5 (by decide) ?_
    refine z_pushJ gp_148_10 ?_
    refine z_goto gi_148_11 ?_
    refine z_bret1 gi_148_15 gr_148 ?_
    show zW _ _ _ _ _ _ _ _ _ _
    refine z_bret1 gi_248_6 gr_248 ?_
    show zW _ _ _ _ _ _ _ _ _ _
    refine z_if_neT gi_251_4 zr_1 (by decide) ?_
    refine z_aload0 gi_251_9 ?_
    refine z_getR (r := 83) gi_251_10 gk_50 (hRr _ rm_50_58 (by decide)) ?_
    refine z_iload1 gi_251_13 ?_
    refine z_iald (v := (-3)) gi_251_14 gk_83 (by decide) (by decide) ((e83.trans (by rw [hso]; rfl))) ?_
    refine z_pushJ gp_251_15 ?_
    refine z_icmp_neT gi_251_16 zrn_3 zrn_1 (by decide) ?_
    refine z_aload0 gi_251_22 ?_
    refine z_getR (r := 83) gi_251_23 gk_50 (hRr _ rm_50_58 (by decide)) ?_
    refine z_iload1 gi_251_26 ?_
    refine z_iald (v := (-3)) gi_251_27 gk_83 (by decide) (by decide) ((e83.trans (by rw [hso]; rfl))) ?_
    refine z_if_ltT gi_251_28 zrn_3 (by decide) ?_
    refine z_iload2 gi_251_34 ?_
    refine z_pushJ gp_251_35 ?_
    refine z_aload0 gi_251_36 ?_
    refine z_getR (r := 84) gi_251_37 gk_50 (hRr _ rm_50_59 (by decide)) ?_
    refine z_iload1 gi_251_40 ?_
    refine z_iald (v := J 40 3) gi_251_41 gk_84 (by decide) (by decide) (s7) ?_
    refine z_pushJ gp_251_42 ?_
    refine z_isub (e := (J 40 3) - 1) gi_251_43 rfl ?_
    refine z_cS3 gi_251_44 (Nat.le_of_ble_eq_true rfl) gc_148_III ?_
    refine z_iload0 gi_148_0 ?_
    refine z_iload1 gi_148_1 ?_
    refine z_icmp_ltT gi_148_2 (by omega) zr_0 (by omega) ?_
    refine z_pushJ gp_148_14 ?_
    refine z_bret0 gi_148_15 gr_148 ?_
    show zW _ _ _ _ _ _ _ _ _ _
    refine z_if_eqT gi_251_47 zr_0 (by decide) ?_
    refine z_pushJ gp_251_54 ?_
    refine z_iret gi_251_56 gr_251 ?_
    show zW _ _ _ _ _ _ _ _ _ _
    refine z_istore (ls1 := [some (.ref 50), some (zi 1), some (zi i), some (zl v), none, some (zi (-13)), none]) gi_252_6 rfl ?_
    refine z_iload5 gi_252_8 ?_
    refine z_if_geF gi_252_10 zrn_13 (by decide) ?_
    refine z_iload5 gi_252_13 ?_
    refine z_iret gi_252_15 gr_252 ?_
    refine ⟨?_, ?_⟩
    · first | rfl | exact congrArg (fun v => some (zi v)) (by omega) | (exfalso; omega)
    · exact hr
  · refine z_iload1 gi_70_25 ?_
    refine z_aload0 gi_70_26 ?_
    refine z_getI (v := J 40 3) gi_70_27 gk_40 (rfl) ?_
    refine z_icmp_ge gi_70_30 (by omega) (by omega) (fun h2 => ?_) (fun h2 => ?_)
    · refine z_pushJ gp_70_37 ?_
      refine z_iret gi_70_39 gr_70 ?_
      show zW _ _ _ _ _ _ _ _ _ _
      refine z_istore (ls1 := [some (.ref 0), some (zi 1), some (zi i), some (zl v), none, some (zi (-13))]) gi_138_19 rfl ?_
      refine z_iload5 gi_138_21 ?_
      refine z_if_geF gi_138_23 zrn_13 (by decide) ?_
      refine z_iload5 gi_138_26 ?_
      refine z_iret gi_138_28 gr_138 ?_
      refine ⟨_, rfl, ?_⟩
      show zW _ _ _ _ [some (.ref 50), some (zi 1), some (zi i), some (zl v), none, none, none] _ _ _ _ _
      refine z_aload0 gi_252_0 ?_
      refine z_iload1 gi_252_1 ?_
      refine z_iload2 gi_252_2 ?_
      refine z_cV2 gi_252_3 gk_50 go_251 (Nat.le_of_ble_eq_true rfl) gc_251_RII ?_
      refine z_iload1 gi_251_0 ?_
      refine z_cS1 gi_251_1 (Nat.le_of_ble_eq_true rfl) gc_248_I ?_
      refine z_iload0 gi_248_0 ?_
      refine z_pushJ gp_248_1 ?_
      refine z_pushJ gp_248_2 ?_
      refine z_cS3 gi_248_3 (Nat.le_of_ble_eq_true rfl) gc_148_III ?_
      refine z_iload0 gi_148_0 ?_
      refine z_iload1 gi_148_1 ?_
      refine z_icmp_ltF gi_148_2 zr_1 zr_0 (by decide) ?_
      refine z_iload0 gi_148_5 ?_
      refine z_iload2 gi_148_6 ?_
      refine z_icmp_gtF gi_148_7 zr_1 zr_5 (by decide) ?_
      refine z_pushJ gp_148_10 ?_
      refine z_goto gi_148_11 ?_
      refine z_bret1 gi_148_15 gr_148 ?_
      show zW _ _ _ _ _ _ _ _ _ _
      refine z_bret1 gi_248_6 gr_248 ?_
      show zW _ _ _ _ _ _ _ _ _ _
      refine z_if_neT gi_251_4 zr_1 (by decide) ?_
      refine z_aload0 gi_251_9 ?_
      refine z_getR (r := 83) gi_251_10 gk_50 (hRr _ rm_50_58 (by decide)) ?_
      refine z_iload1 gi_251_13 ?_
      refine z_iald (v := (-3)) gi_251_14 gk_83 (by decide) (by decide) ((e83.trans (by rw [hso]; rfl))) ?_
      refine z_pushJ gp_251_15 ?_
      refine z_icmp_neT gi_251_16 zrn_3 zrn_1 (by decide) ?_
      refine z_aload0 gi_251_22 ?_
      refine z_getR (r := 83) gi_251_23 gk_50 (hRr _ rm_50_58 (by decide)) ?_
      refine z_iload1 gi_251_26 ?_
      refine z_iald (v := (-3)) gi_251_27 gk_83 (by decide) (by decide) ((e83.trans (by rw [hso]; rfl))) ?_
      refine z_if_ltT gi_251_28 zrn_3 (by decide) ?_
      refine z_iload2 gi_251_34 ?_
      refine z_pushJ gp_251_35 ?_
      refine z_aload0 gi_251_36 ?_
      refine z_getR (r := 84) gi_251_37 gk_50 (hRr _ rm_50_59 (by decide)) ?_
      refine z_iload1 gi_251_40 ?_
      refine z_iald (v := J 40 3) gi_251_41 gk_84 (by decide) (by decide) (s7) ?_
      refine z_pushJ gp_251_42 ?_
      refine z_isub (e := (J 40 3) - 1) gi_251_43 rfl ?_
      refine z_cS3 gi_251_44 (Nat.le_of_ble_eq_true rfl) gc_148_III ?_
      refine z_iload0 gi_148_0 ?_
      refine z_iload1 gi_148_1 ?_
      refine z_icmp_ltF gi_148_2 (by omega) zr_0 (by omega) ?_
      refine z_iload0 gi_148_5 ?_
      refine z_iload2 gi_148_6 ?_
      refine z_icmp_gtT gi_148_7 (by omega) (by omega) (by omega) ?_
      refine z_pushJ gp_148_14 ?_
      refine z_bret0 gi_148_15 gr_148 ?_
      show zW _ _ _ _ _ _ _ _ _ _
      refine z_if_eqT gi_251_47 zr_0 (by decide) ?_
      refine z_pushJ gp_251_54 ?_
      refine z_iret gi_251_56 gr_251 ?_
      show zW _ _ _ _ _ _ _ _ _ _
      refine z_istore (ls1 := [some (.ref 50), some (zi 1), some (zi i), some (zl v), none, some (zi (-13)), none]) gi_252_6 rfl ?_
      refine z_iload5 gi_252_8 ?_
      refine z_if_geF gi_252_10 zrn_13 (by decide) ?_
      refine z_iload5 gi_252_13 ?_
      refine z_iret gi_252_15 gr_252 ?_
      refine ⟨?_, ?_⟩
      · first | rfl | exact congrArg (fun v => some (zi v)) (by omega) | (exfalso; omega)
      · exact hr
    · refine z_pushJ gp_70_33 ?_
      refine z_goto gi_70_34 ?_
      refine z_iret gi_70_39 gr_70 ?_
      show zW _ _ _ _ _ _ _ _ _ _
      refine z_istore (ls1 := [some (.ref 0), some (zi 1), some (zi i), some (zl v), none, some (zi 0)]) gi_138_19 rfl ?_
      refine z_iload5 gi_138_21 ?_
      refine z_if_geT gi_138_23 zr_0 (by decide) ?_
      refine z_aload0 gi_138_29 ?_
      refine z_getR (r := 37) gi_138_30 gk_0 (hR _ rm_0_11) ?_
      refine z_iload1 gi_138_33 ?_
      refine z_aald (r := 40) gi_138_34 rfl (by decide) (by decide) (hR _ rm_37_1) ?_
      refine z_iload2 gi_138_35 ?_
      refine z_lload3 gi_138_36 ?_
      refine z_callVi (As := [_, _]) (le := [some _, some _, some _, none]) gi_138_37 rfl gk_40 (Nat.le_of_ble_eq_true rfl) (Nat.le_of_ble_eq_true rfl) rfl ?_
      refine z_iload1 gi_73_0 ?_
      refine z_if_ltF gi_73_1 (by omega) (by omega) ?_
      refine z_iload1 gi_73_4 ?_
      refine z_aload0 gi_73_5 ?_
      refine z_getI (v := J 40 3) gi_73_6 gk_40 (rfl) ?_
      refine z_icmp_geF gi_73_9 (by omega) (by omega) (by omega) ?_
      refine z_aload0 gi_73_12 ?_
      refine z_getR (r := 41) gi_73_13 gk_40 (hR _ rm_40_4) ?_
      refine z_iload1 gi_73_16 ?_
      refine z_aload0 gi_73_17 ?_
      refine z_lload2 gi_73_18 ?_
      refine z_callVi (As := [_]) (le := [some _, some _, none]) gi_73_19 rfl gk_40 (Nat.le_of_ble_eq_true rfl) (Nat.le_of_ble_eq_true rfl) rfl ?_
      refine z_aload0 gi_74_0 ?_
      refine z_getI (v := 1) gi_74_1 gk_40 (hso) ?_
      refine z_swI (tg := 45) gi_74_4 (by decide) (T := [((0 : Int), 40), ((1 : Int), 45), ((2 : Int), 50), ((3 : Int), 66), ((4 : Int), 54)]) rfl (by decide) ?_
      refine z_lload1 gi_74_45 ?_
      refine z_l2i gi_74_46 ?_
      refine z_i2s (e := zh v) gi_74_47 rfl ?_
      have q3 := zh_r v
      refine z_i2l gi_74_48 (by omega) ?_
      refine z_lret gi_74_49 gr_74 ?_
      show zW _ _ _ _ _ _ _ _ _ _
      refine z_last (e := zh v) gi_73_22 gk_41 (by decide) (by omega) rfl ?_
      refine z_vret gi_73_23 gr_73 ?_
      show zW _ _ _ _ _ _ _ _ _ _
      refine z_pushJ gp_138_40 ?_
      refine z_iret gi_138_41 gr_138 ?_
      refine ⟨_, rfl, ?_⟩
      show zW _ _ _ _ [some (.ref 50), some (zi 1), some (zi i), some (zl v), none, none, none] _ _ _ _ _
      refine z_aload0 gi_252_0 ?_
      refine z_iload1 gi_252_1 ?_
      refine z_iload2 gi_252_2 ?_
      refine z_cV2 gi_252_3 gk_50 go_251 (Nat.le_of_ble_eq_true rfl) gc_251_RII ?_
      refine z_iload1 gi_251_0 ?_
      refine z_cS1 gi_251_1 (Nat.le_of_ble_eq_true rfl) gc_248_I ?_
      refine z_iload0 gi_248_0 ?_
      refine z_pushJ gp_248_1 ?_
      refine z_pushJ gp_248_2 ?_
      refine z_cS3 gi_248_3 (Nat.le_of_ble_eq_true rfl) gc_148_III ?_
      refine z_iload0 gi_148_0 ?_
      refine z_iload1 gi_148_1 ?_
      refine z_icmp_ltF gi_148_2 zr_1 zr_0 (by decide) ?_
      refine z_iload0 gi_148_5 ?_
      refine z_iload2 gi_148_6 ?_
      refine z_icmp_gtF gi_148_7 zr_1 zr_5 (by decide) ?_
      refine z_pushJ gp_148_10 ?_
      refine z_goto gi_148_11 ?_
      refine z_bret1 gi_148_15 gr_148 ?_
      show zW _ _ _ _ _ _ _ _ _ _
      refine z_bret1 gi_248_6 gr_248 ?_
      show zW _ _ _ _ _ _ _ _ _ _
      refine z_if_neT gi_251_4 zr_1 (by decide) ?_
      refine z_aload0 gi_251_9 ?_
      refine z_getR (r := 83) gi_251_10 gk_50 (hRr _ rm_50_58 (by decide)) ?_
      refine z_iload1 gi_251_13 ?_
      refine z_iald (v := (-3)) gi_251_14 gk_83 (by decide) (by decide) ((e83.trans (by rw [hso]; rfl))) ?_
      refine z_pushJ gp_251_15 ?_
      refine z_icmp_neT gi_251_16 zrn_3 zrn_1 (by decide) ?_
      refine z_aload0 gi_251_22 ?_
      refine z_getR (r := 83) gi_251_23 gk_50 (hRr _ rm_50_58 (by decide)) ?_
      refine z_iload1 gi_251_26 ?_
      refine z_iald (v := (-3)) gi_251_27 gk_83 (by decide) (by decide) ((e83.trans (by rw [hso]; rfl))) ?_
      refine z_if_ltT gi_251_28 zrn_3 (by decide) ?_
      refine z_iload2 gi_251_34 ?_
      refine z_pushJ gp_251_35 ?_
      refine z_aload0 gi_251_36 ?_
      refine z_getR (r := 84) gi_251_37 gk_50 (hRr _ rm_50_59 (by decide)) ?_
      refine z_iload1 gi_251_40 ?_
      refine z_iald (v := J 40 3) gi_251_41 gk_84 (by decide) (by decide) (s7) ?_
      refine z_pushJ gp_251_42 ?_
      refine z_isub (e := (J 40 3) - 1) gi_251_43 rfl ?_
      refine z_cS3 gi_251_44 (Nat.le_of_ble_eq_true rfl) gc_148_III ?_
      refine z_iload0 gi_148_0 ?_
      refine z_iload1 gi_148_1 ?_
      refine z_icmp_ltF gi_148_2 (by omega) zr_0 (by omega) ?_
      refine z_iload0 gi_148_5 ?_
      refine z_iload2 gi_148_6 ?_
      refine z_icmp_gtF gi_148_7 (by omega) (by omega) (by omega) ?_
      refine z_pushJ gp_148_10 ?_
      refine z_goto gi_148_11 ?_
      refine z_bret1 gi_148_15 gr_148 ?_
      show zW _ _ _ _ _ _ _ _ _ _
      refine z_if_eqF gi_251_47 zr_1 (by decide) ?_
      refine z_pushJ gp_251_50 ?_
      refine z_goto gi_251_51 ?_
      refine z_iret gi_251_56 gr_251 ?_
      show zW _ _ _ _ _ _ _ _ _ _
      refine z_istore (ls1 := [some (.ref 50), some (zi 1), some (zi i), some (zl v), none, some (zi 0), none]) gi_252_6 rfl ?_
      refine z_iload5 gi_252_8 ?_
      refine z_if_geT gi_252_10 zr_0 (by decide) ?_
      refine z_pushJ gp_252_16 ?_
      refine z_aload0 gi_252_18 ?_
      refine z_getR (r := 83) gi_252_19 gk_50 (hRr _ rm_50_58 (by decide)) ?_
      refine z_iload1 gi_252_22 ?_
      refine z_iald (v := (-3)) gi_252_23 gk_83 (by decide) (by decide) ((e83.trans (by rw [hso]; rfl))) ?_
      refine z_isub (e := 1) gi_252_24 rfl ?_
      refine z_istore (ls1 := [some (.ref 50), some (zi 1), some (zi i), some (zl v), none, some (zi 0), some (zi 1)]) gi_252_25 rfl ?_
      refine z_aload0 gi_252_27 ?_
      refine z_getR (r := 85) gi_252_28 gk_50 (hRr _ rm_50_60 (by decide)) ?_
      refine z_pushJ gp_252_31 ?_
      refine z_iload1 gi_252_33 ?_
      refine z_imul (e := 60) gi_252_34 rfl ?_
      refine z_iload2 gi_252_35 ?_
      refine z_iadd (e := 60 + i) gi_252_36 rfl ?_
      refine z_iload6 gi_252_37 ?_
      refine z_if_neT gi_252_39 zr_1 (by decide) ?_
      refine z_iload6 gi_252_49 ?_
      refine z_pushJ gp_252_51 ?_
      refine z_icmp_neF gi_252_52 zr_1 zr_1 (by decide) ?_
      refine z_lload3 gi_252_55 ?_
      refine z_l2i gi_252_56 ?_
      refine z_i2s (e := zh v) gi_252_57 rfl ?_
      have q4 := zh_r v
      refine z_i2l gi_252_58 (by omega) ?_
      refine z_goto gi_252_59 ?_
      refine z_last (e := zh v) gi_252_95 gk_85 (by decide) (by omega) rfl ?_
      refine z_pushJ gp_252_96 ?_
      refine z_iret gi_252_97 gr_252 ?_
      refine ⟨?_, ?_⟩
      · first | rfl | exact congrArg (fun v => some (zi v)) (by omega) | (exfalso; omega)
      · have hk := (zK_r (k := (kL [] [])) (A := J))
        have hkm := (zK_x (a := 85) (x := 60 + i) (v := zh v) (zK_x (a := 41) (x := i) (v := zh v) (zK_r (k := (kL [41, 85] [])) (A := M)) rfl) rfl)
        exact ⟨hR, hG, RelY_k hk (by repeat' constructor) (fun p => by repeat' constructor) hY, RelD_k hk (by repeat' constructor) (fun p => by repeat' constructor) hD, RelP_k hk (by repeat' constructor) (fun p => by repeat' constructor) hP, RelC_k hk (by repeat' constructor) (fun p => by repeat' constructor) hC, RelA_k hk (by repeat' constructor) (fun p => by repeat' constructor) hAc, (RelS_one (J := J) (M := M) (c := 1) (fun t t1 t2 te => by have q : t = 0 ∨ t = 1 ∨ t = 2 ∨ t = 3 ∨ t = 4 ∨ t = 5 := (by omega); rcases q with rfl | rfl | rfl | rfl | rfl | rfl <;> first | exact absurd rfl te | exact ⟨fun j => rfl, rfl, rfl⟩) (fun t t1 t2 te => by have q : t = 0 ∨ t = 1 ∨ t = 2 ∨ t = 3 ∨ t = 4 ∨ t = 5 := (by omega); rcases q with rfl | rfl | rfl | rfl | rfl | rfl <;> first | exact absurd rfl te | exact ⟨fun j => rfl, fun j j1 j2 => (zU_x (by omega)).trans (zU_n (by decide))⟩) rfl (show RelS1 _ _ _ from ⟨(hS 1 (by decide) (by decide)).1, (hS 1 (by decide) (by decide)).2.1, s3, s4, (hS 1 (by decide) (by decide)).2.2.2.2.1, fun _ => ⟨s7.symm, fun k k1 k2 => by show (if k = i then zh v else M 41 k) = (if 60 + k = 60 + i then zh v else M 85 (60 + k)); by_cases e : k = i; rw [if_pos e, if_pos (by omega)]; rw [if_neg e, if_neg (by omega)]; exact s8 k k1 k2, (fun hq => absurd (Eq.trans (Eq.symm hq) hso) (by decide))⟩⟩) hS), RelT_k hk (by repeat' constructor) (fun p => by repeat' constructor) hTp, RelX_k hk (by repeat' constructor) (fun p => by repeat' constructor) hX, RelW_k hk ⟨rfl, rfl⟩ trivial hW⟩
theorem st_put_122 {X : Nat × (Nat → Int32)} {d : Nat} {J M : zA} {R : zR} {i v : Int} (hr : Rel X J M R) (hi : -2147483648 ≤ i ∧ i < 2147483648) (hv : -9223372036854775808 ≤ v ∧ v < 9223372036854775808) (hh : J 40 0 = 2) (hso : J 40 2 = 2) : zW X (d + 20) 138 0 (gEn 138 [(.ref 0), (zi 1), (zi i), (zl v)]) [] J M R (stP X (d + 20) 252 [(zi 1), (zi i), (zl v)]) := by
  have hr0 := hr
  obtain ⟨hR, hG, hY, hD, hP, hC, hAc, hS, hTp, hX, hW⟩ := hr0
  have hRr : zRoR R := zRoR_of hR
  have e83 : J 83 1 = -2 - J 40 2 := (hS 1 (by decide) (by decide)).1.symm.trans (cH_2 hh)
  have s3 : 0 ≤ J 40 2 ∧ J 40 2 ≤ 4 := (hS 1 (by decide) (by decide)).2.2.1
  have s4 : 0 ≤ J 40 3 ∧ J 40 3 ≤ 60 := (hS 1 (by decide) (by decide)).2.2.2.1
  have s6 := (hS 1 (by decide) (by decide)).2.2.2.2.2 hh
  have s7 : J 84 1 = J 40 3 := s6.1.symm
  have s8 : ∀ i, 0 ≤ i → i < J 40 3 → M 41 i = M 85 (60 + i) := s6.2.1
  show zW _ _ _ _ [some (.ref 0), some (zi 1), some (zi i), some (zl v), none, none] _ _ _ _ _
  refine z_iload1 gi_138_0 ?_
  refine z_cS1 gi_138_1 (Nat.le_of_ble_eq_true rfl) gc_143_I ?_
  refine z_iload0 gi_143_0 ?_
  refine z_if_ltF gi_143_1 zr_1 (by decide) ?_
  refine z_iload0 gi_143_4 ?_
  refine z_pushJ gp_143_5 ?_
  refine z_icmp_geF gi_143_7 zr_1 zr_6 (by decide) ?_
  refine z_pushJ gp_143_10 ?_
  refine z_goto gi_143_11 ?_
  refine z_bret1 gi_143_15 gr_143 ?_
  show zW _ _ _ _ _ _ _ _ _ _
  refine z_if_neT gi_138_4 zr_1 (by decide) ?_
  refine z_aload0 gi_138_9 ?_
  refine z_getR (r := 37) gi_138_10 gk_0 (hR _ rm_0_11) ?_
  refine z_iload1 gi_138_13 ?_
  refine z_aald (r := 40) gi_138_14 rfl (by decide) (by decide) (hR _ rm_37_1) ?_
  refine z_iload2 gi_138_15 ?_
  refine z_cV1 gi_138_16 gk_40 go_70 (Nat.le_of_ble_eq_true rfl) gc_70_RI ?_
  refine z_aload0 gi_70_0 ?_
  refine z_getI (v := 2) gi_70_1 gk_40 (hh) ?_
  refine z_if_neT gi_70_4 zr_2 (by decide) ?_
  refine z_aload0 gi_70_10 ?_
  refine z_getI (v := 2) gi_70_11 gk_40 (hh) ?_
  refine z_pushJ gp_70_14 ?_
  refine z_icmp_eqT gi_70_15 zr_2 zr_2 (by decide) ?_
  refine z_iload1 gi_70_21 ?_
  refine z_if_lt gi_70_22 (by omega) (fun h1 => ?_) (fun h1 => ?_)
  · refine z_pushJ gp_70_37 ?_
    refine z_iret gi_70_39 gr_70 ?_
    show zW _ _ _ _ _ _ _ _ _ _
    refine z_istore (ls1 := [some (.ref 0), some (zi 1), some (zi i), some (zl v), none, some (zi (-13))]) gi_138_19 rfl ?_
    refine z_iload5 gi_138_21 ?_
    refine z_if_geF gi_138_23 zrn_13 (by decide) ?_
    refine z_iload5 gi_138_26 ?_
    refine z_iret gi_138_28 gr_138 ?_
    refine ⟨_, rfl, ?_⟩
    show zW _ _ _ _ [some (.ref 50), some (zi 1), some (zi i), some (zl v), none, none, none] _ _ _ _ _
    refine z_aload0 gi_252_0 ?_
    refine z_iload1 gi_252_1 ?_
    refine z_iload2 gi_252_2 ?_
    refine z_cV2 gi_252_3 gk_50 go_251 (Nat.le_of_ble_eq_true rfl) gc_251_RII ?_
    refine z_iload1 gi_251_0 ?_
    refine z_cS1 gi_251_1 (Nat.le_of_ble_eq_true rfl) gc_248_I ?_
    refine z_iload0 gi_248_0 ?_
    refine z_pushJ gp_248_1 ?_
    refine z_pushJ gp_248_2 ?_
    refine z_cS3 gi_248_3 (Nat.le_of_ble_eq_true rfl) gc_148_III ?_
    refine z_iload0 gi_148_0 ?_
    refine z_iload1 gi_148_1 ?_
    refine z_icmp_ltF gi_148_2 zr_1 zr_0 (by decide) ?_
    refine z_iload0 gi_148_5 ?_
    refine z_iload2 gi_148_6 ?_
    refine z_icmp_gtF gi_148_7 zr_1 zr_5 (by decide) ?_
    refine z_pushJ gp_148_10 ?_
    refine z_goto gi_148_11 ?_
    refine z_bret1 gi_148_15 gr_148 ?_
    show zW _ _ _ _ _ _ _ _ _ _
    refine z_bret1 gi_248_6 gr_248 ?_
    show zW _ _ _ _ _ _ _ _ _ _
    refine z_if_neT gi_251_4 zr_1 (by decide) ?_
    refine z_aload0 gi_251_9 ?_
    refine z_getR (r := 83) gi_251_10 gk_50 (hRr _ rm_50_58 (by decide)) ?_
    refine z_iload1 gi_251_13 ?_
    refine z_iald (v := (-4)) gi_251_14 gk_83 (by decide) (by decide) ((e83.trans (by rw [hso]; rfl))) ?_
    refine z_pushJ gp_251_15 ?_
    refine z_icmp_neT gi_251_16 zrn_4 zrn_1 (by decide) ?_
    refine z_aload0 gi_251_22 ?_
    refine z_getR (r := 83) gi_251_23 gk_50 (hRr _ rm_50_58 (by decide)) ?_
    refine z_iload1 gi_251_26 ?_
    refine z_iald (v := (-4)) gi_251_27 gk_83 (by decide) (by decide) ((e83.trans (by rw [hso]; rfl))) ?_
    refine z_if_ltT gi_251_28 zrn_4 (by decide) ?_
    refine z_iload2 gi_251_34 ?_
    refine z_pushJ gp_251_35 ?_
    refine z_aload0 gi_251_36 ?_
    refine z_getR (r := 84) gi_251_37 gk_50 (hRr _ rm_50_59 (by decide)) ?_
    refine z_iload1 gi_251_40 ?_
    refine z_iald (v := J 40 3) gi_251_41 gk_84 (by decide) (by decide) (s7) ?_
    refine z_pushJ gp_251_42 ?_
    refine z_isub (e := (J 40 3) - 1) gi_251_43 rfl ?_
    refine z_cS3 gi_251_44 (Nat.le_of_ble_eq_true rfl) gc_148_III ?_
    refine z_iload0 gi_148_0 ?_
    refine z_iload1 gi_148_1 ?_
    refine z_icmp_ltT gi_148_2 (by omega) zr_0 (by omega) ?_
    refine z_pushJ gp_148_14 ?_
    refine z_bret0 gi_148_15 gr_148 ?_
    show zW _ _ _ _ _ _ _ _ _ _
    refine z_if_eqT gi_251_47 zr_0 (by decide) ?_
    refine z_pushJ gp_251_54 ?_
    refine z_iret gi_251_56 gr_251 ?_
    show zW _ _ _ _ _ _ _ _ _ _
    refine z_istore (ls1 := [some (.ref 50), some (zi 1), some (zi i), some (zl v), none, some (zi (-13)), none]) gi_252_6 rfl ?_
    refine z_iload5 gi_252_8 ?_
    refine z_if_geF gi_252_10 zrn_13 (by decide) ?_
    refine z_iload5 gi_252_13 ?_
    refine z_iret gi_252_15 gr_252 ?_
    refine ⟨?_, ?_⟩
    · first | rfl | exact congrArg (fun v => some (zi v)) (by omega) | (exfalso; omega)
    · exact hr
  · refine z_iload1 gi_70_25 ?_
    refine z_aload0 gi_70_26 ?_
    refine z_getI (v := J 40 3) gi_70_27 gk_40 (rfl) ?_
    refine z_icmp_ge gi_70_30 (by omega) (by omega) (fun h2 => ?_) (fun h2 => ?_)
    · refine z_pushJ gp_70_37 ?_
      refine z_iret gi_70_39 gr_70 ?_
      show zW _ _ _ _ _ _ _ _ _ _
      refine z_istore (ls1 := [some (.ref 0), some (zi 1), some (zi i), some (zl v), none, some (zi (-13))]) gi_138_19 rfl ?_
      refine z_iload5 gi_138_21 ?_
      refine z_if_geF gi_138_23 zrn_13 (by decide) ?_
      refine z_iload5 gi_138_26 ?_
      refine z_iret gi_138_28 gr_138 ?_
      refine ⟨_, rfl, ?_⟩
      show zW _ _ _ _ [some (.ref 50), some (zi 1), some (zi i), some (zl v), none, none, none] _ _ _ _ _
      refine z_aload0 gi_252_0 ?_
      refine z_iload1 gi_252_1 ?_
      refine z_iload2 gi_252_2 ?_
      refine z_cV2 gi_252_3 gk_50 go_251 (Nat.le_of_ble_eq_true rfl) gc_251_RII ?_
      refine z_iload1 gi_251_0 ?_
      refine z_cS1 gi_251_1 (Nat.le_of_ble_eq_true rfl) gc_248_I ?_
      refine z_iload0 gi_248_0 ?_
      refine z_pushJ gp_248_1 ?_
      refine z_pushJ gp_248_2 ?_
      refine z_cS3 gi_248_3 (Nat.le_of_ble_eq_true rfl) gc_148_III ?_
      refine z_iload0 gi_148_0 ?_
      refine z_iload1 gi_148_1 ?_
      refine z_icmp_ltF gi_148_2 zr_1 zr_0 (by decide) ?_
      refine z_iload0 gi_148_5 ?_
      refine z_iload2 gi_148_6 ?_
      refine z_icmp_gtF gi_148_7 zr_1 zr_5 (by decide) ?_
      refine z_pushJ gp_148_10 ?_
      refine z_goto gi_148_11 ?_
      refine z_bret1 gi_148_15 gr_148 ?_
      show zW _ _ _ _ _ _ _ _ _ _
      refine z_bret1 gi_248_6 gr_248 ?_
      show zW _ _ _ _ _ _ _ _ _ _
      refine z_if_neT gi_251_4 zr_1 (by decide) ?_
      refine z_aload0 gi_251_9 ?_
      refine z_getR (r := 83) gi_251_10 gk_50 (hRr _ rm_50_58 (by decide)) ?_
      refine z_iload1 gi_251_13 ?_
      refine z_iald (v := (-4)) gi_251_14 gk_83 (by decide) (by decide) ((e83.trans (by rw [hso]; rfl))) ?_
      refine z_pushJ gp_251_15 ?_
      refine z_icmp_neT gi_251_16 zrn_4 zrn_1 (by decide) ?_
      refine z_aload0 gi_251_22 ?_
      refine z_getR (r := 83) gi_251_23 gk_50 (hRr _ rm_50_58 (by decide)) ?_
      refine z_iload1 gi_251_26 ?_
      refine z_iald (v := (-4)) gi_251_27 gk_83 (by decide) (by decide) ((e83.trans (by rw [hso]; rfl))) ?_
      refine z_if_ltT gi_251_28 zrn_4 (by decide) ?_
      refine z_iload2 gi_251_34 ?_
      refine z_pushJ gp_251_35 ?_
      refine z_aload0 gi_251_36 ?_
      refine z_getR (r := 84) gi_251_37 gk_50 (hRr _ rm_50_59 (by decide)) ?_
      refine z_iload1 gi_251_40 ?_
      refine z_iald (v := J 40 3) gi_251_41 gk_84 (by decide) (by decide) (s7) ?_
      refine z_pushJ gp_251_42 ?_
      refine z_isub (e := (J 40 3) - 1) gi_251_43 rfl ?_
      refine z_cS3 gi_251_44 (Nat.le_of_ble_eq_true rfl) gc_148_III ?_
      refine z_iload0 gi_148_0 ?_
      refine z_iload1 gi_148_1 ?_
      refine z_icmp_ltF gi_148_2 (by omega) zr_0 (by omega) ?_
      refine z_iload0 gi_148_5 ?_
      refine z_iload2 gi_148_6 ?_
      refine z_icmp_gtT gi_148_7 (by omega) (by omega) (by omega) ?_
      refine z_pushJ gp_148_14 ?_
      refine z_bret0 gi_148_15 gr_148 ?_
      show zW _ _ _ _ _ _ _ _ _ _
      refine z_if_eqT gi_251_47 zr_0 (by decide) ?_
      refine z_pushJ gp_251_54 ?_
      refine z_iret gi_251_56 gr_251 ?_
      show zW _ _ _ _ _ _ _ _ _ _
      refine z_istore (ls1 := [some (.ref 50), some (zi 1), some (zi i), some (zl v), none, some (zi (-13)), none]) gi_252_6 rfl ?_
      refine z_iload5 gi_252_8 ?_
      refine z_if_geF gi_252_10 zrn_13 (by decide) ?_
      refine z_iload5 gi_252_13 ?_
      refine z_iret gi_252_15 gr_252 ?_
      refine ⟨?_, ?_⟩
      · first | rfl | exact congrArg (fun v => some (zi v)) (by omega) | (exfalso; omega)
      · exact hr
    · refine z_pushJ gp_70_33 ?_
      refine z_goto gi_70_34 ?_
      refine z_iret gi_70_39 gr_70 ?_
      show zW _ _ _ _ _ _ _ _ _ _
      refine z_istore (ls1 := [some (.ref 0), some (zi 1), some (zi i), some (zl v), none, some (zi 0)]) gi_138_19 rfl ?_
      refine z_iload5 gi_138_21 ?_
      refine z_if_geT gi_138_23 zr_0 (by decide) ?_
      refine z_aload0 gi_138_29 ?_
      refine z_getR (r := 37) gi_138_30 gk_0 (hR _ rm_0_11) ?_
      refine z_iload1 gi_138_33 ?_
      refine z_aald (r := 40) gi_138_34 rfl (by decide) (by decide) (hR _ rm_37_1) ?_
      refine z_iload2 gi_138_35 ?_
      refine z_lload3 gi_138_36 ?_
      refine z_callVi (As := [_, _]) (le := [some _, some _, some _, none]) gi_138_37 rfl gk_40 (Nat.le_of_ble_eq_true rfl) (Nat.le_of_ble_eq_true rfl) rfl ?_
      refine z_iload1 gi_73_0 ?_
      refine z_if_ltF gi_73_1 (by omega) (by omega) ?_
      refine z_iload1 gi_73_4 ?_
      refine z_aload0 gi_73_5 ?_
      refine z_getI (v := J 40 3) gi_73_6 gk_40 (rfl) ?_
      refine z_icmp_geF gi_73_9 (by omega) (by omega) (by omega) ?_
      refine z_aload0 gi_73_12 ?_
      refine z_getR (r := 41) gi_73_13 gk_40 (hR _ rm_40_4) ?_
      refine z_iload1 gi_73_16 ?_
      refine z_aload0 gi_73_17 ?_
      refine z_lload2 gi_73_18 ?_
      refine z_callVi (As := [_]) (le := [some _, some _, none]) gi_73_19 rfl gk_40 (Nat.le_of_ble_eq_true rfl) (Nat.le_of_ble_eq_true rfl) rfl ?_
      refine z_aload0 gi_74_0 ?_
      refine z_getI (v := 2) gi_74_1 gk_40 (hso) ?_
      refine z_swI (tg := 50) gi_74_4 (by decide) (T := [((0 : Int), 40), ((1 : Int), 45), ((2 : Int), 50), ((3 : Int), 66), ((4 : Int), 54)]) rfl (by decide) ?_
      refine z_lload1 gi_74_50 ?_
      refine z_l2i gi_74_51 ?_
      refine z_topn (e := zn v) rfl ?_
      have q3 := zn_r v
      refine z_i2l gi_74_52 (by omega) ?_
      refine z_lret gi_74_53 gr_74 ?_
      show zW _ _ _ _ _ _ _ _ _ _
      refine z_last (e := zn v) gi_73_22 gk_41 (by decide) (by omega) rfl ?_
      refine z_vret gi_73_23 gr_73 ?_
      show zW _ _ _ _ _ _ _ _ _ _
      refine z_pushJ gp_138_40 ?_
      refine z_iret gi_138_41 gr_138 ?_
      refine ⟨_, rfl, ?_⟩
      show zW _ _ _ _ [some (.ref 50), some (zi 1), some (zi i), some (zl v), none, none, none] _ _ _ _ _
      refine z_aload0 gi_252_0 ?_
      refine z_iload1 gi_252_1 ?_
      refine z_iload2 gi_252_2 ?_
      refine z_cV2 gi_252_3 gk_50 go_251 (Nat.le_of_ble_eq_true rfl) gc_251_RII ?_
      refine z_iload1 gi_251_0 ?_
      refine z_cS1 gi_251_1 (Nat.le_of_ble_eq_true rfl) gc_248_I ?_
      refine z_iload0 gi_248_0 ?_
      refine z_pushJ gp_248_1 ?_
      refine z_pushJ gp_248_2 ?_
      refine z_cS3 gi_248_3 (Nat.le_of_ble_eq_true rfl) gc_148_III ?_
      refine z_iload0 gi_148_0 ?_
      refine z_iload1 gi_148_1 ?_
      refine z_icmp_ltF gi_148_2 zr_1 zr_0 (by decide) ?_
      refine z_iload0 gi_148_5 ?_
      refine z_iload2 gi_148_6 ?_
      refine z_icmp_gtF gi_148_7 zr_1 zr_5 (by decide) ?_
      refine z_pushJ gp_148_10 ?_
      refine z_goto gi_148_11 ?_
      refine z_bret1 gi_148_15 gr_148 ?_
      show zW _ _ _ _ _ _ _ _ _ _
      refine z_bret1 gi_248_6 gr_248 ?_
      show zW _ _ _ _ _ _ _ _ _ _
      refine z_if_neT gi_251_4 zr_1 (by decide) ?_
      refine z_aload0 gi_251_9 ?_
      refine z_getR (r := 83) gi_251_10 gk_50 (hRr _ rm_50_58 (by decide)) ?_
      refine z_iload1 gi_251_13 ?_
      refine z_iald (v := (-4)) gi_251_14 gk_83 (by decide) (by decide) ((e83.trans (by rw [hso]; rfl))) ?_
      refine z_pushJ gp_251_15 ?_
      refine z_icmp_neT gi_251_16 zrn_4 zrn_1 (by decide) ?_
      refine z_aload0 gi_251_22 ?_
      refine z_getR (r := 83) gi_251_23 gk_50 (hRr _ rm_50_58 (by decide)) ?_
      refine z_iload1 gi_251_26 ?_
      refine z_iald (v := (-4)) gi_251_27 gk_83 (by decide) (by decide) ((e83.trans (by rw [hso]; rfl))) ?_
      refine z_if_ltT gi_251_28 zrn_4 (by decide) ?_
      refine z_iload2 gi_251_34 ?_
      refine z_pushJ gp_251_35 ?_
      refine z_aload0 gi_251_36 ?_
      refine z_getR (r := 84) gi_251_37 gk_50 (hRr _ rm_50_59 (by decide)) ?_
      refine z_iload1 gi_251_40 ?_
      refine z_iald (v := J 40 3) gi_251_41 gk_84 (by decide) (by decide) (s7) ?_
      refine z_pushJ gp_251_42 ?_
      refine z_isub (e := (J 40 3) - 1) gi_251_43 rfl ?_
      refine z_cS3 gi_251_44 (Nat.le_of_ble_eq_true rfl) gc_148_III ?_
      refine z_iload0 gi_148_0 ?_
      refine z_iload1 gi_148_1 ?_
      refine z_icmp_ltF gi_148_2 (by omega) zr_0 (by omega) ?_
      refine z_iload0 gi_148_5 ?_
      refine z_iload2 gi_148_6 ?_
      refine z_icmp_gtF gi_148_7 (by omega) (by omega) (by omega) ?_
      refine z_pushJ gp_148_10 ?_
      refine z_goto gi_148_11 ?_
      refine z_bret1 gi_148_15 gr_148 ?_
      show zW _ _ _ _ _ _ _ _ _ _
      refine z_if_eqF gi_251_47 zr_1 (by decide) ?_
      refine z_pushJ gp_251_50 ?_
      refine z_goto gi_251_51 ?_
      refine z_iret gi_251_56 gr_251 ?_
      show zW _ _ _ _ _ _ _ _ _ _
      refine z_istore (ls1 := [some (.ref 50), some (zi 1), some (zi i), some (zl v), none, some (zi 0), none]) gi_252_6 rfl ?_
      refine z_iload5 gi_252_8 ?_
      refine z_if_geT gi_252_10 zr_0 (by decide) ?_
      refine z_pushJ gp_252_16 ?_
      refine z_aload0 gi_252_18 ?_
      refine z_getR (r := 83) gi_252_19 gk_50 (hRr _ rm_50_58 (by decide)) ?_
      refine z_iload1 gi_252_22 ?_
      refine z_iald (v := (-4)) gi_252_23 gk_83 (by decide) (by decide) ((e83.trans (by rw [hso]; rfl))) ?_
      refine z_isub (e := 2) gi_252_24 rfl ?_
      refine z_istore (ls1 := [some (.ref 50), some (zi 1), some (zi i), some (zl v), none, some (zi 0), some (zi 2)]) gi_252_25 rfl ?_
      refine z_aload0 gi_252_27 ?_
      refine z_getR (r := 85) gi_252_28 gk_50 (hRr _ rm_50_60 (by decide)) ?_
      refine z_pushJ gp_252_31 ?_
      refine z_iload1 gi_252_33 ?_
      refine z_imul (e := 60) gi_252_34 rfl ?_
      refine z_iload2 gi_252_35 ?_
      refine z_iadd (e := 60 + i) gi_252_36 rfl ?_
      refine z_iload6 gi_252_37 ?_
      refine z_if_neT gi_252_39 zr_2 (by decide) ?_
      refine z_iload6 gi_252_49 ?_
      refine z_pushJ gp_252_51 ?_
      refine z_icmp_neT gi_252_52 zr_2 zr_1 (by decide) ?_
      refine z_iload6 gi_252_62 ?_
      refine z_pushJ gp_252_64 ?_
      refine z_icmp_neF gi_252_65 zr_2 zr_2 (by decide) ?_
      refine z_lload3 gi_252_68 ?_
      refine z_l2i gi_252_69 ?_
      refine z_topn (e := zn v) rfl ?_
      have q4 := zn_r v
      refine z_i2l gi_252_70 (by omega) ?_
      refine z_goto gi_252_71 ?_
      refine z_last (e := zn v) gi_252_95 gk_85 (by decide) (by omega) rfl ?_
      refine z_pushJ gp_252_96 ?_
      refine z_iret gi_252_97 gr_252 ?_
      refine ⟨?_, ?_⟩
      · first | rfl | exact congrArg (fun v => some (zi v)) (by omega) | (exfalso; omega)
      · have hk := (zK_r (k := (kL [] [])) (A := J))
        have hkm := (zK_x (a := 85) (x := 60 + i) (v := zn v) (zK_x (a := 41) (x := i) (v := zn v) (zK_r (k := (kL [41, 85] [])) (A := M)) rfl) rfl)
        exact ⟨hR, hG, RelY_k hk (by repeat' constructor) (fun p => by repeat' constructor) hY, RelD_k hk (by repeat' constructor) (fun p => by repeat' constructor) hD, RelP_k hk (by repeat' constructor) (fun p => by repeat' constructor) hP, RelC_k hk (by repeat' constructor) (fun p => by repeat' constructor) hC, RelA_k hk (by repeat' constructor) (fun p => by repeat' constructor) hAc, (RelS_one (J := J) (M := M) (c := 1) (fun t t1 t2 te => by have q : t = 0 ∨ t = 1 ∨ t = 2 ∨ t = 3 ∨ t = 4 ∨ t = 5 := (by omega); rcases q with rfl | rfl | rfl | rfl | rfl | rfl <;> first | exact absurd rfl te | exact ⟨fun j => rfl, rfl, rfl⟩) (fun t t1 t2 te => by have q : t = 0 ∨ t = 1 ∨ t = 2 ∨ t = 3 ∨ t = 4 ∨ t = 5 := (by omega); rcases q with rfl | rfl | rfl | rfl | rfl | rfl <;> first | exact absurd rfl te | exact ⟨fun j => rfl, fun j j1 j2 => (zU_x (by omega)).trans (zU_n (by decide))⟩) rfl (show RelS1 _ _ _ from ⟨(hS 1 (by decide) (by decide)).1, (hS 1 (by decide) (by decide)).2.1, s3, s4, (hS 1 (by decide) (by decide)).2.2.2.2.1, fun _ => ⟨s7.symm, fun k k1 k2 => by show (if k = i then zn v else M 41 k) = (if 60 + k = 60 + i then zn v else M 85 (60 + k)); by_cases e : k = i; rw [if_pos e, if_pos (by omega)]; rw [if_neg e, if_neg (by omega)]; exact s8 k k1 k2, (fun hq => absurd (Eq.trans (Eq.symm hq) hso) (by decide))⟩⟩) hS), RelT_k hk (by repeat' constructor) (fun p => by repeat' constructor) hTp, RelX_k hk (by repeat' constructor) (fun p => by repeat' constructor) hX, RelW_k hk ⟨rfl, rfl⟩ trivial hW⟩
theorem st_put_123 {X : Nat × (Nat → Int32)} {d : Nat} {J M : zA} {R : zR} {i v : Int} (hr : Rel X J M R) (hi : -2147483648 ≤ i ∧ i < 2147483648) (hv : -9223372036854775808 ≤ v ∧ v < 9223372036854775808) (hh : J 40 0 = 2) (hso : J 40 2 = 3) : zW X (d + 20) 138 0 (gEn 138 [(.ref 0), (zi 1), (zi i), (zl v)]) [] J M R (stP X (d + 20) 252 [(zi 1), (zi i), (zl v)]) := by
  have hr0 := hr
  obtain ⟨hR, hG, hY, hD, hP, hC, hAc, hS, hTp, hX, hW⟩ := hr0
  have hRr : zRoR R := zRoR_of hR
  have e83 : J 83 1 = -2 - J 40 2 := (hS 1 (by decide) (by decide)).1.symm.trans (cH_2 hh)
  have s3 : 0 ≤ J 40 2 ∧ J 40 2 ≤ 4 := (hS 1 (by decide) (by decide)).2.2.1
  have s4 : 0 ≤ J 40 3 ∧ J 40 3 ≤ 60 := (hS 1 (by decide) (by decide)).2.2.2.1
  have s6 := (hS 1 (by decide) (by decide)).2.2.2.2.2 hh
  have s7 : J 84 1 = J 40 3 := s6.1.symm
  have s8 : ∀ i, 0 ≤ i → i < J 40 3 → M 41 i = M 85 (60 + i) := s6.2.1
  show zW _ _ _ _ [some (.ref 0), some (zi 1), some (zi i), some (zl v), none, none] _ _ _ _ _
  refine z_iload1 gi_138_0 ?_
  refine z_cS1 gi_138_1 (Nat.le_of_ble_eq_true rfl) gc_143_I ?_
  refine z_iload0 gi_143_0 ?_
  refine z_if_ltF gi_143_1 zr_1 (by decide) ?_
  refine z_iload0 gi_143_4 ?_
  refine z_pushJ gp_143_5 ?_
  refine z_icmp_geF gi_143_7 zr_1 zr_6 (by decide) ?_
  refine z_pushJ gp_143_10 ?_
  refine z_goto gi_143_11 ?_
  refine z_bret1 gi_143_15 gr_143 ?_
  show zW _ _ _ _ _ _ _ _ _ _
  refine z_if_neT gi_138_4 zr_1 (by decide) ?_
  refine z_aload0 gi_138_9 ?_
  refine z_getR (r := 37) gi_138_10 gk_0 (hR _ rm_0_11) ?_
  refine z_iload1 gi_138_13 ?_
  refine z_aald (r := 40) gi_138_14 rfl (by decide) (by decide) (hR _ rm_37_1) ?_
  refine z_iload2 gi_138_15 ?_
  refine z_cV1 gi_138_16 gk_40 go_70 (Nat.le_of_ble_eq_true rfl) gc_70_RI ?_
  refine z_aload0 gi_70_0 ?_
  refine z_getI (v := 2) gi_70_1 gk_40 (hh) ?_
  refine z_if_neT gi_70_4 zr_2 (by decide) ?_
  refine z_aload0 gi_70_10 ?_
  refine z_getI (v := 2) gi_70_11 gk_40 (hh) ?_
  refine z_pushJ gp_70_14 ?_
  refine z_icmp_eqT gi_70_15 zr_2 zr_2 (by decide) ?_
  refine z_iload1 gi_70_21 ?_
  refine z_if_lt gi_70_22 (by omega) (fun h1 => ?_) (fun h1 => ?_)
  · refine z_pushJ gp_70_37 ?_
    refine z_iret gi_70_39 gr_70 ?_
    show zW _ _ _ _ _ _ _ _ _ _
    refine z_istore (ls1 := [some (.ref 0), some (zi 1), some (zi i), some (zl v), none, some (zi (-13))]) gi_138_19 rfl ?_
    refine z_iload5 gi_138_21 ?_
    refine z_if_geF gi_138_23 zrn_13 (by decide) ?_
    refine z_iload5 gi_138_26 ?_
    refine z_iret gi_138_28 gr_138 ?_
    refine ⟨_, rfl, ?_⟩
    show zW _ _ _ _ [some (.ref 50), some (zi 1), some (zi i), some (zl v), none, none, none] _ _ _ _ _
    refine z_aload0 gi_252_0 ?_
    refine z_iload1 gi_252_1 ?_
    refine z_iload2 gi_252_2 ?_
    refine z_cV2 gi_252_3 gk_50 go_251 (Nat.le_of_ble_eq_true rfl) gc_251_RII ?_
    refine z_iload1 gi_251_0 ?_
    refine z_cS1 gi_251_1 (Nat.le_of_ble_eq_true rfl) gc_248_I ?_
    refine z_iload0 gi_248_0 ?_
    refine z_pushJ gp_248_1 ?_
    refine z_pushJ gp_248_2 ?_
    refine z_cS3 gi_248_3 (Nat.le_of_ble_eq_true rfl) gc_148_III ?_
    refine z_iload0 gi_148_0 ?_
    refine z_iload1 gi_148_1 ?_
    refine z_icmp_ltF gi_148_2 zr_1 zr_0 (by decide) ?_
    refine z_iload0 gi_148_5 ?_
    refine z_iload2 gi_148_6 ?_
    refine z_icmp_gtF gi_148_7 zr_1 zr_5 (by decide) ?_
    refine z_pushJ gp_148_10 ?_
    refine z_goto gi_148_11 ?_
    refine z_bret1 gi_148_15 gr_148 ?_
    show zW _ _ _ _ _ _ _ _ _ _
    refine z_bret1 gi_248_6 gr_248 ?_
    show zW _ _ _ _ _ _ _ _ _ _
    refine z_if_neT gi_251_4 zr_1 (by decide) ?_
    refine z_aload0 gi_251_9 ?_
    refine z_getR (r := 83) gi_251_10 gk_50 (hRr _ rm_50_58 (by decide)) ?_
    refine z_iload1 gi_251_13 ?_
    refine z_iald (v := (-5)) gi_251_14 gk_83 (by decide) (by decide) ((e83.trans (by rw [hso]; rfl))) ?_
    refine z_pushJ gp_251_15 ?_
    refine z_icmp_neT gi_251_16 zrn_5 zrn_1 (by decide) ?_
    refine z_aload0 gi_251_22 ?_
    refine z_getR (r := 83) gi_251_23 gk_50 (hRr _ rm_50_58 (by decide)) ?_
    refine z_iload1 gi_251_26 ?_
    refine z_iald (v := (-5)) gi_251_27 gk_83 (by decide) (by decide) ((e83.trans (by rw [hso]; rfl))) ?_
    refine z_if_ltT gi_251_28 zrn_5 (by decide) ?_
    refine z_iload2 gi_251_34 ?_
    refine z_pushJ gp_251_35 ?_
    refine z_aload0 gi_251_36 ?_
    refine z_getR (r := 84) gi_251_37 gk_50 (hRr _ rm_50_59 (by decide)) ?_
    refine z_iload1 gi_251_40 ?_
    refine z_iald (v := J 40 3) gi_251_41 gk_84 (by decide) (by decide) (s7) ?_
    refine z_pushJ gp_251_42 ?_
    refine z_isub (e := (J 40 3) - 1) gi_251_43 rfl ?_
    refine z_cS3 gi_251_44 (Nat.le_of_ble_eq_true rfl) gc_148_III ?_
    refine z_iload0 gi_148_0 ?_
    refine z_iload1 gi_148_1 ?_
    refine z_icmp_ltT gi_148_2 (by omega) zr_0 (by omega) ?_
    refine z_pushJ gp_148_14 ?_
    refine z_bret0 gi_148_15 gr_148 ?_
    show zW _ _ _ _ _ _ _ _ _ _
    refine z_if_eqT gi_251_47 zr_0 (by decide) ?_
    refine z_pushJ gp_251_54 ?_
    refine z_iret gi_251_56 gr_251 ?_
    show zW _ _ _ _ _ _ _ _ _ _
    refine z_istore (ls1 := [some (.ref 50), some (zi 1), some (zi i), some (zl v), none, some (zi (-13)), none]) gi_252_6 rfl ?_
    refine z_iload5 gi_252_8 ?_
    refine z_if_geF gi_252_10 zrn_13 (by decide) ?_
    refine z_iload5 gi_252_13 ?_
    refine z_iret gi_252_15 gr_252 ?_
    refine ⟨?_, ?_⟩
    · first | rfl | exact congrArg (fun v => some (zi v)) (by omega) | (exfalso; omega)
    · exact hr
  · refine z_iload1 gi_70_25 ?_
    refine z_aload0 gi_70_26 ?_
    refine z_getI (v := J 40 3) gi_70_27 gk_40 (rfl) ?_
    refine z_icmp_ge gi_70_30 (by omega) (by omega) (fun h2 => ?_) (fun h2 => ?_)
    · refine z_pushJ gp_70_37 ?_
      refine z_iret gi_70_39 gr_70 ?_
      show zW _ _ _ _ _ _ _ _ _ _
      refine z_istore (ls1 := [some (.ref 0), some (zi 1), some (zi i), some (zl v), none, some (zi (-13))]) gi_138_19 rfl ?_
      refine z_iload5 gi_138_21 ?_
      refine z_if_geF gi_138_23 zrn_13 (by decide) ?_
      refine z_iload5 gi_138_26 ?_
      refine z_iret gi_138_28 gr_138 ?_
      refine ⟨_, rfl, ?_⟩
      show zW _ _ _ _ [some (.ref 50), some (zi 1), some (zi i), some (zl v), none, none, none] _ _ _ _ _
      refine z_aload0 gi_252_0 ?_
      refine z_iload1 gi_252_1 ?_
      refine z_iload2 gi_252_2 ?_
      refine z_cV2 gi_252_3 gk_50 go_251 (Nat.le_of_ble_eq_true rfl) gc_251_RII ?_
      refine z_iload1 gi_251_0 ?_
      refine z_cS1 gi_251_1 (Nat.le_of_ble_eq_true rfl) gc_248_I ?_
      refine z_iload0 gi_248_0 ?_
      refine z_pushJ gp_248_1 ?_
      refine z_pushJ gp_248_2 ?_
      refine z_cS3 gi_248_3 (Nat.le_of_ble_eq_true rfl) gc_148_III ?_
      refine z_iload0 gi_148_0 ?_
      refine z_iload1 gi_148_1 ?_
      refine z_icmp_ltF gi_148_2 zr_1 zr_0 (by decide) ?_
      refine z_iload0 gi_148_5 ?_
      refine z_iload2 gi_148_6 ?_
      refine z_icmp_gtF gi_148_7 zr_1 zr_5 (by decide) ?_
      refine z_pushJ gp_148_10 ?_
      refine z_goto gi_148_11 ?_
      refine z_bret1 gi_148_15 gr_148 ?_
      show zW _ _ _ _ _ _ _ _ _ _
      refine z_bret1 gi_248_6 gr_248 ?_
      show zW _ _ _ _ _ _ _ _ _ _
      refine z_if_neT gi_251_4 zr_1 (by decide) ?_
      refine z_aload0 gi_251_9 ?_
      refine z_getR (r := 83) gi_251_10 gk_50 (hRr _ rm_50_58 (by decide)) ?_
      refine z_iload1 gi_251_13 ?_
      refine z_iald (v := (-5)) gi_251_14 gk_83 (by decide) (by decide) ((e83.trans (by rw [hso]; rfl))) ?_
      refine z_pushJ gp_251_15 ?_
      refine z_icmp_neT gi_251_16 zrn_5 zrn_1 (by decide) ?_
      refine z_aload0 gi_251_22 ?_
      refine z_getR (r := 83) gi_251_23 gk_50 (hRr _ rm_50_58 (by decide)) ?_
      refine z_iload1 gi_251_26 ?_
      refine z_iald (v := (-5)) gi_251_27 gk_83 (by decide) (by decide) ((e83.trans (by rw [hso]; rfl))) ?_
      refine z_if_ltT gi_251_28 zrn_5 (by decide) ?_
      refine z_iload2 gi_251_34 ?_
      refine z_pushJ gp_251_35 ?_
      refine z_aload0 gi_251_36 ?_
      refine z_getR (r := 84) gi_251_37 gk_50 (hRr _ rm_50_59 (by decide)) ?_
      refine z_iload1 gi_251_40 ?_
      refine z_iald (v := J 40 3) gi_251_41 gk_84 (by decide) (by decide) (s7) ?_
      refine z_pushJ gp_251_42 ?_
      refine z_isub (e := (J 40 3) - 1) gi_251_43 rfl ?_
      refine z_cS3 gi_251_44 (Nat.le_of_ble_eq_true rfl) gc_148_III ?_
      refine z_iload0 gi_148_0 ?_
      refine z_iload1 gi_148_1 ?_
      refine z_icmp_ltF gi_148_2 (by omega) zr_0 (by omega) ?_
      refine z_iload0 gi_148_5 ?_
      refine z_iload2 gi_148_6 ?_
      refine z_icmp_gtT gi_148_7 (by omega) (by omega) (by omega) ?_
      refine z_pushJ gp_148_14 ?_
      refine z_bret0 gi_148_15 gr_148 ?_
      show zW _ _ _ _ _ _ _ _ _ _
      refine z_if_eqT gi_251_47 zr_0 (by decide) ?_
      refine z_pushJ gp_251_54 ?_
      refine z_iret gi_251_56 gr_251 ?_
      show zW _ _ _ _ _ _ _ _ _ _
      refine z_istore (ls1 := [some (.ref 50), some (zi 1), some (zi i), some (zl v), none, some (zi (-13)), none]) gi_252_6 rfl ?_
      refine z_iload5 gi_252_8 ?_
      refine z_if_geF gi_252_10 zrn_13 (by decide) ?_
      refine z_iload5 gi_252_13 ?_
      refine z_iret gi_252_15 gr_252 ?_
      refine ⟨?_, ?_⟩
      · first | rfl | exact congrArg (fun v => some (zi v)) (by omega) | (exfalso; omega)
      · exact hr
    · refine z_pushJ gp_70_33 ?_
      refine z_goto gi_70_34 ?_
      refine z_iret gi_70_39 gr_70 ?_
      show zW _ _ _ _ _ _ _ _ _ _
      refine z_istore (ls1 := [some (.ref 0), some (zi 1), some (zi i), some (zl v), none, some (zi 0)]) gi_138_19 rfl ?_
      refine z_iload5 gi_138_21 ?_
      refine z_if_geT gi_138_23 zr_0 (by decide) ?_
      refine z_aload0 gi_138_29 ?_
      refine z_getR (r := 37) gi_138_30 gk_0 (hR _ rm_0_11) ?_
      refine z_iload1 gi_138_33 ?_
      refine z_aald (r := 40) gi_138_34 rfl (by decide) (by decide) (hR _ rm_37_1) ?_
      refine z_iload2 gi_138_35 ?_
      refine z_lload3 gi_138_36 ?_
      refine z_callVi (As := [_, _]) (le := [some _, some _, some _, none]) gi_138_37 rfl gk_40 (Nat.le_of_ble_eq_true rfl) (Nat.le_of_ble_eq_true rfl) rfl ?_
      refine z_iload1 gi_73_0 ?_
      refine z_if_ltF gi_73_1 (by omega) (by omega) ?_
      refine z_iload1 gi_73_4 ?_
      refine z_aload0 gi_73_5 ?_
      refine z_getI (v := J 40 3) gi_73_6 gk_40 (rfl) ?_
      refine z_icmp_geF gi_73_9 (by omega) (by omega) (by omega) ?_
      refine z_aload0 gi_73_12 ?_
      refine z_getR (r := 41) gi_73_13 gk_40 (hR _ rm_40_4) ?_
      refine z_iload1 gi_73_16 ?_
      refine z_aload0 gi_73_17 ?_
      refine z_lload2 gi_73_18 ?_
      refine z_callVi (As := [_]) (le := [some _, some _, none]) gi_73_19 rfl gk_40 (Nat.le_of_ble_eq_true rfl) (Nat.le_of_ble_eq_true rfl) rfl ?_
      refine z_aload0 gi_74_0 ?_
      refine z_getI (v := 3) gi_74_1 gk_40 (hso) ?_
      refine z_swI (tg := 66) gi_74_4 (by decide) (T := [((0 : Int), 40), ((1 : Int), 45), ((2 : Int), 50), ((3 : Int), 66), ((4 : Int), 54)]) rfl (by decide) ?_
      refine z_lload1 gi_74_66 ?_
      refine z_lret gi_74_67 gr_74 ?_
      show zW _ _ _ _ _ _ _ _ _ _
      refine z_last (e := v) gi_73_22 gk_41 (by decide) (by omega) rfl ?_
      refine z_vret gi_73_23 gr_73 ?_
      show zW _ _ _ _ _ _ _ _ _ _
      refine z_pushJ gp_138_40 ?_
      refine z_iret gi_138_41 gr_138 ?_
      refine ⟨_, rfl, ?_⟩
      show zW _ _ _ _ [some (.ref 50), some (zi 1), some (zi i), some (zl v), none, none, none] _ _ _ _ _
      refine z_aload0 gi_252_0 ?_
      refine z_iload1 gi_252_1 ?_
      refine z_iload2 gi_252_2 ?_
      refine z_cV2 gi_252_3 gk_50 go_251 (Nat.le_of_ble_eq_true rfl) gc_251_RII ?_
      refine z_iload1 gi_251_0 ?_
      refine z_cS1 gi_251_1 (Nat.le_of_ble_eq_true rfl) gc_248_I ?_
      refine z_iload0 gi_248_0 ?_
      refine z_pushJ gp_248_1 ?_
      refine z_pushJ gp_248_2 ?_
      refine z_cS3 gi_248_3 (Nat.le_of_ble_eq_true rfl) gc_148_III ?_
      refine z_iload0 gi_148_0 ?_
      refine z_iload1 gi_148_1 ?_
      refine z_icmp_ltF gi_148_2 zr_1 zr_0 (by decide) ?_
      refine z_iload0 gi_148_5 ?_
      refine z_iload2 gi_148_6 ?_
      refine z_icmp_gtF gi_148_7 zr_1 zr_5 (by decide) ?_
      refine z_pushJ gp_148_10 ?_
      refine z_goto gi_148_11 ?_
      refine z_bret1 gi_148_15 gr_148 ?_
      show zW _ _ _ _ _ _ _ _ _ _
      refine z_bret1 gi_248_6 gr_248 ?_
      show zW _ _ _ _ _ _ _ _ _ _
      refine z_if_neT gi_251_4 zr_1 (by decide) ?_
      refine z_aload0 gi_251_9 ?_
      refine z_getR (r := 83) gi_251_10 gk_50 (hRr _ rm_50_58 (by decide)) ?_
      refine z_iload1 gi_251_13 ?_
      refine z_iald (v := (-5)) gi_251_14 gk_83 (by decide) (by decide) ((e83.trans (by rw [hso]; rfl))) ?_
      refine z_pushJ gp_251_15 ?_
      refine z_icmp_neT gi_251_16 zrn_5 zrn_1 (by decide) ?_
      refine z_aload0 gi_251_22 ?_
      refine z_getR (r := 83) gi_251_23 gk_50 (hRr _ rm_50_58 (by decide)) ?_
      refine z_iload1 gi_251_26 ?_
      refine z_iald (v := (-5)) gi_251_27 gk_83 (by decide) (by decide) ((e83.trans (by rw [hso]; rfl))) ?_
      refine z_if_ltT gi_251_28 zrn_5 (by decide) ?_
      refine z_iload2 gi_251_34 ?_
      refine z_pushJ gp_251_35 ?_
      refine z_aload0 gi_251_36 ?_
      refine z_getR (r := 84) gi_251_37 gk_50 (hRr _ rm_50_59 (by decide)) ?_
      refine z_iload1 gi_251_40 ?_
      refine z_iald (v := J 40 3) gi_251_41 gk_84 (by decide) (by decide) (s7) ?_
      refine z_pushJ gp_251_42 ?_
      refine z_isub (e := (J 40 3) - 1) gi_251_43 rfl ?_
      refine z_cS3 gi_251_44 (Nat.le_of_ble_eq_true rfl) gc_148_III ?_
      refine z_iload0 gi_148_0 ?_
      refine z_iload1 gi_148_1 ?_
      refine z_icmp_ltF gi_148_2 (by omega) zr_0 (by omega) ?_
      refine z_iload0 gi_148_5 ?_
      refine z_iload2 gi_148_6 ?_
      refine z_icmp_gtF gi_148_7 (by omega) (by omega) (by omega) ?_
      refine z_pushJ gp_148_10 ?_
      refine z_goto gi_148_11 ?_
      refine z_bret1 gi_148_15 gr_148 ?_
      show zW _ _ _ _ _ _ _ _ _ _
      refine z_if_eqF gi_251_47 zr_1 (by decide) ?_
      refine z_pushJ gp_251_50 ?_
      refine z_goto gi_251_51 ?_
      refine z_iret gi_251_56 gr_251 ?_
      show zW _ _ _ _ _ _ _ _ _ _
      refine z_istore (ls1 := [some (.ref 50), some (zi 1), some (zi i), some (zl v), none, some (zi 0), none]) gi_252_6 rfl ?_
      refine z_iload5 gi_252_8 ?_
      refine z_if_geT gi_252_10 zr_0 (by decide) ?_
      refine z_pushJ gp_252_16 ?_
      refine z_aload0 gi_252_18 ?_
      refine z_getR (r := 83) gi_252_19 gk_50 (hRr _ rm_50_58 (by decide)) ?_
      refine z_iload1 gi_252_22 ?_
      refine z_iald (v := (-5)) gi_252_23 gk_83 (by decide) (by decide) ((e83.trans (by rw [hso]; rfl))) ?_
      refine z_isub (e := 3) gi_252_24 rfl ?_
      refine z_istore (ls1 := [some (.ref 50), some (zi 1), some (zi i), some (zl v), none, some (zi 0), some (zi 3)]) gi_252_25 rfl ?_
      refine z_aload0 gi_252_27 ?_
      refine z_getR (r := 85) gi_252_28 gk_50 (hRr _ rm_50_60 (by decide)) ?_
      refine z_pushJ gp_252_31 ?_
      refine z_iload1 gi_252_33 ?_
      refine z_imul (e := 60) gi_252_34 rfl ?_
      refine z_iload2 gi_252_35 ?_
      refine z_iadd (e := 60 + i) gi_252_36 rfl ?_
      refine z_iload6 gi_252_37 ?_
      refine z_if_neT gi_252_39 zr_3 (by decide) ?_
      refine z_iload6 gi_252_49 ?_
      refine z_pushJ gp_252_51 ?_
      refine z_icmp_neT gi_252_52 zr_3 zr_1 (by decide) ?_
      refine z_iload6 gi_252_62 ?_
      refine z_pushJ gp_252_64 ?_
      refine z_icmp_neT gi_252_65 zr_3 zr_2 (by decide) ?_
      refine z_iload6 gi_252_74 ?_
      refine z_pushJ gp_252_76 ?_
      refine z_icmp_neF gi_252_77 zr_3 zr_3 (by decide) ?_
      refine z_lload3 gi_252_80 ?_
      refine z_goto gi_252_81 ?_
      refine z_last (e := v) gi_252_95 gk_85 (by decide) (by omega) rfl ?_
      refine z_pushJ gp_252_96 ?_
      refine z_iret gi_252_97 gr_252 ?_
      refine ⟨?_, ?_⟩
      · first | rfl | exact congrArg (fun v => some (zi v)) (by omega) | (exfalso; omega)
      · have hk := (zK_r (k := (kL [] [])) (A := J))
        have hkm := (zK_x (a := 85) (x := 60 + i) (v := v) (zK_x (a := 41) (x := i) (v := v) (zK_r (k := (kL [41, 85] [])) (A := M)) rfl) rfl)
        exact ⟨hR, hG, RelY_k hk (by repeat' constructor) (fun p => by repeat' constructor) hY, RelD_k hk (by repeat' constructor) (fun p => by repeat' constructor) hD, RelP_k hk (by repeat' constructor) (fun p => by repeat' constructor) hP, RelC_k hk (by repeat' constructor) (fun p => by repeat' constructor) hC, RelA_k hk (by repeat' constructor) (fun p => by repeat' constructor) hAc, (RelS_one (J := J) (M := M) (c := 1) (fun t t1 t2 te => by have q : t = 0 ∨ t = 1 ∨ t = 2 ∨ t = 3 ∨ t = 4 ∨ t = 5 := (by omega); rcases q with rfl | rfl | rfl | rfl | rfl | rfl <;> first | exact absurd rfl te | exact ⟨fun j => rfl, rfl, rfl⟩) (fun t t1 t2 te => by have q : t = 0 ∨ t = 1 ∨ t = 2 ∨ t = 3 ∨ t = 4 ∨ t = 5 := (by omega); rcases q with rfl | rfl | rfl | rfl | rfl | rfl <;> first | exact absurd rfl te | exact ⟨fun j => rfl, fun j j1 j2 => (zU_x (by omega)).trans (zU_n (by decide))⟩) rfl (show RelS1 _ _ _ from ⟨(hS 1 (by decide) (by decide)).1, (hS 1 (by decide) (by decide)).2.1, s3, s4, (hS 1 (by decide) (by decide)).2.2.2.2.1, fun _ => ⟨s7.symm, fun k k1 k2 => by show (if k = i then v else M 41 k) = (if 60 + k = 60 + i then v else M 85 (60 + k)); by_cases e : k = i; rw [if_pos e, if_pos (by omega)]; rw [if_neg e, if_neg (by omega)]; exact s8 k k1 k2, (fun hq => absurd (Eq.trans (Eq.symm hq) hso) (by decide))⟩⟩) hS), RelT_k hk (by repeat' constructor) (fun p => by repeat' constructor) hTp, RelX_k hk (by repeat' constructor) (fun p => by repeat' constructor) hX, RelW_k hk ⟨rfl, rfl⟩ trivial hW⟩
theorem st_put_124 {X : Nat × (Nat → Int32)} {d : Nat} {J M : zA} {R : zR} {i v : Int} (hr : Rel X J M R) (hi : -2147483648 ≤ i ∧ i < 2147483648) (hv : -9223372036854775808 ≤ v ∧ v < 9223372036854775808) (hh : J 40 0 = 2) (hso : J 40 2 = 4) : zW X (d + 20) 138 0 (gEn 138 [(.ref 0), (zi 1), (zi i), (zl v)]) [] J M R (stP X (d + 20) 252 [(zi 1), (zi i), (zl v)]) := by
  have hr0 := hr
  obtain ⟨hR, hG, hY, hD, hP, hC, hAc, hS, hTp, hX, hW⟩ := hr0
  have hRr : zRoR R := zRoR_of hR
  have e83 : J 83 1 = -2 - J 40 2 := (hS 1 (by decide) (by decide)).1.symm.trans (cH_2 hh)
  have s3 : 0 ≤ J 40 2 ∧ J 40 2 ≤ 4 := (hS 1 (by decide) (by decide)).2.2.1
  have s4 : 0 ≤ J 40 3 ∧ J 40 3 ≤ 60 := (hS 1 (by decide) (by decide)).2.2.2.1
  have s6 := (hS 1 (by decide) (by decide)).2.2.2.2.2 hh
  have s7 : J 84 1 = J 40 3 := s6.1.symm
  have s8 : ∀ i, 0 ≤ i → i < J 40 3 → M 41 i = M 85 (60 + i) := s6.2.1
  show zW _ _ _ _ [some (.ref 0), some (zi 1), some (zi i), some (zl v), none, none] _ _ _ _ _
  refine z_iload1 gi_138_0 ?_
  refine z_cS1 gi_138_1 (Nat.le_of_ble_eq_true rfl) gc_143_I ?_
  refine z_iload0 gi_143_0 ?_
  refine z_if_ltF gi_143_1 zr_1 (by decide) ?_
  refine z_iload0 gi_143_4 ?_
  refine z_pushJ gp_143_5 ?_
  refine z_icmp_geF gi_143_7 zr_1 zr_6 (by decide) ?_
  refine z_pushJ gp_143_10 ?_
  refine z_goto gi_143_11 ?_
  refine z_bret1 gi_143_15 gr_143 ?_
  show zW _ _ _ _ _ _ _ _ _ _
  refine z_if_neT gi_138_4 zr_1 (by decide) ?_
  refine z_aload0 gi_138_9 ?_
  refine z_getR (r := 37) gi_138_10 gk_0 (hR _ rm_0_11) ?_
  refine z_iload1 gi_138_13 ?_
  refine z_aald (r := 40) gi_138_14 rfl (by decide) (by decide) (hR _ rm_37_1) ?_
  refine z_iload2 gi_138_15 ?_
  refine z_cV1 gi_138_16 gk_40 go_70 (Nat.le_of_ble_eq_true rfl) gc_70_RI ?_
  refine z_aload0 gi_70_0 ?_
  refine z_getI (v := 2) gi_70_1 gk_40 (hh) ?_
  refine z_if_neT gi_70_4 zr_2 (by decide) ?_
  refine z_aload0 gi_70_10 ?_
  refine z_getI (v := 2) gi_70_11 gk_40 (hh) ?_
  refine z_pushJ gp_70_14 ?_
  refine z_icmp_eqT gi_70_15 zr_2 zr_2 (by decide) ?_
  refine z_iload1 gi_70_21 ?_
  refine z_if_lt gi_70_22 (by omega) (fun h1 => ?_) (fun h1 => ?_)
  · refine z_pushJ gp_70_37 ?_
    refine z_iret gi_70_39 gr_70 ?_
    show zW _ _ _ _ _ _ _ _ _ _
    refine z_istore (ls1 := [some (.ref 0), some (zi 1), some (zi i), some (zl v), none, some (zi (-13))]) gi_138_19 rfl ?_
    refine z_iload5 gi_138_21 ?_
    refine z_if_geF gi_138_23 zrn_13 (by decide) ?_
    refine z_iload5 gi_138_26 ?_
    refine z_iret gi_138_28 gr_138 ?_
    refine ⟨_, rfl, ?_⟩
    show zW _ _ _ _ [some (.ref 50), some (zi 1), some (zi i), some (zl v), none, none, none] _ _ _ _ _
    refine z_aload0 gi_252_0 ?_
    refine z_iload1 gi_252_1 ?_
    refine z_iload2 gi_252_2 ?_
    refine z_cV2 gi_252_3 gk_50 go_251 (Nat.le_of_ble_eq_true rfl) gc_251_RII ?_
    refine z_iload1 gi_251_0 ?_
    refine z_cS1 gi_251_1 (Nat.le_of_ble_eq_true rfl) gc_248_I ?_
    refine z_iload0 gi_248_0 ?_
    refine z_pushJ gp_248_1 ?_
    refine z_pushJ gp_248_2 ?_
    refine z_cS3 gi_248_3 (Nat.le_of_ble_eq_true rfl) gc_148_III ?_
    refine z_iload0 gi_148_0 ?_
    refine z_iload1 gi_148_1 ?_
    refine z_icmp_ltF gi_148_2 zr_1 zr_0 (by decide) ?_
    refine z_iload0 gi_148_5 ?_
    refine z_iload2 gi_148_6 ?_
    refine z_icmp_gtF gi_148_7 zr_1 zr_5 (by decide) ?_
    refine z_pushJ gp_148_10 ?_
    refine z_goto gi_148_11 ?_
    refine z_bret1 gi_148_15 gr_148 ?_
    show zW _ _ _ _ _ _ _ _ _ _
    refine z_bret1 gi_248_6 gr_248 ?_
    show zW _ _ _ _ _ _ _ _ _ _
    refine z_if_neT gi_251_4 zr_1 (by decide) ?_
    refine z_aload0 gi_251_9 ?_
    refine z_getR (r := 83) gi_251_10 gk_50 (hRr _ rm_50_58 (by decide)) ?_
    refine z_iload1 gi_251_13 ?_
    refine z_iald (v := (-6)) gi_251_14 gk_83 (by decide) (by decide) ((e83.trans (by rw [hso]; rfl))) ?_
    refine z_pushJ gp_251_15 ?_
    refine z_icmp_neT gi_251_16 zrn_6 zrn_1 (by decide) ?_
    refine z_aload0 gi_251_22 ?_
    refine z_getR (r := 83) gi_251_23 gk_50 (hRr _ rm_50_58 (by decide)) ?_
    refine z_iload1 gi_251_26 ?_
    refine z_iald (v := (-6)) gi_251_27 gk_83 (by decide) (by decide) ((e83.trans (by rw [hso]; rfl))) ?_
    refine z_if_ltT gi_251_28 zrn_6 (by decide) ?_
    refine z_iload2 gi_251_34 ?_
    refine z_pushJ gp_251_35 ?_
    refine z_aload0 gi_251_36 ?_
    refine z_getR (r := 84) gi_251_37 gk_50 (hRr _ rm_50_59 (by decide)) ?_
    refine z_iload1 gi_251_40 ?_
    refine z_iald (v := J 40 3) gi_251_41 gk_84 (by decide) (by decide) (s7) ?_
    refine z_pushJ gp_251_42 ?_
    refine z_isub (e := (J 40 3) - 1) gi_251_43 rfl ?_
    refine z_cS3 gi_251_44 (Nat.le_of_ble_eq_true rfl) gc_148_III ?_
    refine z_iload0 gi_148_0 ?_
    refine z_iload1 gi_148_1 ?_
    refine z_icmp_ltT gi_148_2 (by omega) zr_0 (by omega) ?_
    refine z_pushJ gp_148_14 ?_
    refine z_bret0 gi_148_15 gr_148 ?_
    show zW _ _ _ _ _ _ _ _ _ _
    refine z_if_eqT gi_251_47 zr_0 (by decide) ?_
    refine z_pushJ gp_251_54 ?_
    refine z_iret gi_251_56 gr_251 ?_
    show zW _ _ _ _ _ _ _ _ _ _
    refine z_istore (ls1 := [some (.ref 50), some (zi 1), some (zi i), some (zl v), none, some (zi (-13)), none]) gi_252_6 rfl ?_
    refine z_iload5 gi_252_8 ?_
    refine z_if_geF gi_252_10 zrn_13 (by decide) ?_
    refine z_iload5 gi_252_13 ?_
    refine z_iret gi_252_15 gr_252 ?_
    refine ⟨?_, ?_⟩
    · first | rfl | exact congrArg (fun v => some (zi v)) (by omega) | (exfalso; omega)
    · exact hr
  · refine z_iload1 gi_70_25 ?_
    refine z_aload0 gi_70_26 ?_
    refine z_getI (v := J 40 3) gi_70_27 gk_40 (rfl) ?_
    refine z_icmp_ge gi_70_30 (by omega) (by omega) (fun h2 => ?_) (fun h2 => ?_)
    · refine z_pushJ gp_70_37 ?_
      refine z_iret gi_70_39 gr_70 ?_
      show zW _ _ _ _ _ _ _ _ _ _
      refine z_istore (ls1 := [some (.ref 0), some (zi 1), some (zi i), some (zl v), none, some (zi (-13))]) gi_138_19 rfl ?_
      refine z_iload5 gi_138_21 ?_
      refine z_if_geF gi_138_23 zrn_13 (by decide) ?_
      refine z_iload5 gi_138_26 ?_
      refine z_iret gi_138_28 gr_138 ?_
      refine ⟨_, rfl, ?_⟩
      show zW _ _ _ _ [some (.ref 50), some (zi 1), some (zi i), some (zl v), none, none, none] _ _ _ _ _
      refine z_aload0 gi_252_0 ?_
      refine z_iload1 gi_252_1 ?_
      refine z_iload2 gi_252_2 ?_
      refine z_cV2 gi_252_3 gk_50 go_251 (Nat.le_of_ble_eq_true rfl) gc_251_RII ?_
      refine z_iload1 gi_251_0 ?_
      refine z_cS1 gi_251_1 (Nat.le_of_ble_eq_true rfl) gc_248_I ?_
      refine z_iload0 gi_248_0 ?_
      refine z_pushJ gp_248_1 ?_
      refine z_pushJ gp_248_2 ?_
      refine z_cS3 gi_248_3 (Nat.le_of_ble_eq_true rfl) gc_148_III ?_
      refine z_iload0 gi_148_0 ?_
      refine z_iload1 gi_148_1 ?_
      refine z_icmp_ltF gi_148_2 zr_1 zr_0 (by decide) ?_
      refine z_iload0 gi_148_5 ?_
      refine z_iload2 gi_148_6 ?_
      refine z_icmp_gtF gi_148_7 zr_1 zr_5 (by decide) ?_
      refine z_pushJ gp_148_10 ?_
      refine z_goto gi_148_11 ?_
      refine z_bret1 gi_148_15 gr_148 ?_
      show zW _ _ _ _ _ _ _ _ _ _
      refine z_bret1 gi_248_6 gr_248 ?_
      show zW _ _ _ _ _ _ _ _ _ _
      refine z_if_neT gi_251_4 zr_1 (by decide) ?_
      refine z_aload0 gi_251_9 ?_
      refine z_getR (r := 83) gi_251_10 gk_50 (hRr _ rm_50_58 (by decide)) ?_
      refine z_iload1 gi_251_13 ?_
      refine z_iald (v := (-6)) gi_251_14 gk_83 (by decide) (by decide) ((e83.trans (by rw [hso]; rfl))) ?_
      refine z_pushJ gp_251_15 ?_
      refine z_icmp_neT gi_251_16 zrn_6 zrn_1 (by decide) ?_
      refine z_aload0 gi_251_22 ?_
      refine z_getR (r := 83) gi_251_23 gk_50 (hRr _ rm_50_58 (by decide)) ?_
      refine z_iload1 gi_251_26 ?_
      refine z_iald (v := (-6)) gi_251_27 gk_83 (by decide) (by decide) ((e83.trans (by rw [hso]; rfl))) ?_
      refine z_if_ltT gi_251_28 zrn_6 (by decide) ?_
      refine z_iload2 gi_251_34 ?_
      refine z_pushJ gp_251_35 ?_
      refine z_aload0 gi_251_36 ?_
      refine z_getR (r := 84) gi_251_37 gk_50 (hRr _ rm_50_59 (by decide)) ?_
      refine z_iload1 gi_251_40 ?_
      refine z_iald (v := J 40 3) gi_251_41 gk_84 (by decide) (by decide) (s7) ?_
      refine z_pushJ gp_251_42 ?_
      refine z_isub (e := (J 40 3) - 1) gi_251_43 rfl ?_
      refine z_cS3 gi_251_44 (Nat.le_of_ble_eq_true rfl) gc_148_III ?_
      refine z_iload0 gi_148_0 ?_
      refine z_iload1 gi_148_1 ?_
      refine z_icmp_ltF gi_148_2 (by omega) zr_0 (by omega) ?_
      refine z_iload0 gi_148_5 ?_
      refine z_iload2 gi_148_6 ?_
      refine z_icmp_gtT gi_148_7 (by omega) (by omega) (by omega) ?_
      refine z_pushJ gp_148_14 ?_
      refine z_bret0 gi_148_15 gr_148 ?_
      show zW _ _ _ _ _ _ _ _ _ _
      refine z_if_eqT gi_251_47 zr_0 (by decide) ?_
      refine z_pushJ gp_251_54 ?_
      refine z_iret gi_251_56 gr_251 ?_
      show zW _ _ _ _ _ _ _ _ _ _
      refine z_istore (ls1 := [some (.ref 50), some (zi 1), some (zi i), some (zl v), none, some (zi (-13)), none]) gi_252_6 rfl ?_
      refine z_iload5 gi_252_8 ?_
      refine z_if_geF gi_252_10 zrn_13 (by decide) ?_
      refine z_iload5 gi_252_13 ?_
      refine z_iret gi_252_15 gr_252 ?_
      refine ⟨?_, ?_⟩
      · first | rfl | exact congrArg (fun v => some (zi v)) (by omega) | (exfalso; omega)
      · exact hr
    · refine z_pushJ gp_70_33 ?_
      refine z_goto gi_70_34 ?_
      refine z_iret gi_70_39 gr_70 ?_
      show zW _ _ _ _ _ _ _ _ _ _
      refine z_istore (ls1 := [some (.ref 0), some (zi 1), some (zi i), some (zl v), none, some (zi 0)]) gi_138_19 rfl ?_
      refine z_iload5 gi_138_21 ?_
      refine z_if_geT gi_138_23 zr_0 (by decide) ?_
      refine z_aload0 gi_138_29 ?_
      refine z_getR (r := 37) gi_138_30 gk_0 (hR _ rm_0_11) ?_
      refine z_iload1 gi_138_33 ?_
      refine z_aald (r := 40) gi_138_34 rfl (by decide) (by decide) (hR _ rm_37_1) ?_
      refine z_iload2 gi_138_35 ?_
      refine z_lload3 gi_138_36 ?_
      refine z_callVi (As := [_, _]) (le := [some _, some _, some _, none]) gi_138_37 rfl gk_40 (Nat.le_of_ble_eq_true rfl) (Nat.le_of_ble_eq_true rfl) rfl ?_
      refine z_iload1 gi_73_0 ?_
      refine z_if_ltF gi_73_1 (by omega) (by omega) ?_
      refine z_iload1 gi_73_4 ?_
      refine z_aload0 gi_73_5 ?_
      refine z_getI (v := J 40 3) gi_73_6 gk_40 (rfl) ?_
      refine z_icmp_geF gi_73_9 (by omega) (by omega) (by omega) ?_
      refine z_aload0 gi_73_12 ?_
      refine z_getR (r := 41) gi_73_13 gk_40 (hR _ rm_40_4) ?_
      refine z_iload1 gi_73_16 ?_
      refine z_aload0 gi_73_17 ?_
      refine z_lload2 gi_73_18 ?_
      refine z_callVi (As := [_]) (le := [some _, some _, none]) gi_73_19 rfl gk_40 (Nat.le_of_ble_eq_true rfl) (Nat.le_of_ble_eq_true rfl) rfl ?_
      refine z_aload0 gi_74_0 ?_
      refine z_getI (v := 4) gi_74_1 gk_40 (hso) ?_
      refine z_swI (tg := 54) gi_74_4 (by decide) (T := [((0 : Int), 40), ((1 : Int), 45), ((2 : Int), 50), ((3 : Int), 66), ((4 : Int), 54)]) rfl (by decide) ?_
      refine z_lload1 gi_74_54 ?_
      refine z_pushL (z := 0) gi_74_55 rfl ?_
      refine z_lcmp_eq gi_74_56 gi_74_57 (by omega) (by omega) (fun h3 => ?_) (fun h3 => ?_)
      · refine z_pushL (z := 0) gi_74_64 rfl ?_
        refine z_lret gi_74_65 gr_74 ?_
        show zW _ _ _ _ _ _ _ _ _ _
        refine z_last (e := 0) gi_73_22 gk_41 (by decide) (by omega) rfl ?_
        refine z_vret gi_73_23 gr_73 ?_
        show zW _ _ _ _ _ _ _ _ _ _
        refine z_pushJ gp_138_40 ?_
        refine z_iret gi_138_41 gr_138 ?_
        refine ⟨_, rfl, ?_⟩
        show zW _ _ _ _ [some (.ref 50), some (zi 1), some (zi i), some (zl v), none, none, none] _ _ _ _ _
        refine z_aload0 gi_252_0 ?_
        refine z_iload1 gi_252_1 ?_
        refine z_iload2 gi_252_2 ?_
        refine z_cV2 gi_252_3 gk_50 go_251 (Nat.le_of_ble_eq_true rfl) gc_251_RII ?_
        refine z_iload1 gi_251_0 ?_
        refine z_cS1 gi_251_1 (Nat.le_of_ble_eq_true rfl) gc_248_I ?_
        refine z_iload0 gi_248_0 ?_
        refine z_pushJ gp_248_1 ?_
        refine z_pushJ gp_248_2 ?_
        refine z_cS3 gi_248_3 (Nat.le_of_ble_eq_true rfl) gc_148_III ?_
        refine z_iload0 gi_148_0 ?_
        refine z_iload1 gi_148_1 ?_
        refine z_icmp_ltF gi_148_2 zr_1 zr_0 (by decide) ?_
        refine z_iload0 gi_148_5 ?_
        refine z_iload2 gi_148_6 ?_
        refine z_icmp_gtF gi_148_7 zr_1 zr_5 (by decide) ?_
        refine z_pushJ gp_148_10 ?_
        refine z_goto gi_148_11 ?_
        refine z_bret1 gi_148_15 gr_148 ?_
        show zW _ _ _ _ _ _ _ _ _ _
        refine z_bret1 gi_248_6 gr_248 ?_
        show zW _ _ _ _ _ _ _ _ _ _
        refine z_if_neT gi_251_4 zr_1 (by decide) ?_
        refine z_aload0 gi_251_9 ?_
        refine z_getR (r := 83) gi_251_10 gk_50 (hRr _ rm_50_58 (by decide)) ?_
        refine z_iload1 gi_251_13 ?_
        refine z_iald (v := (-6)) gi_251_14 gk_83 (by decide) (by decide) ((e83.trans (by rw [hso]; rfl))) ?_
        refine z_pushJ gp_251_15 ?_
        refine z_icmp_neT gi_251_16 zrn_6 zrn_1 (by decide) ?_
        refine z_aload0 gi_251_22 ?_
        refine z_getR (r := 83) gi_251_23 gk_50 (hRr _ rm_50_58 (by decide)) ?_
        refine z_iload1 gi_251_26 ?_
        refine z_iald (v := (-6)) gi_251_27 gk_83 (by decide) (by decide) ((e83.trans (by rw [hso]; rfl))) ?_
        refine z_if_ltT gi_251_28 zrn_6 (by decide) ?_
        refine z_iload2 gi_251_34 ?_
        refine z_pushJ gp_251_35 ?_
        refine z_aload0 gi_251_36 ?_
        refine z_getR (r := 84) gi_251_37 gk_50 (hRr _ rm_50_59 (by decide)) ?_
        refine z_iload1 gi_251_40 ?_
        refine z_iald (v := J 40 3) gi_251_41 gk_84 (by decide) (by decide) (s7) ?_
        refine z_pushJ gp_251_42 ?_
        refine z_isub (e := (J 40 3) - 1) gi_251_43 rfl ?_
        refine z_cS3 gi_251_44 (Nat.le_of_ble_eq_true rfl) gc_148_III ?_
        refine z_iload0 gi_148_0 ?_
        refine z_iload1 gi_148_1 ?_
        refine z_icmp_ltF gi_148_2 (by omega) zr_0 (by omega) ?_
        refine z_iload0 gi_148_5 ?_
        refine z_iload2 gi_148_6 ?_
        refine z_icmp_gtF gi_148_7 (by omega) (by omega) (by omega) ?_
        refine z_pushJ gp_148_10 ?_
        refine z_goto gi_148_11 ?_
        refine z_bret1 gi_148_15 gr_148 ?_
        show zW _ _ _ _ _ _ _ _ _ _
        refine z_if_eqF gi_251_47 zr_1 (by decide) ?_
        refine z_pushJ gp_251_50 ?_
        refine z_goto gi_251_51 ?_
        refine z_iret gi_251_56 gr_251 ?_
        show zW _ _ _ _ _ _ _ _ _ _
        refine z_istore (ls1 := [some (.ref 50), some (zi 1), some (zi i), some (zl v), none, some (zi 0), none]) gi_252_6 rfl ?_
        refine z_iload5 gi_252_8 ?_
        refine z_if_geT gi_252_10 zr_0 (by decide) ?_
        refine z_pushJ gp_252_16 ?_
        refine z_aload0 gi_252_18 ?_
        refine z_getR (r := 83) gi_252_19 gk_50 (hRr _ rm_50_58 (by decide)) ?_
        refine z_iload1 gi_252_22 ?_
        refine z_iald (v := (-6)) gi_252_23 gk_83 (by decide) (by decide) ((e83.trans (by rw [hso]; rfl))) ?_
        refine z_isub (e := 4) gi_252_24 rfl ?_
        refine z_istore (ls1 := [some (.ref 50), some (zi 1), some (zi i), some (zl v), none, some (zi 0), some (zi 4)]) gi_252_25 rfl ?_
        refine z_aload0 gi_252_27 ?_
        refine z_getR (r := 85) gi_252_28 gk_50 (hRr _ rm_50_60 (by decide)) ?_
        refine z_pushJ gp_252_31 ?_
        refine z_iload1 gi_252_33 ?_
        refine z_imul (e := 60) gi_252_34 rfl ?_
        refine z_iload2 gi_252_35 ?_
        refine z_iadd (e := 60 + i) gi_252_36 rfl ?_
        refine z_iload6 gi_252_37 ?_
        refine z_if_neT gi_252_39 zr_4 (by decide) ?_
        refine z_iload6 gi_252_49 ?_
        refine z_pushJ gp_252_51 ?_
        refine z_icmp_neT gi_252_52 zr_4 zr_1 (by decide) ?_
        refine z_iload6 gi_252_62 ?_
        refine z_pushJ gp_252_64 ?_
        refine z_icmp_neT gi_252_65 zr_4 zr_2 (by decide) ?_
        refine z_iload6 gi_252_74 ?_
        refine z_pushJ gp_252_76 ?_
        refine z_icmp_neT gi_252_77 zr_4 zr_3 (by decide) ?_
        refine z_lload3 gi_252_84 ?_
        refine z_pushL (z := 0) gi_252_85 rfl ?_
        refine z_lcmp_eq gi_252_86 gi_252_87 (by omega) (by omega) (fun h4 => ?_) (fun h4 => ?_)
        · refine z_pushL (z := 0) gi_252_94 rfl ?_
          refine z_last (e := 0) gi_252_95 gk_85 (by decide) (by omega) rfl ?_
          refine z_pushJ gp_252_96 ?_
          refine z_iret gi_252_97 gr_252 ?_
          refine ⟨?_, ?_⟩
          · first | rfl | exact congrArg (fun v => some (zi v)) (by omega) | (exfalso; omega)
          · have hk := (zK_r (k := (kL [] [])) (A := J))
            have hkm := (zK_x (a := 85) (x := 60 + i) (v := 0) (zK_x (a := 41) (x := i) (v := 0) (zK_r (k := (kL [41, 85] [])) (A := M)) rfl) rfl)
            exact ⟨hR, hG, RelY_k hk (by repeat' constructor) (fun p => by repeat' constructor) hY, RelD_k hk (by repeat' constructor) (fun p => by repeat' constructor) hD, RelP_k hk (by repeat' constructor) (fun p => by repeat' constructor) hP, RelC_k hk (by repeat' constructor) (fun p => by repeat' constructor) hC, RelA_k hk (by repeat' constructor) (fun p => by repeat' constructor) hAc, (RelS_one (J := J) (M := M) (c := 1) (fun t t1 t2 te => by have q : t = 0 ∨ t = 1 ∨ t = 2 ∨ t = 3 ∨ t = 4 ∨ t = 5 := (by omega); rcases q with rfl | rfl | rfl | rfl | rfl | rfl <;> first | exact absurd rfl te | exact ⟨fun j => rfl, rfl, rfl⟩) (fun t t1 t2 te => by have q : t = 0 ∨ t = 1 ∨ t = 2 ∨ t = 3 ∨ t = 4 ∨ t = 5 := (by omega); rcases q with rfl | rfl | rfl | rfl | rfl | rfl <;> first | exact absurd rfl te | exact ⟨fun j => rfl, fun j j1 j2 => (zU_x (by omega)).trans (zU_n (by decide))⟩) rfl (show RelS1 _ _ _ from ⟨(hS 1 (by decide) (by decide)).1, (hS 1 (by decide) (by decide)).2.1, s3, s4, (hS 1 (by decide) (by decide)).2.2.2.2.1, fun _ => ⟨s7.symm, fun k k1 k2 => by show (if k = i then 0 else M 41 k) = (if 60 + k = 60 + i then 0 else M 85 (60 + k)); by_cases e : k = i; rw [if_pos e, if_pos (by omega)]; rw [if_neg e, if_neg (by omega)]; exact s8 k k1 k2, (fun hq => absurd (Eq.trans (Eq.symm hq) hso) (by decide))⟩⟩) hS), RelT_k hk (by repeat' constructor) (fun p => by repeat' constructor) hTp, RelX_k hk (by repeat' constructor) (fun p => by repeat' constructor) hX, RelW_k hk ⟨rfl, rfl⟩ trivial hW⟩
        · refine z_pushL (z := 1) gi_252_90 rfl ?_
          refine z_goto gi_252_91 ?_
          refine z_last (e := 1) gi_252_95 gk_85 (by decide) (by omega) rfl ?_
          refine z_pushJ gp_252_96 ?_
          refine z_iret gi_252_97 gr_252 ?_
          refine ⟨?_, ?_⟩
          · first | rfl | exact congrArg (fun v => some (zi v)) (by omega) | (exfalso; omega)
          · exfalso
            omega
      · refine z_pushL (z := 1) gi_74_60 rfl ?_
        refine z_goto gi_74_61 ?_
        refine z_lret gi_74_65 gr_74 ?_
        show zW _ _ _ _ _ _ _ _ _ _
        refine z_last (e := 1) gi_73_22 gk_41 (by decide) (by omega) rfl ?_
        refine z_vret gi_73_23 gr_73 ?_
        show zW _ _ _ _ _ _ _ _ _ _
        refine z_pushJ gp_138_40 ?_
        refine z_iret gi_138_41 gr_138 ?_
        refine ⟨_, rfl, ?_⟩
        show zW _ _ _ _ [some (.ref 50), some (zi 1), some (zi i), some (zl v), none, none, none] _ _ _ _ _
        refine z_aload0 gi_252_0 ?_
        refine z_iload1 gi_252_1 ?_
        refine z_iload2 gi_252_2 ?_
        refine z_cV2 gi_252_3 gk_50 go_251 (Nat.le_of_ble_eq_true rfl) gc_251_RII ?_
        refine z_iload1 gi_251_0 ?_
        refine z_cS1 gi_251_1 (Nat.le_of_ble_eq_true rfl) gc_248_I ?_
        refine z_iload0 gi_248_0 ?_
        refine z_pushJ gp_248_1 ?_
        refine z_pushJ gp_248_2 ?_
        refine z_cS3 gi_248_3 (Nat.le_of_ble_eq_true rfl) gc_148_III ?_
        refine z_iload0 gi_148_0 ?_
        refine z_iload1 gi_148_1 ?_
        refine z_icmp_ltF gi_148_2 zr_1 zr_0 (by decide) ?_
        refine z_iload0 gi_148_5 ?_
        refine z_iload2 gi_148_6 ?_
        refine z_icmp_gtF gi_148_7 zr_1 zr_5 (by decide) ?_
        refine z_pushJ gp_148_10 ?_
        refine z_goto gi_148_11 ?_
        refine z_bret1 gi_148_15 gr_148 ?_
        show zW _ _ _ _ _ _ _ _ _ _
        refine z_bret1 gi_248_6 gr_248 ?_
        show zW _ _ _ _ _ _ _ _ _ _
        refine z_if_neT gi_251_4 zr_1 (by decide) ?_
        refine z_aload0 gi_251_9 ?_
        refine z_getR (r := 83) gi_251_10 gk_50 (hRr _ rm_50_58 (by decide)) ?_
        refine z_iload1 gi_251_13 ?_
        refine z_iald (v := (-6)) gi_251_14 gk_83 (by decide) (by decide) ((e83.trans (by rw [hso]; rfl))) ?_
        refine z_pushJ gp_251_15 ?_
        refine z_icmp_neT gi_251_16 zrn_6 zrn_1 (by decide) ?_
        refine z_aload0 gi_251_22 ?_
        refine z_getR (r := 83) gi_251_23 gk_50 (hRr _ rm_50_58 (by decide)) ?_
        refine z_iload1 gi_251_26 ?_
        refine z_iald (v := (-6)) gi_251_27 gk_83 (by decide) (by decide) ((e83.trans (by rw [hso]; rfl))) ?_
        refine z_if_ltT gi_251_28 zrn_6 (by decide) ?_
        refine z_iload2 gi_251_34 ?_
        refine z_pushJ gp_251_35 ?_
        refine z_aload0 gi_251_36 ?_
        refine z_getR (r := 84) gi_251_37 gk_50 (hRr _ rm_50_59 (by decide)) ?_
        refine z_iload1 gi_251_40 ?_
        refine z_iald (v := J 40 3) gi_251_41 gk_84 (by decide) (by decide) (s7) ?_
        refine z_pushJ gp_251_42 ?_
        refine z_isub (e := (J 40 3) - 1) gi_251_43 rfl ?_
        refine z_cS3 gi_251_44 (Nat.le_of_ble_eq_true rfl) gc_148_III ?_
        refine z_iload0 gi_148_0 ?_
        refine z_iload1 gi_148_1 ?_
        refine z_icmp_ltF gi_148_2 (by omega) zr_0 (by omega) ?_
        refine z_iload0 gi_148_5 ?_
        refine z_iload2 gi_148_6 ?_
        refine z_icmp_gtF gi_148_7 (by omega) (by omega) (by omega) ?_
        refine z_pushJ gp_148_10 ?_
        refine z_goto gi_148_11 ?_
        refine z_bret1 gi_148_15 gr_148 ?_
        show zW _ _ _ _ _ _ _ _ _ _
        refine z_if_eqF gi_251_47 zr_1 (by decide) ?_
        refine z_pushJ gp_251_50 ?_
        refine z_goto gi_251_51 ?_
        refine z_iret gi_251_56 gr_251 ?_
        show zW _ _ _ _ _ _ _ _ _ _
        refine z_istore (ls1 := [some (.ref 50), some (zi 1), some (zi i), some (zl v), none, some (zi 0), none]) gi_252_6 rfl ?_
        refine z_iload5 gi_252_8 ?_
        refine z_if_geT gi_252_10 zr_0 (by decide) ?_
        refine z_pushJ gp_252_16 ?_
        refine z_aload0 gi_252_18 ?_
        refine z_getR (r := 83) gi_252_19 gk_50 (hRr _ rm_50_58 (by decide)) ?_
        refine z_iload1 gi_252_22 ?_
        refine z_iald (v := (-6)) gi_252_23 gk_83 (by decide) (by decide) ((e83.trans (by rw [hso]; rfl))) ?_
        refine z_isub (e := 4) gi_252_24 rfl ?_
        refine z_istore (ls1 := [some (.ref 50), some (zi 1), some (zi i), some (zl v), none, some (zi 0), some (zi 4)]) gi_252_25 rfl ?_
        refine z_aload0 gi_252_27 ?_
        refine z_getR (r := 85) gi_252_28 gk_50 (hRr _ rm_50_60 (by decide)) ?_
        refine z_pushJ gp_252_31 ?_
        refine z_iload1 gi_252_33 ?_
        refine z_imul (e := 60) gi_252_34 rfl ?_
        refine z_iload2 gi_252_35 ?_
        refine z_iadd (e := 60 + i) gi_252_36 rfl ?_
        refine z_iload6 gi_252_37 ?_
        refine z_if_neT gi_252_39 zr_4 (by decide) ?_
        refine z_iload6 gi_252_49 ?_
        refine z_pushJ gp_252_51 ?_
        refine z_icmp_neT gi_252_52 zr_4 zr_1 (by decide) ?_
        refine z_iload6 gi_252_62 ?_
        refine z_pushJ gp_252_64 ?_
        refine z_icmp_neT gi_252_65 zr_4 zr_2 (by decide) ?_
        refine z_iload6 gi_252_74 ?_
        refine z_pushJ gp_252_76 ?_
        refine z_icmp_neT gi_252_77 zr_4 zr_3 (by decide) ?_
        refine z_lload3 gi_252_84 ?_
        refine z_pushL (z := 0) gi_252_85 rfl ?_
        refine z_lcmp_eq gi_252_86 gi_252_87 (by omega) (by omega) (fun h4 => ?_) (fun h4 => ?_)
        · refine z_pushL (z := 0) gi_252_94 rfl ?_
          refine z_last (e := 0) gi_252_95 gk_85 (by decide) (by omega) rfl ?_
          refine z_pushJ gp_252_96 ?_
          refine z_iret gi_252_97 gr_252 ?_
          refine ⟨?_, ?_⟩
          · first | rfl | exact congrArg (fun v => some (zi v)) (by omega) | (exfalso; omega)
          · exfalso
            omega
        · refine z_pushL (z := 1) gi_252_90 rfl ?_
          refine z_goto gi_252_91 ?_
          refine z_last (e := 1) gi_252_95 gk_85 (by decide) (by omega) rfl ?_
          refine z_pushJ gp_252_96 ?_
          refine z_iret gi_252_97 gr_252 ?_
          refine ⟨?_, ?_⟩
          · first | rfl | exact congrArg (fun v => some (zi v)) (by omega) | (exfalso; omega)
          · have hk := (zK_r (k := (kL [] [])) (A := J))
            have hkm := (zK_x (a := 85) (x := 60 + i) (v := 1) (zK_x (a := 41) (x := i) (v := 1) (zK_r (k := (kL [41, 85] [])) (A := M)) rfl) rfl)
            exact ⟨hR, hG, RelY_k hk (by repeat' constructor) (fun p => by repeat' constructor) hY, RelD_k hk (by repeat' constructor) (fun p => by repeat' constructor) hD, RelP_k hk (by repeat' constructor) (fun p => by repeat' constructor) hP, RelC_k hk (by repeat' constructor) (fun p => by repeat' constructor) hC, RelA_k hk (by repeat' constructor) (fun p => by repeat' constructor) hAc, (RelS_one (J := J) (M := M) (c := 1) (fun t t1 t2 te => by have q : t = 0 ∨ t = 1 ∨ t = 2 ∨ t = 3 ∨ t = 4 ∨ t = 5 := (by omega); rcases q with rfl | rfl | rfl | rfl | rfl | rfl <;> first | exact absurd rfl te | exact ⟨fun j => rfl, rfl, rfl⟩) (fun t t1 t2 te => by have q : t = 0 ∨ t = 1 ∨ t = 2 ∨ t = 3 ∨ t = 4 ∨ t = 5 := (by omega); rcases q with rfl | rfl | rfl | rfl | rfl | rfl <;> first | exact absurd rfl te | exact ⟨fun j => rfl, fun j j1 j2 => (zU_x (by omega)).trans (zU_n (by decide))⟩) rfl (show RelS1 _ _ _ from ⟨(hS 1 (by decide) (by decide)).1, (hS 1 (by decide) (by decide)).2.1, s3, s4, (hS 1 (by decide) (by decide)).2.2.2.2.1, fun _ => ⟨s7.symm, fun k k1 k2 => by show (if k = i then 1 else M 41 k) = (if 60 + k = 60 + i then 1 else M 85 (60 + k)); by_cases e : k = i; rw [if_pos e, if_pos (by omega)]; rw [if_neg e, if_neg (by omega)]; exact s8 k k1 k2, (fun hq => absurd (Eq.trans (Eq.symm hq) hso) (by decide))⟩⟩) hS), RelT_k hk (by repeat' constructor) (fun p => by repeat' constructor) hTp, RelX_k hk (by repeat' constructor) (fun p => by repeat' constructor) hX, RelW_k hk ⟨rfl, rfl⟩ trivial hW⟩
theorem st_element_20 {X : Nat × (Nat → Int32)} {d : Nat} {J M : zA} {R : zR} {i : Int} (hr : Rel X J M R) (hi : -2147483648 ≤ i ∧ i < 2147483648) (hh : J 42 0 = 0) : zW X (d + 20) 139 0 (gEn 139 [(.ref 0), (zi 2), (zi i)]) [] J M R (stL X (d + 20) 253 [(zi 2), (zi i)]) := by
  have hr0 := hr
  obtain ⟨hR, hG, hY, hD, hP, hC, hAc, hS, hTp, hX, hW⟩ := hr0
  have hRr : zRoR R := zRoR_of hR
  have hA0 := hAc
  obtain ⟨a1, a2, a3, a4, a5, a6⟩ := hA0
  have e83 : J 83 2 = -1 := (hS 2 (by decide) (by decide)).1.symm.trans (cH_0 hh)
  have s3 : 0 ≤ J 42 2 ∧ J 42 2 ≤ 4 := (hS 2 (by decide) (by decide)).2.2.1
  have s4 : 0 ≤ J 42 3 ∧ J 42 3 ≤ 60 := (hS 2 (by decide) (by decide)).2.2.2.1
  show zW _ _ _ _ [some (.ref 0), some (zi 2), some (zi i)] _ _ _ _ _
  refine z_iload1 gi_139_0 ?_
  refine z_cS1 gi_139_1 (Nat.le_of_ble_eq_true rfl) gc_143_I ?_
  refine z_iload0 gi_143_0 ?_
  refine z_if_ltF gi_143_1 zr_2 (by decide) ?_
  refine z_iload0 gi_143_4 ?_
  refine z_pushJ gp_143_5 ?_
  refine z_icmp_geF gi_143_7 zr_2 zr_6 (by decide) ?_
  refine z_pushJ gp_143_10 ?_
  refine z_goto gi_143_11 ?_
  refine z_bret1 gi_143_15 gr_143 ?_
  show zW _ _ _ _ _ _ _ _ _ _
  refine z_if_eqF gi_139_4 zr_1 (by decide) ?_
  refine z_aload0 gi_139_7 ?_
  refine z_getR (r := 37) gi_139_8 gk_0 (hR _ rm_0_11) ?_
  refine z_iload1 gi_139_11 ?_
  refine z_aald (r := 42) gi_139_12 rfl (by decide) (by decide) (hR _ rm_37_2) ?_
  refine z_iload2 gi_139_13 ?_
  refine z_cV1 gi_139_14 gk_42 go_70 (Nat.le_of_ble_eq_true rfl) gc_70_RI ?_
  refine z_aload0 gi_70_0 ?_
  refine z_getI (v := 0) gi_70_1 gk_42 (hh) ?_
  refine z_if_neF gi_70_4 zr_0 (by decide) ?_
  refine z_pushJ gp_70_7 ?_
  refine z_iret gi_70_9 gr_70 ?_
  show zW _ _ _ _ _ _ _ _ _ _
  refine z_if_geF gi_139_17 zrn_11 (by decide) ?_
  refine z_pushL (z := (-9223372036854775808)) gi_139_20 rfl ?_
  refine z_lret gi_139_23 gr_139 ?_
  refine ⟨_, rfl, ?_⟩
  show zW _ _ _ _ [some (.ref 50), some (zi 2), some (zi i)] _ _ _ _ _
  refine z_aload0 gi_253_0 ?_
  refine z_iload1 gi_253_1 ?_
  refine z_iload2 gi_253_2 ?_
  refine z_cV2 gi_253_3 gk_50 go_251 (Nat.le_of_ble_eq_true rfl) gc_251_RII ?_
  refine z_iload1 gi_251_0 ?_
  refine z_cS1 gi_251_1 (Nat.le_of_ble_eq_true rfl) gc_248_I ?_
  refine z_iload0 gi_248_0 ?_
  refine z_pushJ gp_248_1 ?_
  refine z_pushJ gp_248_2 ?_
  refine z_cS3 gi_248_3 (Nat.le_of_ble_eq_true rfl) gc_148_III ?_
  refine z_iload0 gi_148_0 ?_
  refine z_iload1 gi_148_1 ?_
  refine z_icmp_ltF gi_148_2 zr_2 zr_0 (by decide) ?_
  refine z_iload0 gi_148_5 ?_
  refine z_iload2 gi_148_6 ?_
  refine z_icmp_gtF gi_148_7 zr_2 zr_5 (by decide) ?_
  refine z_pushJ gp_148_10 ?_
  refine z_goto gi_148_11 ?_
  refine z_bret1 gi_148_15 gr_148 ?_
  show zW _ _ _ _ _ _ _ _ _ _
  refine z_bret1 gi_248_6 gr_248 ?_
  show zW _ _ _ _ _ _ _ _ _ _
  refine z_if_neT gi_251_4 zr_1 (by decide) ?_
  refine z_aload0 gi_251_9 ?_
  refine z_getR (r := 83) gi_251_10 gk_50 (hRr _ rm_50_58 (by decide)) ?_
  refine z_iload1 gi_251_13 ?_
  refine z_iald (v := (-1)) gi_251_14 gk_83 (by decide) (by decide) (e83) ?_
  refine z_pushJ gp_251_15 ?_
  refine z_icmp_neF gi_251_16 zrn_1 zrn_1 (by decide) ?_
  refine z_pushJ gp_251_19 ?_
  refine z_iret gi_251_21 gr_251 ?_
  show zW _ _ _ _ _ _ _ _ _ _
  refine z_if_geF gi_253_6 zrn_11 (by decide) ?_
  refine z_pushL (z := (-9223372036854775808)) gi_253_9 rfl ?_
  refine z_goto gi_253_12 ?_
  refine z_lret gi_253_26 gr_253 ?_
  refine ⟨?_, ?_⟩
  · first | rfl | exact congrArg (fun v => some (zl v)) (by omega) | (exfalso; omega)
  · exact hr
theorem st_put_20 {X : Nat × (Nat → Int32)} {d : Nat} {J M : zA} {R : zR} {i v : Int} (hr : Rel X J M R) (hi : -2147483648 ≤ i ∧ i < 2147483648) (hv : -9223372036854775808 ≤ v ∧ v < 9223372036854775808) (hh : J 42 0 = 0) : zW X (d + 20) 138 0 (gEn 138 [(.ref 0), (zi 2), (zi i), (zl v)]) [] J M R (stP X (d + 20) 252 [(zi 2), (zi i), (zl v)]) := by
  have hr0 := hr
  obtain ⟨hR, hG, hY, hD, hP, hC, hAc, hS, hTp, hX, hW⟩ := hr0
  have hRr : zRoR R := zRoR_of hR
  have hA0 := hAc
  obtain ⟨a1, a2, a3, a4, a5, a6⟩ := hA0
  have e83 : J 83 2 = -1 := (hS 2 (by decide) (by decide)).1.symm.trans (cH_0 hh)
  have s3 : 0 ≤ J 42 2 ∧ J 42 2 ≤ 4 := (hS 2 (by decide) (by decide)).2.2.1
  have s4 : 0 ≤ J 42 3 ∧ J 42 3 ≤ 60 := (hS 2 (by decide) (by decide)).2.2.2.1
  show zW _ _ _ _ [some (.ref 0), some (zi 2), some (zi i), some (zl v), none, none] _ _ _ _ _
  refine z_iload1 gi_138_0 ?_
  refine z_cS1 gi_138_1 (Nat.le_of_ble_eq_true rfl) gc_143_I ?_
  refine z_iload0 gi_143_0 ?_
  refine z_if_ltF gi_143_1 zr_2 (by decide) ?_
  refine z_iload0 gi_143_4 ?_
  refine z_pushJ gp_143_5 ?_
  refine z_icmp_geF gi_143_7 zr_2 zr_6 (by decide) ?_
  refine z_pushJ gp_143_10 ?_
  refine z_goto gi_143_11 ?_
  refine z_bret1 gi_143_15 gr_143 ?_
  show zW _ _ _ _ _ _ _ _ _ _
  refine z_if_neT gi_138_4 zr_1 (by decide) ?_
  refine z_aload0 gi_138_9 ?_
  refine z_getR (r := 37) gi_138_10 gk_0 (hR _ rm_0_11) ?_
  refine z_iload1 gi_138_13 ?_
  refine z_aald (r := 42) gi_138_14 rfl (by decide) (by decide) (hR _ rm_37_2) ?_
  refine z_iload2 gi_138_15 ?_
  refine z_cV1 gi_138_16 gk_42 go_70 (Nat.le_of_ble_eq_true rfl) gc_70_RI ?_
  refine z_aload0 gi_70_0 ?_
  refine z_getI (v := 0) gi_70_1 gk_42 (hh) ?_
  refine z_if_neF gi_70_4 zr_0 (by decide) ?_
  refine z_pushJ gp_70_7 ?_
  refine z_iret gi_70_9 gr_70 ?_
  show zW _ _ _ _ _ _ _ _ _ _
  refine z_istore (ls1 := [some (.ref 0), some (zi 2), some (zi i), some (zl v), none, some (zi (-11))]) gi_138_19 rfl ?_
  refine z_iload5 gi_138_21 ?_
  refine z_if_geF gi_138_23 zrn_11 (by decide) ?_
  refine z_iload5 gi_138_26 ?_
  refine z_iret gi_138_28 gr_138 ?_
  refine ⟨_, rfl, ?_⟩
  show zW _ _ _ _ [some (.ref 50), some (zi 2), some (zi i), some (zl v), none, none, none] _ _ _ _ _
  refine z_aload0 gi_252_0 ?_
  refine z_iload1 gi_252_1 ?_
  refine z_iload2 gi_252_2 ?_
  refine z_cV2 gi_252_3 gk_50 go_251 (Nat.le_of_ble_eq_true rfl) gc_251_RII ?_
  refine z_iload1 gi_251_0 ?_
  refine z_cS1 gi_251_1 (Nat.le_of_ble_eq_true rfl) gc_248_I ?_
  refine z_iload0 gi_248_0 ?_
  refine z_pushJ gp_248_1 ?_
  refine z_pushJ gp_248_2 ?_
  refine z_cS3 gi_248_3 (Nat.le_of_ble_eq_true rfl) gc_148_III ?_
  refine z_iload0 gi_148_0 ?_
  refine z_iload1 gi_148_1 ?_
  refine z_icmp_ltF gi_148_2 zr_2 zr_0 (by decide) ?_
  refine z_iload0 gi_148_5 ?_
  refine z_iload2 gi_148_6 ?_
  refine z_icmp_gtF gi_148_7 zr_2 zr_5 (by decide) ?_
  refine z_pushJ gp_148_10 ?_
  refine z_goto gi_148_11 ?_
  refine z_bret1 gi_148_15 gr_148 ?_
  show zW _ _ _ _ _ _ _ _ _ _
  refine z_bret1 gi_248_6 gr_248 ?_
  show zW _ _ _ _ _ _ _ _ _ _
  refine z_if_neT gi_251_4 zr_1 (by decide) ?_
  refine z_aload0 gi_251_9 ?_
  refine z_getR (r := 83) gi_251_10 gk_50 (hRr _ rm_50_58 (by decide)) ?_
  refine z_iload1 gi_251_13 ?_
  refine z_iald (v := (-1)) gi_251_14 gk_83 (by decide) (by decide) (e83) ?_
  refine z_pushJ gp_251_15 ?_
  refine z_icmp_neF gi_251_16 zrn_1 zrn_1 (by decide) ?_
  refine z_pushJ gp_251_19 ?_
  refine z_iret gi_251_21 gr_251 ?_
  show zW _ _ _ _ _ _ _ _ _ _
  refine z_istore (ls1 := [some (.ref 50), some (zi 2), some (zi i), some (zl v), none, some (zi (-11)), none]) gi_252_6 rfl ?_
  refine z_iload5 gi_252_8 ?_
  refine z_if_geF gi_252_10 zrn_11 (by decide) ?_
  refine z_iload5 gi_252_13 ?_
  refine z_iret gi_252_15 gr_252 ?_
  refine ⟨?_, ?_⟩
  · first | rfl | exact congrArg (fun v => some (zi v)) (by omega) | (exfalso; omega)
  · exact hr
theorem st_element_21 {X : Nat × (Nat → Int32)} {d : Nat} {J M : zA} {R : zR} {i : Int} (hr : Rel X J M R) (hi : -2147483648 ≤ i ∧ i < 2147483648) (hh : J 42 0 = 1) : zW X (d + 20) 139 0 (gEn 139 [(.ref 0), (zi 2), (zi i)]) [] J M R (stL X (d + 20) 253 [(zi 2), (zi i)]) := by
  have hr0 := hr
  obtain ⟨hR, hG, hY, hD, hP, hC, hAc, hS, hTp, hX, hW⟩ := hr0
  have hRr : zRoR R := zRoR_of hR
  have hA0 := hAc
  obtain ⟨a1, a2, a3, a4, a5, a6⟩ := hA0
  have e83 : J 83 2 = J 42 1 := (hS 2 (by decide) (by decide)).1.symm.trans (cH_1 hh)
  have s3 : 0 ≤ J 42 2 ∧ J 42 2 ≤ 4 := (hS 2 (by decide) (by decide)).2.2.1
  have s4 : 0 ≤ J 42 3 ∧ J 42 3 ≤ 60 := (hS 2 (by decide) (by decide)).2.2.2.1
  have s5 : 0 ≤ J 42 1 ∧ J 42 1 < J 34 1 := (hS 2 (by decide) (by decide)).2.2.2.2.1 hh
  show zW _ _ _ _ [some (.ref 0), some (zi 2), some (zi i)] _ _ _ _ _
  refine z_iload1 gi_139_0 ?_
  refine z_cS1 gi_139_1 (Nat.le_of_ble_eq_true rfl) gc_143_I ?_
  refine z_iload0 gi_143_0 ?_
  refine z_if_ltF gi_143_1 zr_2 (by decide) ?_
  refine z_iload0 gi_143_4 ?_
  refine z_pushJ gp_143_5 ?_
  refine z_icmp_geF gi_143_7 zr_2 zr_6 (by decide) ?_
  refine z_pushJ gp_143_10 ?_
  refine z_goto gi_143_11 ?_
  refine z_bret1 gi_143_15 gr_143 ?_
  show zW _ _ _ _ _ _ _ _ _ _
  refine z_if_eqF gi_139_4 zr_1 (by decide) ?_
  refine z_aload0 gi_139_7 ?_
  refine z_getR (r := 37) gi_139_8 gk_0 (hR _ rm_0_11) ?_
  refine z_iload1 gi_139_11 ?_
  refine z_aald (r := 42) gi_139_12 rfl (by decide) (by decide) (hR _ rm_37_2) ?_
  refine z_iload2 gi_139_13 ?_
  refine z_cV1 gi_139_14 gk_42 go_70 (Nat.le_of_ble_eq_true rfl) gc_70_RI ?_
  refine z_aload0 gi_70_0 ?_
  refine z_getI (v := 1) gi_70_1 gk_42 (hh) ?_
  refine z_if_neT gi_70_4 zr_1 (by decide) ?_
  refine z_aload0 gi_70_10 ?_
  refine z_getI (v := 1) gi_70_11 gk_42 (hh) ?_
  refine z_pushJ gp_70_14 ?_
  refine z_icmp_eqF gi_70_15 zr_1 zr_2 (by decide) ?_
  refine z_pushJ gp_70_18 ?_
  refine z_iret gi_70_20 gr_70 ?_
  show zW _ _ _ _ _ _ _ _ _ _
  refine z_if_geF gi_139_17 zrn_12 (by decide) ?_
  refine z_pushL (z := (-9223372036854775808)) gi_139_20 rfl ?_
  refine z_lret gi_139_23 gr_139 ?_
  refine ⟨_, rfl, ?_⟩
  show zW _ _ _ _ [some (.ref 50), some (zi 2), some (zi i)] _ _ _ _ _
  refine z_aload0 gi_253_0 ?_
  refine z_iload1 gi_253_1 ?_
  refine z_iload2 gi_253_2 ?_
  refine z_cV2 gi_253_3 gk_50 go_251 (Nat.le_of_ble_eq_true rfl) gc_251_RII ?_
  refine z_iload1 gi_251_0 ?_
  refine z_cS1 gi_251_1 (Nat.le_of_ble_eq_true rfl) gc_248_I ?_
  refine z_iload0 gi_248_0 ?_
  refine z_pushJ gp_248_1 ?_
  refine z_pushJ gp_248_2 ?_
  refine z_cS3 gi_248_3 (Nat.le_of_ble_eq_true rfl) gc_148_III ?_
  refine z_iload0 gi_148_0 ?_
  refine z_iload1 gi_148_1 ?_
  refine z_icmp_ltF gi_148_2 zr_2 zr_0 (by decide) ?_
  refine z_iload0 gi_148_5 ?_
  refine z_iload2 gi_148_6 ?_
  refine z_icmp_gtF gi_148_7 zr_2 zr_5 (by decide) ?_
  refine z_pushJ gp_148_10 ?_
  refine z_goto gi_148_11 ?_
  refine z_bret1 gi_148_15 gr_148 ?_
  show zW _ _ _ _ _ _ _ _ _ _
  refine z_bret1 gi_248_6 gr_248 ?_
  show zW _ _ _ _ _ _ _ _ _ _
  refine z_if_neT gi_251_4 zr_1 (by decide) ?_
  refine z_aload0 gi_251_9 ?_
  refine z_getR (r := 83) gi_251_10 gk_50 (hRr _ rm_50_58 (by decide)) ?_
  refine z_iload1 gi_251_13 ?_
  refine z_iald (v := J 42 1) gi_251_14 gk_83 (by decide) (by decide) (e83) ?_
  refine z_pushJ gp_251_15 ?_
  refine z_icmp_ne gi_251_16 (by omega) zrn_1 (fun h1 => ?_) (fun h1 => ?_)
  · refine z_aload0 gi_251_22 ?_
    refine z_getR (r := 83) gi_251_23 gk_50 (hRr _ rm_50_58 (by decide)) ?_
    refine z_iload1 gi_251_26 ?_
    refine z_iald (v := J 42 1) gi_251_27 gk_83 (by decide) (by decide) (e83) ?_
    refine z_if_lt gi_251_28 (by omega) (fun h2 => ?_) (fun h2 => ?_)
    · refine z_iload2 gi_251_34 ?_
      refine z_pushJ gp_251_35 ?_
      refine z_aload0 gi_251_36 ?_
      refine z_getR (r := 84) gi_251_37 gk_50 (hRr _ rm_50_59 (by decide)) ?_
      refine z_iload1 gi_251_40 ?_
      refine z_iald (v := J 84 2) gi_251_41 gk_84 (by decide) (by decide) (rfl) ?_
      refine z_pushJ gp_251_42 ?_
      refine z_isub (e := (J 84 2) - 1) gi_251_43 rfl ?_
      refine z_cS3 gi_251_44 (Nat.le_of_ble_eq_true rfl) gc_148_III ?_
      refine z_iload0 gi_148_0 ?_
      refine z_iload1 gi_148_1 ?_
      refine z_icmp_lt gi_148_2 (by omega) zr_0 (fun h3 => ?_) (fun h3 => ?_)
      · refine z_pushJ gp_148_14 ?_
        refine z_bret0 gi_148_15 gr_148 ?_
        show zW _ _ _ _ _ _ _ _ _ _
        refine z_if_eqT gi_251_47 zr_0 (by decide) ?_
        refine z_pushJ gp_251_54 ?_
        refine z_iret gi_251_56 gr_251 ?_
        show zW _ _ _ _ _ _ _ _ _ _
        refine z_if_geF gi_253_6 zrn_13 (by decide) ?_
        refine z_pushL (z := (-9223372036854775808)) gi_253_9 rfl ?_
        refine z_goto gi_253_12 ?_
        refine z_lret gi_253_26 gr_253 ?_
        refine ⟨?_, ?_⟩
        · first | rfl | exact congrArg (fun v => some (zl v)) (by omega) | (exfalso; omega)
        · exact hr
      · refine z_iload0 gi_148_5 ?_
        refine z_iload2 gi_148_6 ?_
        refine z_icmp_gt gi_148_7 (by omega) (by omega) (fun h4 => ?_) (fun h4 => ?_)
        · refine z_pushJ gp_148_14 ?_
          refine z_bret0 gi_148_15 gr_148 ?_
          show zW _ _ _ _ _ _ _ _ _ _
          refine z_if_eqT gi_251_47 zr_0 (by decide) ?_
          refine z_pushJ gp_251_54 ?_
          refine z_iret gi_251_56 gr_251 ?_
          show zW _ _ _ _ _ _ _ _ _ _
          refine z_if_geF gi_253_6 zrn_13 (by decide) ?_
          refine z_pushL (z := (-9223372036854775808)) gi_253_9 rfl ?_
          refine z_goto gi_253_12 ?_
          refine z_lret gi_253_26 gr_253 ?_
          refine ⟨?_, ?_⟩
          · first | rfl | exact congrArg (fun v => some (zl v)) (by omega) | (exfalso; omega)
          · exact hr
        · refine z_pushJ gp_148_10 ?_
          refine z_goto gi_148_11 ?_
          refine z_bret1 gi_148_15 gr_148 ?_
          show zW _ _ _ _ _ _ _ _ _ _
          refine z_if_eqF gi_251_47 zr_1 (by decide) ?_
          refine z_pushJ gp_251_50 ?_
          refine z_goto gi_251_51 ?_
          refine z_iret gi_251_56 gr_251 ?_
          show zW _ _ _ _ _ _ _ _ _ _
          refine z_if_geT gi_253_6 zr_0 (by decide) ?_
          refine z_aload0 gi_253_15 ?_
          refine z_getR (r := 85) gi_253_16 gk_50 (hRr _ rm_50_60 (by decide)) ?_
          refine z_pushJ gp_253_19 ?_
          refine z_iload1 gi_253_21 ?_
          refine z_imul (e := 120) gi_253_22 rfl ?_
          refine z_iload2 gi_253_23 ?_
          refine z_iadd (e := 120 + i) gi_253_24 rfl ?_
          refine z_lald (v := M 85 (120 + i)) gi_253_25 gk_85 (by decide) (by omega) (rfl) ?_
          refine z_lret gi_253_26 gr_253 ?_
          refine ⟨?_, ?_⟩
          · first | rfl | exact congrArg (fun v => some (zl v)) (by omega) | (exfalso; omega)
          · exact hr
    · refine z_pushJ gp_251_31 ?_
      refine z_iret gi_251_33 gr_251 ?_
      show zW _ _ _ _ _ _ _ _ _ _
      refine z_if_geF gi_253_6 zrn_12 (by decide) ?_
      refine z_pushL (z := (-9223372036854775808)) gi_253_9 rfl ?_
      refine z_goto gi_253_12 ?_
      refine z_lret gi_253_26 gr_253 ?_
      refine ⟨?_, ?_⟩
      · first | rfl | exact congrArg (fun v => some (zl v)) (by omega) | (exfalso; omega)
      · exact hr
  · refine z_pushJ gp_251_19 ?_
    refine z_iret gi_251_21 gr_251 ?_
    show zW _ _ _ _ _ _ _ _ _ _
    refine z_if_geF gi_253_6 zrn_11 (by decide) ?_
    refine z_pushL (z := (-9223372036854775808)) gi_253_9 rfl ?_
    refine z_goto gi_253_12 ?_
    refine z_lret gi_253_26 gr_253 ?_
    refine ⟨?_, ?_⟩
    · first | rfl | exact congrArg (fun v => some (zl v)) (by omega) | (exfalso; omega)
    · exact hr
theorem st_put_21 {X : Nat × (Nat → Int32)} {d : Nat} {J M : zA} {R : zR} {i v : Int} (hr : Rel X J M R) (hi : -2147483648 ≤ i ∧ i < 2147483648) (hv : -9223372036854775808 ≤ v ∧ v < 9223372036854775808) (hh : J 42 0 = 1) : zW X (d + 20) 138 0 (gEn 138 [(.ref 0), (zi 2), (zi i), (zl v)]) [] J M R (stP X (d + 20) 252 [(zi 2), (zi i), (zl v)]) := by
  have hr0 := hr
  obtain ⟨hR, hG, hY, hD, hP, hC, hAc, hS, hTp, hX, hW⟩ := hr0
  have hRr : zRoR R := zRoR_of hR
  have hA0 := hAc
  obtain ⟨a1, a2, a3, a4, a5, a6⟩ := hA0
  have e83 : J 83 2 = J 42 1 := (hS 2 (by decide) (by decide)).1.symm.trans (cH_1 hh)
  have s3 : 0 ≤ J 42 2 ∧ J 42 2 ≤ 4 := (hS 2 (by decide) (by decide)).2.2.1
  have s4 : 0 ≤ J 42 3 ∧ J 42 3 ≤ 60 := (hS 2 (by decide) (by decide)).2.2.2.1
  have s5 : 0 ≤ J 42 1 ∧ J 42 1 < J 34 1 := (hS 2 (by decide) (by decide)).2.2.2.2.1 hh
  show zW _ _ _ _ [some (.ref 0), some (zi 2), some (zi i), some (zl v), none, none] _ _ _ _ _
  refine z_iload1 gi_138_0 ?_
  refine z_cS1 gi_138_1 (Nat.le_of_ble_eq_true rfl) gc_143_I ?_
  refine z_iload0 gi_143_0 ?_
  refine z_if_ltF gi_143_1 zr_2 (by decide) ?_
  refine z_iload0 gi_143_4 ?_
  refine z_pushJ gp_143_5 ?_
  refine z_icmp_geF gi_143_7 zr_2 zr_6 (by decide) ?_
  refine z_pushJ gp_143_10 ?_
  refine z_goto gi_143_11 ?_
  refine z_bret1 gi_143_15 gr_143 ?_
  show zW _ _ _ _ _ _ _ _ _ _
  refine z_if_neT gi_138_4 zr_1 (by decide) ?_
  refine z_aload0 gi_138_9 ?_
  refine z_getR (r := 37) gi_138_10 gk_0 (hR _ rm_0_11) ?_
  refine z_iload1 gi_138_13 ?_
  refine z_aald (r := 42) gi_138_14 rfl (by decide) (by decide) (hR _ rm_37_2) ?_
  refine z_iload2 gi_138_15 ?_
  refine z_cV1 gi_138_16 gk_42 go_70 (Nat.le_of_ble_eq_true rfl) gc_70_RI ?_
  refine z_aload0 gi_70_0 ?_
  refine z_getI (v := 1) gi_70_1 gk_42 (hh) ?_
  refine z_if_neT gi_70_4 zr_1 (by decide) ?_
  refine z_aload0 gi_70_10 ?_
  refine z_getI (v := 1) gi_70_11 gk_42 (hh) ?_
  refine z_pushJ gp_70_14 ?_
  refine z_icmp_eqF gi_70_15 zr_1 zr_2 (by decide) ?_
  refine z_pushJ gp_70_18 ?_
  refine z_iret gi_70_20 gr_70 ?_
  show zW _ _ _ _ _ _ _ _ _ _
  refine z_istore (ls1 := [some (.ref 0), some (zi 2), some (zi i), some (zl v), none, some (zi (-12))]) gi_138_19 rfl ?_
  refine z_iload5 gi_138_21 ?_
  refine z_if_geF gi_138_23 zrn_12 (by decide) ?_
  refine z_iload5 gi_138_26 ?_
  refine z_iret gi_138_28 gr_138 ?_
  refine ⟨_, rfl, ?_⟩
  show zW _ _ _ _ [some (.ref 50), some (zi 2), some (zi i), some (zl v), none, none, none] _ _ _ _ _
  refine z_aload0 gi_252_0 ?_
  refine z_iload1 gi_252_1 ?_
  refine z_iload2 gi_252_2 ?_
  refine z_cV2 gi_252_3 gk_50 go_251 (Nat.le_of_ble_eq_true rfl) gc_251_RII ?_
  refine z_iload1 gi_251_0 ?_
  refine z_cS1 gi_251_1 (Nat.le_of_ble_eq_true rfl) gc_248_I ?_
  refine z_iload0 gi_248_0 ?_
  refine z_pushJ gp_248_1 ?_
  refine z_pushJ gp_248_2 ?_
  refine z_cS3 gi_248_3 (Nat.le_of_ble_eq_true rfl) gc_148_III ?_
  refine z_iload0 gi_148_0 ?_
  refine z_iload1 gi_148_1 ?_
  refine z_icmp_ltF gi_148_2 zr_2 zr_0 (by decide) ?_
  refine z_iload0 gi_148_5 ?_
  refine z_iload2 gi_148_6 ?_
  refine z_icmp_gtF gi_148_7 zr_2 zr_5 (by decide) ?_
  refine z_pushJ gp_148_10 ?_
  refine z_goto gi_148_11 ?_
  refine z_bret1 gi_148_15 gr_148 ?_
  show zW _ _ _ _ _ _ _ _ _ _
  refine z_bret1 gi_248_6 gr_248 ?_
  show zW _ _ _ _ _ _ _ _ _ _
  refine z_if_neT gi_251_4 zr_1 (by decide) ?_
  refine z_aload0 gi_251_9 ?_
  refine z_getR (r := 83) gi_251_10 gk_50 (hRr _ rm_50_58 (by decide)) ?_
  refine z_iload1 gi_251_13 ?_
  refine z_iald (v := J 42 1) gi_251_14 gk_83 (by decide) (by decide) (e83) ?_
  refine z_pushJ gp_251_15 ?_
  refine z_icmp_ne gi_251_16 (by omega) zrn_1 (fun h1 => ?_) (fun h1 => ?_)
  · refine z_aload0 gi_251_22 ?_
    refine z_getR (r := 83) gi_251_23 gk_50 (hRr _ rm_50_58 (by decide)) ?_
    refine z_iload1 gi_251_26 ?_
    refine z_iald (v := J 42 1) gi_251_27 gk_83 (by decide) (by decide) (e83) ?_
    refine z_if_lt gi_251_28 (by omega) (fun h2 => ?_) (fun h2 => ?_)
    · refine z_iload2 gi_251_34 ?_
      refine z_pushJ gp_251_35 ?_
      refine z_aload0 gi_251_36 ?_
      refine z_getR (r := 84) gi_251_37 gk_50 (hRr _ rm_50_59 (by decide)) ?_
      refine z_iload1 gi_251_40 ?_
      refine z_iald (v := J 84 2) gi_251_41 gk_84 (by decide) (by decide) (rfl) ?_
      refine z_pushJ gp_251_42 ?_
      refine z_isub (e := (J 84 2) - 1) gi_251_43 rfl ?_
      refine z_cS3 gi_251_44 (Nat.le_of_ble_eq_true rfl) gc_148_III ?_
      refine z_iload0 gi_148_0 ?_
      refine z_iload1 gi_148_1 ?_
      refine z_icmp_lt gi_148_2 (by omega) zr_0 (fun h3 => ?_) (fun h3 => ?_)
      · refine z_pushJ gp_148_14 ?_
        refine z_bret0 gi_148_15 gr_148 ?_
        show zW _ _ _ _ _ _ _ _ _ _
        refine z_if_eqT gi_251_47 zr_0 (by decide) ?_
        refine z_pushJ gp_251_54 ?_
        refine z_iret gi_251_56 gr_251 ?_
        show zW _ _ _ _ _ _ _ _ _ _
        refine z_istore (ls1 := [some (.ref 50), some (zi 2), some (zi i), some (zl v), none, some (zi (-13)), none]) gi_252_6 rfl ?_
        refine z_iload5 gi_252_8 ?_
        refine z_if_geF gi_252_10 zrn_13 (by decide) ?_
        refine z_iload5 gi_252_13 ?_
        refine z_iret gi_252_15 gr_252 ?_
        refine ⟨?_, ?_⟩
        · first | rfl | exact congrArg (fun v => some (zi v)) (by omega) | (exfalso; omega)
        · exact hr
      · refine z_iload0 gi_148_5 ?_
        refine z_iload2 gi_148_6 ?_
        refine z_icmp_gt gi_148_7 (by omega) (by omega) (fun h4 => ?_) (fun h4 => ?_)
        · refine z_pushJ gp_148_14 ?_
          refine z_bret0 gi_148_15 gr_148 ?_
          show zW _ _ _ _ _ _ _ _ _ _
          refine z_if_eqT gi_251_47 zr_0 (by decide) ?_
          refine z_pushJ gp_251_54 ?_
          refine z_iret gi_251_56 gr_251 ?_
          show zW _ _ _ _ _ _ _ _ _ _
          refine z_istore (ls1 := [some (.ref 50), some (zi 2), some (zi i), some (zl v), none, some (zi (-13)), none]) gi_252_6 rfl ?_
          refine z_iload5 gi_252_8 ?_
          refine z_if_geF gi_252_10 zrn_13 (by decide) ?_
          refine z_iload5 gi_252_13 ?_
          refine z_iret gi_252_15 gr_252 ?_
          refine ⟨?_, ?_⟩
          · first | rfl | exact congrArg (fun v => some (zi v)) (by omega) | (exfalso; omega)
          · exact hr
        · refine z_pushJ gp_148_10 ?_
          refine z_goto gi_148_11 ?_
          refine z_bret1 gi_148_15 gr_148 ?_
          show zW _ _ _ _ _ _ _ _ _ _
          refine z_if_eqF gi_251_47 zr_1 (by decide) ?_
          refine z_pushJ gp_251_50 ?_
          refine z_goto gi_251_51 ?_
          refine z_iret gi_251_56 gr_251 ?_
          show zW _ _ _ _ _ _ _ _ _ _
          refine z_istore (ls1 := [some (.ref 50), some (zi 2), some (zi i), some (zl v), none, some (zi 0), none]) gi_252_6 rfl ?_
          refine z_iload5 gi_252_8 ?_
          refine z_if_geT gi_252_10 zr_0 (by decide) ?_
          refine z_pushJ gp_252_16 ?_
          refine z_aload0 gi_252_18 ?_
          refine z_getR (r := 83) gi_252_19 gk_50 (hRr _ rm_50_58 (by decide)) ?_
          refine z_iload1 gi_252_22 ?_
          refine z_iald (v := J 42 1) gi_252_23 gk_83 (by decide) (by decide) (e83) ?_
          refine z_isub (e := (-2) - (J 42 1)) gi_252_24 rfl ?_
          refine z_istore (ls1 := [some (.ref 50), some (zi 2), some (zi i), some (zl v), none, some (zi 0), some (zi ((-2) - (J 42 1)))]) gi_252_25 rfl ?_
          refine z_aload0 gi_252_27 ?_
          refine z_getR (r := 85) gi_252_28 gk_50 (hRr _ rm_50_60 (by decide)) ?_
          refine z_pushJ gp_252_31 ?_
          refine z_iload1 gi_252_33 ?_
          refine z_imul (e := 120) gi_252_34 rfl ?_
          refine z_iload2 gi_252_35 ?_
          refine z_iadd (e := 120 + i) gi_252_36 rfl ?_
          refine z_iload6 gi_252_37 ?_
          refine z_if_ne gi_252_39 (by omega) (fun h5 => ?_) (fun h5 => ?_)
          · refine z_iload6 gi_252_49 ?_
            refine z_pushJ gp_252_51 ?_
            refine z_icmp_ne gi_252_52 (by omega) zr_1 (fun h6 => ?_) (fun h6 => ?_)
            · refine z_iload6 gi_252_62 ?_
              refine z_pushJ gp_252_64 ?_
              refine z_icmp_ne gi_252_65 (by omega) zr_2 (fun h7 => ?_) (fun h7 => ?_)
              · refine z_iload6 gi_252_74 ?_
                refine z_pushJ gp_252_76 ?_
                refine z_icmp_ne gi_252_77 (by omega) zr_3 (fun h8 => ?_) (fun h8 => ?_)
                · refine z_lload3 gi_252_84 ?_
                  refine z_pushL (z := 0) gi_252_85 rfl ?_
                  refine z_lcmp_eq gi_252_86 gi_252_87 (by omega) (by omega) (fun h9 => ?_) (fun h9 => ?_)
                  · refine z_pushL (z := 0) gi_252_94 rfl ?_
                    refine z_last (e := 0) gi_252_95 gk_85 (by decide) (by omega) rfl ?_
                    refine z_pushJ gp_252_96 ?_
                    refine z_iret gi_252_97 gr_252 ?_
                    refine ⟨?_, ?_⟩
                    · first | rfl | exact congrArg (fun v => some (zi v)) (by omega) | (exfalso; omega)
                    · exfalso
                      omega
                  · refine z_pushL (z := 1) gi_252_90 rfl ?_
                    refine z_goto gi_252_91 ?_
                    refine z_last (e := 1) gi_252_95 gk_85 (by decide) (by omega) rfl ?_
                    refine z_pushJ gp_252_96 ?_
                    refine z_iret gi_252_97 gr_252 ?_
                    refine ⟨?_, ?_⟩
                    · first | rfl | exact congrArg (fun v => some (zi v)) (by omega) | (exfalso; omega)
                    · exfalso
                      omega
                · refine z_lload3 gi_252_80 ?_
                  refine z_goto gi_252_81 ?_
                  refine z_last (e := v) gi_252_95 gk_85 (by decide) (by omega) rfl ?_
                  refine z_pushJ gp_252_96 ?_
                  refine z_iret gi_252_97 gr_252 ?_
                  refine ⟨?_, ?_⟩
                  · first | rfl | exact congrArg (fun v => some (zi v)) (by omega) | (exfalso; omega)
                  · exfalso
                    omega
              · refine z_lload3 gi_252_68 ?_
                refine z_l2i gi_252_69 ?_
                refine z_topn (e := zn v) rfl ?_
                have q10 := zn_r v
                refine z_i2l gi_252_70 (by omega) ?_
                refine z_goto gi_252_71 ?_
                refine z_last (e := zn v) gi_252_95 gk_85 (by decide) (by omega) rfl ?_
                refine z_pushJ gp_252_96 ?_
                refine z_iret gi_252_97 gr_252 ?_
                refine ⟨?_, ?_⟩
                · first | rfl | exact congrArg (fun v => some (zi v)) (by omega) | (exfalso; omega)
                · exfalso
                  omega
            · refine z_lload3 gi_252_55 ?_
              refine z_l2i gi_252_56 ?_
              refine z_i2s (e := zh v) gi_252_57 rfl ?_
              have q11 := zh_r v
              refine z_i2l gi_252_58 (by omega) ?_
              refine z_goto gi_252_59 ?_
              refine z_last (e := zh v) gi_252_95 gk_85 (by decide) (by omega) rfl ?_
              refine z_pushJ gp_252_96 ?_
              refine z_iret gi_252_97 gr_252 ?_
              refine ⟨?_, ?_⟩
              · first | rfl | exact congrArg (fun v => some (zi v)) (by omega) | (exfalso; omega)
              · exfalso
                omega
          · refine z_lload3 gi_252_42 ?_
            refine z_l2i gi_252_43 ?_
            refine z_i2b (e := zb v) gi_252_44 rfl ?_
            have q12 := zb_r v
            refine z_i2l gi_252_45 (by omega) ?_
            refine z_goto gi_252_46 ?_
            refine z_last (e := zb v) gi_252_95 gk_85 (by decide) (by omega) rfl ?_
            refine z_pushJ gp_252_96 ?_
            refine z_iret gi_252_97 gr_252 ?_
            refine ⟨?_, ?_⟩
            · first | rfl | exact congrArg (fun v => some (zi v)) (by omega) | (exfalso; omega)
            · exfalso
              omega
    · refine z_pushJ gp_251_31 ?_
      refine z_iret gi_251_33 gr_251 ?_
      show zW _ _ _ _ _ _ _ _ _ _
      refine z_istore (ls1 := [some (.ref 50), some (zi 2), some (zi i), some (zl v), none, some (zi (-12)), none]) gi_252_6 rfl ?_
      refine z_iload5 gi_252_8 ?_
      refine z_if_geF gi_252_10 zrn_12 (by decide) ?_
      refine z_iload5 gi_252_13 ?_
      refine z_iret gi_252_15 gr_252 ?_
      refine ⟨?_, ?_⟩
      · first | rfl | exact congrArg (fun v => some (zi v)) (by omega) | (exfalso; omega)
      · exact hr
  · refine z_pushJ gp_251_19 ?_
    refine z_iret gi_251_21 gr_251 ?_
    show zW _ _ _ _ _ _ _ _ _ _
    refine z_istore (ls1 := [some (.ref 50), some (zi 2), some (zi i), some (zl v), none, some (zi (-11)), none]) gi_252_6 rfl ?_
    refine z_iload5 gi_252_8 ?_
    refine z_if_geF gi_252_10 zrn_11 (by decide) ?_
    refine z_iload5 gi_252_13 ?_
    refine z_iret gi_252_15 gr_252 ?_
    refine ⟨?_, ?_⟩
    · first | rfl | exact congrArg (fun v => some (zi v)) (by omega) | (exfalso; omega)
    · exact hr
theorem st_element_22 {X : Nat × (Nat → Int32)} {d : Nat} {J M : zA} {R : zR} {i : Int} (hr : Rel X J M R) (hi : -2147483648 ≤ i ∧ i < 2147483648) (hh : J 42 0 = 2) : zW X (d + 20) 139 0 (gEn 139 [(.ref 0), (zi 2), (zi i)]) [] J M R (stL X (d + 20) 253 [(zi 2), (zi i)]) := by
  have hr0 := hr
  obtain ⟨hR, hG, hY, hD, hP, hC, hAc, hS, hTp, hX, hW⟩ := hr0
  have hRr : zRoR R := zRoR_of hR
  have hA0 := hAc
  obtain ⟨a1, a2, a3, a4, a5, a6⟩ := hA0
  have e83 : J 83 2 = -2 - J 42 2 := (hS 2 (by decide) (by decide)).1.symm.trans (cH_2 hh)
  have s3 : 0 ≤ J 42 2 ∧ J 42 2 ≤ 4 := (hS 2 (by decide) (by decide)).2.2.1
  have s4 : 0 ≤ J 42 3 ∧ J 42 3 ≤ 60 := (hS 2 (by decide) (by decide)).2.2.2.1
  have s6 := (hS 2 (by decide) (by decide)).2.2.2.2.2 hh
  have s7 : J 84 2 = J 42 3 := s6.1.symm
  have s8 : ∀ i, 0 ≤ i → i < J 42 3 → M 43 i = M 85 (120 + i) := s6.2.1
  show zW _ _ _ _ [some (.ref 0), some (zi 2), some (zi i)] _ _ _ _ _
  refine z_iload1 gi_139_0 ?_
  refine z_cS1 gi_139_1 (Nat.le_of_ble_eq_true rfl) gc_143_I ?_
  refine z_iload0 gi_143_0 ?_
  refine z_if_ltF gi_143_1 zr_2 (by decide) ?_
  refine z_iload0 gi_143_4 ?_
  refine z_pushJ gp_143_5 ?_
  refine z_icmp_geF gi_143_7 zr_2 zr_6 (by decide) ?_
  refine z_pushJ gp_143_10 ?_
  refine z_goto gi_143_11 ?_
  refine z_bret1 gi_143_15 gr_143 ?_
  show zW _ _ _ _ _ _ _ _ _ _
  refine z_if_eqF gi_139_4 zr_1 (by decide) ?_
  refine z_aload0 gi_139_7 ?_
  refine z_getR (r := 37) gi_139_8 gk_0 (hR _ rm_0_11) ?_
  refine z_iload1 gi_139_11 ?_
  refine z_aald (r := 42) gi_139_12 rfl (by decide) (by decide) (hR _ rm_37_2) ?_
  refine z_iload2 gi_139_13 ?_
  refine z_cV1 gi_139_14 gk_42 go_70 (Nat.le_of_ble_eq_true rfl) gc_70_RI ?_
  refine z_aload0 gi_70_0 ?_
  refine z_getI (v := 2) gi_70_1 gk_42 (hh) ?_
  refine z_if_neT gi_70_4 zr_2 (by decide) ?_
  refine z_aload0 gi_70_10 ?_
  refine z_getI (v := 2) gi_70_11 gk_42 (hh) ?_
  refine z_pushJ gp_70_14 ?_
  refine z_icmp_eqT gi_70_15 zr_2 zr_2 (by decide) ?_
  refine z_iload1 gi_70_21 ?_
  refine z_if_lt gi_70_22 (by omega) (fun h1 => ?_) (fun h1 => ?_)
  · refine z_pushJ gp_70_37 ?_
    refine z_iret gi_70_39 gr_70 ?_
    show zW _ _ _ _ _ _ _ _ _ _
    refine z_if_geF gi_139_17 zrn_13 (by decide) ?_
    refine z_pushL (z := (-9223372036854775808)) gi_139_20 rfl ?_
    refine z_lret gi_139_23 gr_139 ?_
    refine ⟨_, rfl, ?_⟩
    show zW _ _ _ _ [some (.ref 50), some (zi 2), some (zi i)] _ _ _ _ _
    refine z_aload0 gi_253_0 ?_
    refine z_iload1 gi_253_1 ?_
    refine z_iload2 gi_253_2 ?_
    refine z_cV2 gi_253_3 gk_50 go_251 (Nat.le_of_ble_eq_true rfl) gc_251_RII ?_
    refine z_iload1 gi_251_0 ?_
    refine z_cS1 gi_251_1 (Nat.le_of_ble_eq_true rfl) gc_248_I ?_
    refine z_iload0 gi_248_0 ?_
    refine z_pushJ gp_248_1 ?_
    refine z_pushJ gp_248_2 ?_
    refine z_cS3 gi_248_3 (Nat.le_of_ble_eq_true rfl) gc_148_III ?_
    refine z_iload0 gi_148_0 ?_
    refine z_iload1 gi_148_1 ?_
    refine z_icmp_ltF gi_148_2 zr_2 zr_0 (by decide) ?_
    refine z_iload0 gi_148_5 ?_
    refine z_iload2 gi_148_6 ?_
    refine z_icmp_gtF gi_148_7 zr_2 zr_5 (by decide) ?_
    refine z_pushJ gp_148_10 ?_
    refine z_goto gi_148_11 ?_
    refine z_bret1 gi_148_15 gr_148 ?_
    show zW _ _ _ _ _ _ _ _ _ _
    refine z_bret1 gi_248_6 gr_248 ?_
    show zW _ _ _ _ _ _ _ _ _ _
    refine z_if_neT gi_251_4 zr_1 (by decide) ?_
    refine z_aload0 gi_251_9 ?_
    refine z_getR (r := 83) gi_251_10 gk_50 (hRr _ rm_50_58 (by decide)) ?_
    refine z_iload1 gi_251_13 ?_
    refine z_iald (v := (-2) - (J 42 2)) gi_251_14 gk_83 (by decide) (by decide) (e83) ?_
    refine z_pushJ gp_251_15 ?_
    refine z_icmp_ne gi_251_16 (by omega) zrn_1 (fun h2 => ?_) (fun h2 => ?_)
    · refine z_aload0 gi_251_22 ?_
      refine z_getR (r := 83) gi_251_23 gk_50 (hRr _ rm_50_58 (by decide)) ?_
      refine z_iload1 gi_251_26 ?_
      refine z_iald (v := (-2) - (J 42 2)) gi_251_27 gk_83 (by decide) (by decide) (e83) ?_
      refine z_if_lt gi_251_28 (by omega) (fun h3 => ?_) (fun h3 => ?_)
      · refine z_iload2 gi_251_34 ?_
        refine z_pushJ gp_251_35 ?_
        refine z_aload0 gi_251_36 ?_
        refine z_getR (r := 84) gi_251_37 gk_50 (hRr _ rm_50_59 (by decide)) ?_
        refine z_iload1 gi_251_40 ?_
        refine z_iald (v := J 42 3) gi_251_41 gk_84 (by decide) (by decide) (s7) ?_
        refine z_pushJ gp_251_42 ?_
        refine z_isub (e := (J 42 3) - 1) gi_251_43 rfl ?_
        refine z_cS3 gi_251_44 (Nat.le_of_ble_eq_true rfl) gc_148_III ?_
        refine z_iload0 gi_148_0 ?_
        refine z_iload1 gi_148_1 ?_
        refine z_icmp_ltT gi_148_2 (by omega) zr_0 (by omega) ?_
        refine z_pushJ gp_148_14 ?_
        refine z_bret0 gi_148_15 gr_148 ?_
        show zW _ _ _ _ _ _ _ _ _ _
        refine z_if_eqT gi_251_47 zr_0 (by decide) ?_
        refine z_pushJ gp_251_54 ?_
        refine z_iret gi_251_56 gr_251 ?_
        show zW _ _ _ _ _ _ _ _ _ _
        refine z_if_geF gi_253_6 zrn_13 (by decide) ?_
        refine z_pushL (z := (-9223372036854775808)) gi_253_9 rfl ?_
        refine z_goto gi_253_12 ?_
        refine z_lret gi_253_26 gr_253 ?_
        refine ⟨?_, ?_⟩
        · first | rfl | exact congrArg (fun v => some (zl v)) (by omega) | (exfalso; omega)
        · exact hr
      · refine z_pushJ gp_251_31 ?_
        refine z_iret gi_251_33 gr_251 ?_
        show zW _ _ _ _ _ _ _ _ _ _
        refine z_if_geF gi_253_6 zrn_12 (by decide) ?_
        refine z_pushL (z := (-9223372036854775808)) gi_253_9 rfl ?_
        refine z_goto gi_253_12 ?_
        refine z_lret gi_253_26 gr_253 ?_
        refine ⟨?_, ?_⟩
        · first | rfl | exact congrArg (fun v => some (zl v)) (by omega) | (exfalso; omega)
        · exact hr
    · refine z_pushJ gp_251_19 ?_
      refine z_iret gi_251_21 gr_251 ?_
      show zW _ _ _ _ _ _ _ _ _ _
      refine z_if_geF gi_253_6 zrn_11 (by decide) ?_
      refine z_pushL (z := (-9223372036854775808)) gi_253_9 rfl ?_
      refine z_goto gi_253_12 ?_
      refine z_lret gi_253_26 gr_253 ?_
      refine ⟨?_, ?_⟩
      · first | rfl | exact congrArg (fun v => some (zl v)) (by omega) | (exfalso; omega)
      · exact hr
  · refine z_iload1 gi_70_25 ?_
    refine z_aload0 gi_70_26 ?_
    refine z_getI (v := J 42 3) gi_70_27 gk_42 (rfl) ?_
    refine z_icmp_ge gi_70_30 (by omega) (by omega) (fun h2 => ?_) (fun h2 => ?_)
    · refine z_pushJ gp_70_37 ?_
      refine z_iret gi_70_39 gr_70 ?_
      show zW _ _ _ _ _ _ _ _ _ _
      refine z_if_geF gi_139_17 zrn_13 (by decide) ?_
      refine z_pushL (z := (-9223372036854775808)) gi_139_20 rfl ?_
      refine z_lret gi_139_23 gr_139 ?_
      refine ⟨_, rfl, ?_⟩
      show zW _ _ _ _ [some (.ref 50), some (zi 2), some (zi i)] _ _ _ _ _
      refine z_aload0 gi_253_0 ?_
      refine z_iload1 gi_253_1 ?_
      refine z_iload2 gi_253_2 ?_
      refine z_cV2 gi_253_3 gk_50 go_251 (Nat.le_of_ble_eq_true rfl) gc_251_RII ?_
      refine z_iload1 gi_251_0 ?_
      refine z_cS1 gi_251_1 (Nat.le_of_ble_eq_true rfl) gc_248_I ?_
      refine z_iload0 gi_248_0 ?_
      refine z_pushJ gp_248_1 ?_
      refine z_pushJ gp_248_2 ?_
      refine z_cS3 gi_248_3 (Nat.le_of_ble_eq_true rfl) gc_148_III ?_
      refine z_iload0 gi_148_0 ?_
      refine z_iload1 gi_148_1 ?_
      refine z_icmp_ltF gi_148_2 zr_2 zr_0 (by decide) ?_
      refine z_iload0 gi_148_5 ?_
      refine z_iload2 gi_148_6 ?_
      refine z_icmp_gtF gi_148_7 zr_2 zr_5 (by decide) ?_
      refine z_pushJ gp_148_10 ?_
      refine z_goto gi_148_11 ?_
      refine z_bret1 gi_148_15 gr_148 ?_
      show zW _ _ _ _ _ _ _ _ _ _
      refine z_bret1 gi_248_6 gr_248 ?_
      show zW _ _ _ _ _ _ _ _ _ _
      refine z_if_neT gi_251_4 zr_1 (by decide) ?_
      refine z_aload0 gi_251_9 ?_
      refine z_getR (r := 83) gi_251_10 gk_50 (hRr _ rm_50_58 (by decide)) ?_
      refine z_iload1 gi_251_13 ?_
      refine z_iald (v := (-2) - (J 42 2)) gi_251_14 gk_83 (by decide) (by decide) (e83) ?_
      refine z_pushJ gp_251_15 ?_
      refine z_icmp_ne gi_251_16 (by omega) zrn_1 (fun h3 => ?_) (fun h3 => ?_)
      · refine z_aload0 gi_251_22 ?_
        refine z_getR (r := 83) gi_251_23 gk_50 (hRr _ rm_50_58 (by decide)) ?_
        refine z_iload1 gi_251_26 ?_
        refine z_iald (v := (-2) - (J 42 2)) gi_251_27 gk_83 (by decide) (by decide) (e83) ?_
        refine z_if_lt gi_251_28 (by omega) (fun h4 => ?_) (fun h4 => ?_)
        · refine z_iload2 gi_251_34 ?_
          refine z_pushJ gp_251_35 ?_
          refine z_aload0 gi_251_36 ?_
          refine z_getR (r := 84) gi_251_37 gk_50 (hRr _ rm_50_59 (by decide)) ?_
          refine z_iload1 gi_251_40 ?_
          refine z_iald (v := J 42 3) gi_251_41 gk_84 (by decide) (by decide) (s7) ?_
          refine z_pushJ gp_251_42 ?_
          refine z_isub (e := (J 42 3) - 1) gi_251_43 rfl ?_
          refine z_cS3 gi_251_44 (Nat.le_of_ble_eq_true rfl) gc_148_III ?_
          refine z_iload0 gi_148_0 ?_
          refine z_iload1 gi_148_1 ?_
          refine z_icmp_ltF gi_148_2 (by omega) zr_0 (by omega) ?_
          refine z_iload0 gi_148_5 ?_
          refine z_iload2 gi_148_6 ?_
          refine z_icmp_gtT gi_148_7 (by omega) (by omega) (by omega) ?_
          refine z_pushJ gp_148_14 ?_
          refine z_bret0 gi_148_15 gr_148 ?_
          show zW _ _ _ _ _ _ _ _ _ _
          refine z_if_eqT gi_251_47 zr_0 (by decide) ?_
          refine z_pushJ gp_251_54 ?_
          refine z_iret gi_251_56 gr_251 ?_
          show zW _ _ _ _ _ _ _ _ _ _
          refine z_if_geF gi_253_6 zrn_13 (by decide) ?_
          refine z_pushL (z := (-9223372036854775808)) gi_253_9 rfl ?_
          refine z_goto gi_253_12 ?_
          refine z_lret gi_253_26 gr_253 ?_
          refine ⟨?_, ?_⟩
          · first | rfl | exact congrArg (fun v => some (zl v)) (by omega) | (exfalso; omega)
          · exact hr
        · refine z_pushJ gp_251_31 ?_
          refine z_iret gi_251_33 gr_251 ?_
          show zW _ _ _ _ _ _ _ _ _ _
          refine z_if_geF gi_253_6 zrn_12 (by decide) ?_
          refine z_pushL (z := (-9223372036854775808)) gi_253_9 rfl ?_
          refine z_goto gi_253_12 ?_
          refine z_lret gi_253_26 gr_253 ?_
          refine ⟨?_, ?_⟩
          · first | rfl | exact congrArg (fun v => some (zl v)) (by omega) | (exfalso; omega)
          · exact hr
      · refine z_pushJ gp_251_19 ?_
        refine z_iret gi_251_21 gr_251 ?_
        show zW _ _ _ _ _ _ _ _ _ _
        refine z_if_geF gi_253_6 zrn_11 (by decide) ?_
        refine z_pushL (z := (-9223372036854775808)) gi_253_9 rfl ?_
        refine z_goto gi_253_12 ?_
        refine z_lret gi_253_26 gr_253 ?_
        refine ⟨?_, ?_⟩
        · first | rfl | exact congrArg (fun v => some (zl v)) (by omega) | (exfalso; omega)
        · exact hr
    · refine z_pushJ gp_70_33 ?_
      refine z_goto gi_70_34 ?_
      refine z_iret gi_70_39 gr_70 ?_
      show zW _ _ _ _ _ _ _ _ _ _
      refine z_if_geT gi_139_17 zr_0 (by decide) ?_
      refine z_aload0 gi_139_24 ?_
      refine z_getR (r := 37) gi_139_25 gk_0 (hR _ rm_0_11) ?_
      refine z_iload1 gi_139_28 ?_
      refine z_aald (r := 42) gi_139_29 rfl (by decide) (by decide) (hR _ rm_37_2) ?_
      refine z_iload2 gi_139_30 ?_
      refine z_cV1 gi_139_31 gk_42 go_72 (Nat.le_of_ble_eq_true rfl) gc_72_RI ?_
      refine z_iload1 gi_72_0 ?_
      refine z_if_ltF gi_72_1 (by omega) (by omega) ?_
      refine z_iload1 gi_72_4 ?_
      refine z_aload0 gi_72_5 ?_
      refine z_getI (v := J 42 3) gi_72_6 gk_42 (rfl) ?_
      refine z_icmp_geF gi_72_9 (by omega) (by omega) (by omega) ?_
      refine z_aload0 gi_72_12 ?_
      refine z_getR (r := 43) gi_72_13 gk_42 (hR _ rm_42_4) ?_
      refine z_iload1 gi_72_16 ?_
      refine z_lald (v := M 43 i) gi_72_17 gk_43 (by decide) (by omega) (rfl) ?_
      refine z_goto gi_72_18 ?_
      refine z_lret gi_72_22 gr_72 ?_
      show zW _ _ _ _ _ _ _ _ _ _
      refine z_lret gi_139_34 gr_139 ?_
      refine ⟨_, rfl, ?_⟩
      show zW _ _ _ _ [some (.ref 50), some (zi 2), some (zi i)] _ _ _ _ _
      refine z_aload0 gi_253_0 ?_
      refine z_iload1 gi_253_1 ?_
      refine z_iload2 gi_253_2 ?_
      refine z_cV2 gi_253_3 gk_50 go_251 (Nat.le_of_ble_eq_true rfl) gc_251_RII ?_
      refine z_iload1 gi_251_0 ?_
      refine z_cS1 gi_251_1 (Nat.le_of_ble_eq_true rfl) gc_248_I ?_
      refine z_iload0 gi_248_0 ?_
      refine z_pushJ gp_248_1 ?_
      refine z_pushJ gp_248_2 ?_
      refine z_cS3 gi_248_3 (Nat.le_of_ble_eq_true rfl) gc_148_III ?_
      refine z_iload0 gi_148_0 ?_
      refine z_iload1 gi_148_1 ?_
      refine z_icmp_ltF gi_148_2 zr_2 zr_0 (by decide) ?_
      refine z_iload0 gi_148_5 ?_
      refine z_iload2 gi_148_6 ?_
      refine z_icmp_gtF gi_148_7 zr_2 zr_5 (by decide) ?_
      refine z_pushJ gp_148_10 ?_
      refine z_goto gi_148_11 ?_
      refine z_bret1 gi_148_15 gr_148 ?_
      show zW _ _ _ _ _ _ _ _ _ _
      refine z_bret1 gi_248_6 gr_248 ?_
      show zW _ _ _ _ _ _ _ _ _ _
      refine z_if_neT gi_251_4 zr_1 (by decide) ?_
      refine z_aload0 gi_251_9 ?_
      refine z_getR (r := 83) gi_251_10 gk_50 (hRr _ rm_50_58 (by decide)) ?_
      refine z_iload1 gi_251_13 ?_
      refine z_iald (v := (-2) - (J 42 2)) gi_251_14 gk_83 (by decide) (by decide) (e83) ?_
      refine z_pushJ gp_251_15 ?_
      refine z_icmp_ne gi_251_16 (by omega) zrn_1 (fun h3 => ?_) (fun h3 => ?_)
      · refine z_aload0 gi_251_22 ?_
        refine z_getR (r := 83) gi_251_23 gk_50 (hRr _ rm_50_58 (by decide)) ?_
        refine z_iload1 gi_251_26 ?_
        refine z_iald (v := (-2) - (J 42 2)) gi_251_27 gk_83 (by decide) (by decide) (e83) ?_
        refine z_if_lt gi_251_28 (by omega) (fun h4 => ?_) (fun h4 => ?_)
        · refine z_iload2 gi_251_34 ?_
          refine z_pushJ gp_251_35 ?_
          refine z_aload0 gi_251_36 ?_
          refine z_getR (r := 84) gi_251_37 gk_50 (hRr _ rm_50_59 (by decide)) ?_
          refine z_iload1 gi_251_40 ?_
          refine z_iald (v := J 42 3) gi_251_41 gk_84 (by decide) (by decide) (s7) ?_
          refine z_pushJ gp_251_42 ?_
          refine z_isub (e := (J 42 3) - 1) gi_251_43 rfl ?_
          refine z_cS3 gi_251_44 (Nat.le_of_ble_eq_true rfl) gc_148_III ?_
          refine z_iload0 gi_148_0 ?_
          refine z_iload1 gi_148_1 ?_
          refine z_icmp_ltF gi_148_2 (by omega) zr_0 (by omega) ?_
          refine z_iload0 gi_148_5 ?_
          refine z_iload2 gi_148_6 ?_
          refine z_icmp_gtF gi_148_7 (by omega) (by omega) (by omega) ?_
          refine z_pushJ gp_148_10 ?_
          refine z_goto gi_148_11 ?_
          refine z_bret1 gi_148_15 gr_148 ?_
          show zW _ _ _ _ _ _ _ _ _ _
          refine z_if_eqF gi_251_47 zr_1 (by decide) ?_
          refine z_pushJ gp_251_50 ?_
          refine z_goto gi_251_51 ?_
          refine z_iret gi_251_56 gr_251 ?_
          show zW _ _ _ _ _ _ _ _ _ _
          refine z_if_geT gi_253_6 zr_0 (by decide) ?_
          refine z_aload0 gi_253_15 ?_
          refine z_getR (r := 85) gi_253_16 gk_50 (hRr _ rm_50_60 (by decide)) ?_
          refine z_pushJ gp_253_19 ?_
          refine z_iload1 gi_253_21 ?_
          refine z_imul (e := 120) gi_253_22 rfl ?_
          refine z_iload2 gi_253_23 ?_
          refine z_iadd (e := 120 + i) gi_253_24 rfl ?_
          refine z_lald (v := M 85 (120 + i)) gi_253_25 gk_85 (by decide) (by omega) (rfl) ?_
          refine z_lret gi_253_26 gr_253 ?_
          refine ⟨?_, ?_⟩
          · first | exact congrArg (fun v => some (zl v)) (s8 i (by omega) (by omega)).symm | (exfalso; omega)
          · exact hr
        · refine z_pushJ gp_251_31 ?_
          refine z_iret gi_251_33 gr_251 ?_
          show zW _ _ _ _ _ _ _ _ _ _
          refine z_if_geF gi_253_6 zrn_12 (by decide) ?_
          refine z_pushL (z := (-9223372036854775808)) gi_253_9 rfl ?_
          refine z_goto gi_253_12 ?_
          refine z_lret gi_253_26 gr_253 ?_
          refine ⟨?_, ?_⟩
          · first | exact congrArg (fun v => some (zl v)) (s8 i (by omega) (by omega)).symm | (exfalso; omega)
          · exact hr
      · refine z_pushJ gp_251_19 ?_
        refine z_iret gi_251_21 gr_251 ?_
        show zW _ _ _ _ _ _ _ _ _ _
        refine z_if_geF gi_253_6 zrn_11 (by decide) ?_
        refine z_pushL (z := (-9223372036854775808)) gi_253_9 rfl ?_
        refine z_goto gi_253_12 ?_
        refine z_lret gi_253_26 gr_253 ?_
        refine ⟨?_, ?_⟩
        · first | exact congrArg (fun v => some (zl v)) (s8 i (by omega) (by omega)).symm | (exfalso; omega)
        · exact hr
theorem st_put_220 {X : Nat × (Nat → Int32)} {d : Nat} {J M : zA} {R : zR} {i v : Int} (hr : Rel X J M R) (hi : -2147483648 ≤ i ∧ i < 2147483648) (hv : -9223372036854775808 ≤ v ∧ v < 9223372036854775808) (hh : J 42 0 = 2) (hso : J 42 2 = 0) : zW X (d + 20) 138 0 (gEn 138 [(.ref 0), (zi 2), (zi i), (zl v)]) [] J M R (stP X (d + 20) 252 [(zi 2), (zi i), (zl v)]) := by
  have hr0 := hr
  obtain ⟨hR, hG, hY, hD, hP, hC, hAc, hS, hTp, hX, hW⟩ := hr0
  have hRr : zRoR R := zRoR_of hR
  have e83 : J 83 2 = -2 - J 42 2 := (hS 2 (by decide) (by decide)).1.symm.trans (cH_2 hh)
  have s3 : 0 ≤ J 42 2 ∧ J 42 2 ≤ 4 := (hS 2 (by decide) (by decide)).2.2.1
  have s4 : 0 ≤ J 42 3 ∧ J 42 3 ≤ 60 := (hS 2 (by decide) (by decide)).2.2.2.1
  have s6 := (hS 2 (by decide) (by decide)).2.2.2.2.2 hh
  have s7 : J 84 2 = J 42 3 := s6.1.symm
  have s8 : ∀ i, 0 ≤ i → i < J 42 3 → M 43 i = M 85 (120 + i) := s6.2.1
  show zW _ _ _ _ [some (.ref 0), some (zi 2), some (zi i), some (zl v), none, none] _ _ _ _ _
  refine z_iload1 gi_138_0 ?_
  refine z_cS1 gi_138_1 (Nat.le_of_ble_eq_true rfl) gc_143_I ?_
  refine z_iload0 gi_143_0 ?_
  refine z_if_ltF gi_143_1 zr_2 (by decide) ?_
  refine z_iload0 gi_143_4 ?_
  refine z_pushJ gp_143_5 ?_
  refine z_icmp_geF gi_143_7 zr_2 zr_6 (by decide) ?_
  refine z_pushJ gp_143_10 ?_
  refine z_goto gi_143_11 ?_
  refine z_bret1 gi_143_15 gr_143 ?_
  show zW _ _ _ _ _ _ _ _ _ _
  refine z_if_neT gi_138_4 zr_1 (by decide) ?_
  refine z_aload0 gi_138_9 ?_
  refine z_getR (r := 37) gi_138_10 gk_0 (hR _ rm_0_11) ?_
  refine z_iload1 gi_138_13 ?_
  refine z_aald (r := 42) gi_138_14 rfl (by decide) (by decide) (hR _ rm_37_2) ?_
  refine z_iload2 gi_138_15 ?_
  refine z_cV1 gi_138_16 gk_42 go_70 (Nat.le_of_ble_eq_true rfl) gc_70_RI ?_
  refine z_aload0 gi_70_0 ?_
  refine z_getI (v := 2) gi_70_1 gk_42 (hh) ?_
  refine z_if_neT gi_70_4 zr_2 (by decide) ?_
  refine z_aload0 gi_70_10 ?_
  refine z_getI (v := 2) gi_70_11 gk_42 (hh) ?_
  refine z_pushJ gp_70_14 ?_
  refine z_icmp_eqT gi_70_15 zr_2 zr_2 (by decide) ?_
  refine z_iload1 gi_70_21 ?_
  refine z_if_lt gi_70_22 (by omega) (fun h1 => ?_) (fun h1 => ?_)
  · refine z_pushJ gp_70_37 ?_
    refine z_iret gi_70_39 gr_70 ?_
    show zW _ _ _ _ _ _ _ _ _ _
    refine z_istore (ls1 := [some (.ref 0), some (zi 2), some (zi i), some (zl v), none, some (zi (-13))]) gi_138_19 rfl ?_
    refine z_iload5 gi_138_21 ?_
    refine z_if_geF gi_138_23 zrn_13 (by decide) ?_
    refine z_iload5 gi_138_26 ?_
    refine z_iret gi_138_28 gr_138 ?_
    refine ⟨_, rfl, ?_⟩
    show zW _ _ _ _ [some (.ref 50), some (zi 2), some (zi i), some (zl v), none, none, none] _ _ _ _ _
    refine z_aload0 gi_252_0 ?_
    refine z_iload1 gi_252_1 ?_
    refine z_iload2 gi_252_2 ?_
    refine z_cV2 gi_252_3 gk_50 go_251 (Nat.le_of_ble_eq_true rfl) gc_251_RII ?_
    refine z_iload1 gi_251_0 ?_
    refine z_cS1 gi_251_1 (Nat.le_of_ble_eq_true rfl) gc_248_I ?_
    refine z_iload0 gi_248_0 ?_
    refine z_pushJ gp_248_1 ?_
    refine z_pushJ gp_248_2 ?_
    refine z_cS3 gi_248_3 (Nat.le_of_ble_eq_true rfl) gc_148_III ?_
    refine z_iload0 gi_148_0 ?_
    refine z_iload1 gi_148_1 ?_
    refine z_icmp_ltF gi_148_2 zr_2 zr_0 (by decide) ?_
    refine z_iload0 gi_148_5 ?_
    refine z_iload2 gi_148_6 ?_
    refine z_icmp_gtF gi_148_7 zr_2 zr_5 (by decide) ?_
    refine z_pushJ gp_148_10 ?_
    refine z_goto gi_148_11 ?_
    refine z_bret1 gi_148_15 gr_148 ?_
    show zW _ _ _ _ _ _ _ _ _ _
    refine z_bret1 gi_248_6 gr_248 ?_
    show zW _ _ _ _ _ _ _ _ _ _
    refine z_if_neT gi_251_4 zr_1 (by decide) ?_
    refine z_aload0 gi_251_9 ?_
    refine z_getR (r := 83) gi_251_10 gk_50 (hRr _ rm_50_58 (by decide)) ?_
    refine z_iload1 gi_251_13 ?_
    refine z_iald (v := (-2)) gi_251_14 gk_83 (by decide) (by decide) ((e83.trans (by rw [hso]; rfl))) ?_
    refine z_pushJ gp_251_15 ?_
    refine z_icmp_neT gi_251_16 zrn_2 zrn_1 (by decide) ?_
    refine z_aload0 gi_251_22 ?_
    refine z_getR (r := 83) gi_251_23 gk_50 (hRr _ rm_50_58 (by decide)) ?_
    refine z_iload1 gi_251_26 ?_
    refine z_iald (v := (-2)) gi_251_27 gk_83 (by decide) (by decide) ((e83.trans (by rw [hso]; rfl))) ?_
    refine z_if_ltT gi_251_28 zrn_2 (by decide) ?_
    refine z_iload2 gi_251_34 ?_
    refine z_pushJ gp_251_35 ?_
    refine z_aload0 gi_251_36 ?_
    refine z_getR (r := 84) gi_251_37 gk_50 (hRr _ rm_50_59 (by decide)) ?_
    refine z_iload1 gi_251_40 ?_
    refine z_iald (v := J 42 3) gi_251_41 gk_84 (by decide) (by decide) (s7) ?_
    refine z_pushJ gp_251_42 ?_
    refine z_isub (e := (J 42 3) - 1) gi_251_43 rfl ?_
    refine z_cS3 gi_251_44 (Nat.le_of_ble_eq_true rfl) gc_148_III ?_
    refine z_iload0 gi_148_0 ?_
    refine z_iload1 gi_148_1 ?_
    refine z_icmp_ltT gi_148_2 (by omega) zr_0 (by omega) ?_
    refine z_pushJ gp_148_14 ?_
    refine z_bret0 gi_148_15 gr_148 ?_
    show zW _ _ _ _ _ _ _ _ _ _
    refine z_if_eqT gi_251_47 zr_0 (by decide) ?_
    refine z_pushJ gp_251_54 ?_
    refine z_iret gi_251_56 gr_251 ?_
    show zW _ _ _ _ _ _ _ _ _ _
    refine z_istore (ls1 := [some (.ref 50), some (zi 2), some (zi i), some (zl v), none, some (zi (-13)), none]) gi_252_6 rfl ?_
    refine z_iload5 gi_252_8 ?_
    refine z_if_geF gi_252_10 zrn_13 (by decide) ?_
    refine z_iload5 gi_252_13 ?_
    refine z_iret gi_252_15 gr_252 ?_
    refine ⟨?_, ?_⟩
    · first | rfl | exact congrArg (fun v => some (zi v)) (by omega) | (exfalso; omega)
    · exact hr
  · refine z_iload1 gi_70_25 ?_
    refine z_aload0 gi_70_26 ?_
    refine z_getI (v := J 42 3) gi_70_27 gk_42 (rfl) ?_
    refine z_icmp_ge gi_70_30 (by omega) (by omega) (fun h2 => ?_) (fun h2 => ?_)
    · refine z_pushJ gp_70_37 ?_
      refine z_iret gi_70_39 gr_70 ?_
      show zW _ _ _ _ _ _ _ _ _ _
      refine z_istore (ls1 := [some (.ref 0), some (zi 2), some (zi i), some (zl v), none, some (zi (-13))]) gi_138_19 rfl ?_
      refine z_iload5 gi_138_21 ?_
      refine z_if_geF gi_138_23 zrn_13 (by decide) ?_
      refine z_iload5 gi_138_26 ?_
      refine z_iret gi_138_28 gr_138 ?_
      refine ⟨_, rfl, ?_⟩
      show zW _ _ _ _ [some (.ref 50), some (zi 2), some (zi i), some (zl v), none, none, none] _ _ _ _ _
      refine z_aload0 gi_252_0 ?_
      refine z_iload1 gi_252_1 ?_
      refine z_iload2 gi_252_2 ?_
      refine z_cV2 gi_252_3 gk_50 go_251 (Nat.le_of_ble_eq_true rfl) gc_251_RII ?_
      refine z_iload1 gi_251_0 ?_
      refine z_cS1 gi_251_1 (Nat.le_of_ble_eq_true rfl) gc_248_I ?_
      refine z_iload0 gi_248_0 ?_
      refine z_pushJ gp_248_1 ?_
      refine z_pushJ gp_248_2 ?_
      refine z_cS3 gi_248_3 (Nat.le_of_ble_eq_true rfl) gc_148_III ?_
      refine z_iload0 gi_148_0 ?_
      refine z_iload1 gi_148_1 ?_
      refine z_icmp_ltF gi_148_2 zr_2 zr_0 (by decide) ?_
      refine z_iload0 gi_148_5 ?_
      refine z_iload2 gi_148_6 ?_
      refine z_icmp_gtF gi_148_7 zr_2 zr_5 (by decide) ?_
      refine z_pushJ gp_148_10 ?_
      refine z_goto gi_148_11 ?_
      refine z_bret1 gi_148_15 gr_148 ?_
      show zW _ _ _ _ _ _ _ _ _ _
      refine z_bret1 gi_248_6 gr_248 ?_
      show zW _ _ _ _ _ _ _ _ _ _
      refine z_if_neT gi_251_4 zr_1 (by decide) ?_
      refine z_aload0 gi_251_9 ?_
      refine z_getR (r := 83) gi_251_10 gk_50 (hRr _ rm_50_58 (by decide)) ?_
      refine z_iload1 gi_251_13 ?_
      refine z_iald (v := (-2)) gi_251_14 gk_83 (by decide) (by decide) ((e83.trans (by rw [hso]; rfl))) ?_
      refine z_pushJ gp_251_15 ?_
      refine z_icmp_neT gi_251_16 zrn_2 zrn_1 (by decide) ?_
      refine z_aload0 gi_251_22 ?_
      refine z_getR (r := 83) gi_251_23 gk_50 (hRr _ rm_50_58 (by decide)) ?_
      refine z_iload1 gi_251_26 ?_
      refine z_iald (v := (-2)) gi_251_27 gk_83 (by decide) (by decide) ((e83.trans (by rw [hso]; rfl))) ?_
      refine z_if_ltT gi_251_28 zrn_2 (by decide) ?_
      refine z_iload2 gi_251_34 ?_
      refine z_pushJ gp_251_35 ?_
      refine z_aload0 gi_251_36 ?_
      refine z_getR (r := 84) gi_251_37 gk_50 (hRr _ rm_50_59 (by decide)) ?_
      refine z_iload1 gi_251_40 ?_
      refine z_iald (v := J 42 3) gi_251_41 gk_84 (by decide) (by decide) (s7) ?_
      refine z_pushJ gp_251_42 ?_
      refine z_isub (e := (J 42 3) - 1) gi_251_43 rfl ?_
      refine z_cS3 gi_251_44 (Nat.le_of_ble_eq_true rfl) gc_148_III ?_
      refine z_iload0 gi_148_0 ?_
      refine z_iload1 gi_148_1 ?_
      refine z_icmp_ltF gi_148_2 (by omega) zr_0 (by omega) ?_
      refine z_iload0 gi_148_5 ?_
      refine z_iload2 gi_148_6 ?_
      refine z_icmp_gtT gi_148_7 (by omega) (by omega) (by omega) ?_
      refine z_pushJ gp_148_14 ?_
      refine z_bret0 gi_148_15 gr_148 ?_
      show zW _ _ _ _ _ _ _ _ _ _
      refine z_if_eqT gi_251_47 zr_0 (by decide) ?_
      refine z_pushJ gp_251_54 ?_
      refine z_iret gi_251_56 gr_251 ?_
      show zW _ _ _ _ _ _ _ _ _ _
      refine z_istore (ls1 := [some (.ref 50), some (zi 2), some (zi i), some (zl v), none, some (zi (-13)), none]) gi_252_6 rfl ?_
      refine z_iload5 gi_252_8 ?_
      refine z_if_geF gi_252_10 zrn_13 (by decide) ?_
      refine z_iload5 gi_252_13 ?_
      refine z_iret gi_252_15 gr_252 ?_
      refine ⟨?_, ?_⟩
      · first | rfl | exact congrArg (fun v => some (zi v)) (by omega) | (exfalso; omega)
      · exact hr
    · refine z_pushJ gp_70_33 ?_
      refine z_goto gi_70_34 ?_
      refine z_iret gi_70_39 gr_70 ?_
      show zW _ _ _ _ _ _ _ _ _ _
      refine z_istore (ls1 := [some (.ref 0), some (zi 2), some (zi i), some (zl v), none, some (zi 0)]) gi_138_19 rfl ?_
      refine z_iload5 gi_138_21 ?_
      refine z_if_geT gi_138_23 zr_0 (by decide) ?_
      refine z_aload0 gi_138_29 ?_
      refine z_getR (r := 37) gi_138_30 gk_0 (hR _ rm_0_11) ?_
      refine z_iload1 gi_138_33 ?_
      refine z_aald (r := 42) gi_138_34 rfl (by decide) (by decide) (hR _ rm_37_2) ?_
      refine z_iload2 gi_138_35 ?_
      refine z_lload3 gi_138_36 ?_
      refine z_callVi (As := [_, _]) (le := [some _, some _, some _, none]) gi_138_37 rfl gk_42 (Nat.le_of_ble_eq_true rfl) (Nat.le_of_ble_eq_true rfl) rfl ?_
      refine z_iload1 gi_73_0 ?_
      refine z_if_ltF gi_73_1 (by omega) (by omega) ?_
      refine z_iload1 gi_73_4 ?_
      refine z_aload0 gi_73_5 ?_
      refine z_getI (v := J 42 3) gi_73_6 gk_42 (rfl) ?_
      refine z_icmp_geF gi_73_9 (by omega) (by omega) (by omega) ?_
      refine z_aload0 gi_73_12 ?_
      refine z_getR (r := 43) gi_73_13 gk_42 (hR _ rm_42_4) ?_
      refine z_iload1 gi_73_16 ?_
      refine z_aload0 gi_73_17 ?_
      refine z_lload2 gi_73_18 ?_
      refine z_callVi (As := [_]) (le := [some _, some _, none]) gi_73_19 rfl gk_42 (Nat.le_of_ble_eq_true rfl) (Nat.le_of_ble_eq_true rfl) rfl ?_
      refine z_aload0 gi_74_0 ?_
      refine z_getI (v := 0) gi_74_1 gk_42 (hso) ?_
      refine z_swI (tg := 40) gi_74_4 (by decide) (T := [((0 : Int), 40), ((1 : Int), 45), ((2 : Int), 50), ((3 : Int), 66), ((4 : Int), 54)]) rfl (by decide) ?_
      refine z_lload1 gi_74_40 ?_
      refine z_l2i gi_74_41 ?_
      refine z_i2b (e := zb v) gi_74_42 rfl ?_
      have q3 := zb_r v
      refine z_i2l gi_74_43 (by omega) ?_
      refine z_lret gi_74_44 gr_74 ?_
      show zW _ _ _ _ _ _ _ _ _ _
      refine z_last (e := zb v) gi_73_22 gk_43 (by decide) (by omega) rfl ?_
      refine z_vret gi_73_23 gr_73 ?_
      show zW _ _ _ _ _ _ _ _ _ _
      refine z_pushJ gp_138_40 ?_
      refine z_iret gi_138_41 gr_138 ?_
      refine ⟨_, rfl, ?_⟩
      show zW _ _ _ _ [some (.ref 50), some (zi 2), some (zi i), some (zl v), none, none, none] _ _ _ _ _
      refine z_aload0 gi_252_0 ?_
      refine z_iload1 gi_252_1 ?_
      refine z_iload2 gi_252_2 ?_
      refine z_cV2 gi_252_3 gk_50 go_251 (Nat.le_of_ble_eq_true rfl) gc_251_RII ?_
      refine z_iload1 gi_251_0 ?_
      refine z_cS1 gi_251_1 (Nat.le_of_ble_eq_true rfl) gc_248_I ?_
      refine z_iload0 gi_248_0 ?_
      refine z_pushJ gp_248_1 ?_
      refine z_pushJ gp_248_2 ?_
      refine z_cS3 gi_248_3 (Nat.le_of_ble_eq_true rfl) gc_148_III ?_
      refine z_iload0 gi_148_0 ?_
      refine z_iload1 gi_148_1 ?_
      refine z_icmp_ltF gi_148_2 zr_2 zr_0 (by decide) ?_
      refine z_iload0 gi_148_5 ?_
      refine z_iload2 gi_148_6 ?_
      refine z_icmp_gtF gi_148_7 zr_2 zr_5 (by decide) ?_
      refine z_pushJ gp_148_10 ?_
      refine z_goto gi_148_11 ?_
      refine z_bret1 gi_148_15 gr_148 ?_
      show zW _ _ _ _ _ _ _ _ _ _
      refine z_bret1 gi_248_6 gr_248 ?_
      show zW _ _ _ _ _ _ _ _ _ _
      refine z_if_neT gi_251_4 zr_1 (by decide) ?_
      refine z_aload0 gi_251_9 ?_
      refine z_getR (r := 83) gi_251_10 gk_50 (hRr _ rm_50_58 (by decide)) ?_
      refine z_iload1 gi_251_13 ?_
      refine z_iald (v := (-2)) gi_251_14 gk_83 (by decide) (by decide) ((e83.trans (by rw [hso]; rfl))) ?_
      refine z_pushJ gp_251_15 ?_
      refine z_icmp_neT gi_251_16 zrn_2 zrn_1 (by decide) ?_
      refine z_aload0 gi_251_22 ?_
      refine z_getR (r := 83) gi_251_23 gk_50 (hRr _ rm_50_58 (by decide)) ?_
      refine z_iload1 gi_251_26 ?_
      refine z_iald (v := (-2)) gi_251_27 gk_83 (by decide) (by decide) ((e83.trans (by rw [hso]; rfl))) ?_
      refine z_if_ltT gi_251_28 zrn_2 (by decide) ?_
      refine z_iload2 gi_251_34 ?_
      refine z_pushJ gp_251_35 ?_
      refine z_aload0 gi_251_36 ?_
      refine z_getR (r := 84) gi_251_37 gk_50 (hRr _ rm_50_59 (by decide)) ?_
      refine z_iload1 gi_251_40 ?_
      refine z_iald (v := J 42 3) gi_251_41 gk_84 (by decide) (by decide) (s7) ?_
      refine z_pushJ gp_251_42 ?_
      refine z_isub (e := (J 42 3) - 1) gi_251_43 rfl ?_
      refine z_cS3 gi_251_44 (Nat.le_of_ble_eq_true rfl) gc_148_III ?_
      refine z_iload0 gi_148_0 ?_
      refine z_iload1 gi_148_1 ?_
      refine z_icmp_ltF gi_148_2 (by omega) zr_0 (by omega) ?_
      refine z_iload0 gi_148_5 ?_
      refine z_iload2 gi_148_6 ?_
      refine z_icmp_gtF gi_148_7 (by omega) (by omega) (by omega) ?_
      refine z_pushJ gp_148_10 ?_
      refine z_goto gi_148_11 ?_
      refine z_bret1 gi_148_15 gr_148 ?_
      show zW _ _ _ _ _ _ _ _ _ _
      refine z_if_eqF gi_251_47 zr_1 (by decide) ?_
      refine z_pushJ gp_251_50 ?_
      refine z_goto gi_251_51 ?_
      refine z_iret gi_251_56 gr_251 ?_
      show zW _ _ _ _ _ _ _ _ _ _
      refine z_istore (ls1 := [some (.ref 50), some (zi 2), some (zi i), some (zl v), none, some (zi 0), none]) gi_252_6 rfl ?_
      refine z_iload5 gi_252_8 ?_
      refine z_if_geT gi_252_10 zr_0 (by decide) ?_
      refine z_pushJ gp_252_16 ?_
      refine z_aload0 gi_252_18 ?_
      refine z_getR (r := 83) gi_252_19 gk_50 (hRr _ rm_50_58 (by decide)) ?_
      refine z_iload1 gi_252_22 ?_
      refine z_iald (v := (-2)) gi_252_23 gk_83 (by decide) (by decide) ((e83.trans (by rw [hso]; rfl))) ?_
      refine z_isub (e := 0) gi_252_24 rfl ?_
      refine z_istore (ls1 := [some (.ref 50), some (zi 2), some (zi i), some (zl v), none, some (zi 0), some (zi 0)]) gi_252_25 rfl ?_
      refine z_aload0 gi_252_27 ?_
      refine z_getR (r := 85) gi_252_28 gk_50 (hRr _ rm_50_60 (by decide)) ?_
      refine z_pushJ gp_252_31 ?_
      refine z_iload1 gi_252_33 ?_
      refine z_imul (e := 120) gi_252_34 rfl ?_
      refine z_iload2 gi_252_35 ?_
      refine z_iadd (e := 120 + i) gi_252_36 rfl ?_
      refine z_iload6 gi_252_37 ?_
      refine z_if_neF gi_252_39 zr_0 (by decide) ?_
      refine z_lload3 gi_252_42 ?_
      refine z_l2i gi_252_43 ?_
      refine z_i2b (e := zb v) gi_252_44 rfl ?_
      have q4 := zb_r v
      refine z_i2l gi_252_45 (by omega) ?_
      refine z_goto gi_252_46 ?_
      refine z_last (e := zb v) gi_252_95 gk_85 (by decide) (by omega) rfl ?_
      refine z_pushJ gp_252_96 ?_
      refine z_iret gi_252_97 gr_252 ?_
      refine ⟨?_, ?_⟩
      · first | rfl | exact congrArg (fun v => some (zi v)) (by omega) | (exfalso; omega)
      · have hk := (zK_r (k := (kL [] [])) (A := J))
        have hkm := (zK_x (a := 85) (x := 120 + i) (v := zb v) (zK_x (a := 43) (x := i) (v := zb v) (zK_r (k := (kL [43, 85] [])) (A := M)) rfl) rfl)
        exact ⟨hR, hG, RelY_k hk (by repeat' constructor) (fun p => by repeat' constructor) hY, RelD_k hk (by repeat' constructor) (fun p => by repeat' constructor) hD, RelP_k hk (by repeat' constructor) (fun p => by repeat' constructor) hP, RelC_k hk (by repeat' constructor) (fun p => by repeat' constructor) hC, RelA_k hk (by repeat' constructor) (fun p => by repeat' constructor) hAc, (RelS_one (J := J) (M := M) (c := 2) (fun t t1 t2 te => by have q : t = 0 ∨ t = 1 ∨ t = 2 ∨ t = 3 ∨ t = 4 ∨ t = 5 := (by omega); rcases q with rfl | rfl | rfl | rfl | rfl | rfl <;> first | exact absurd rfl te | exact ⟨fun j => rfl, rfl, rfl⟩) (fun t t1 t2 te => by have q : t = 0 ∨ t = 1 ∨ t = 2 ∨ t = 3 ∨ t = 4 ∨ t = 5 := (by omega); rcases q with rfl | rfl | rfl | rfl | rfl | rfl <;> first | exact absurd rfl te | exact ⟨fun j => rfl, fun j j1 j2 => (zU_x (by omega)).trans (zU_n (by decide))⟩) rfl (show RelS1 _ _ _ from ⟨(hS 2 (by decide) (by decide)).1, (hS 2 (by decide) (by decide)).2.1, s3, s4, (hS 2 (by decide) (by decide)).2.2.2.2.1, fun _ => ⟨s7.symm, fun k k1 k2 => by show (if k = i then zb v else M 43 k) = (if 120 + k = 120 + i then zb v else M 85 (120 + k)); by_cases e : k = i; rw [if_pos e, if_pos (by omega)]; rw [if_neg e, if_neg (by omega)]; exact s8 k k1 k2, (fun hq k k1 k2 => by show -128 ≤ (if k = i then zb v else M 43 k) ∧ (if k = i then zb v else M 43 k) ≤ 127; split <;> first | (have := zb_r v; omega) | exact s6.2.2 hq k k1 k2)⟩⟩) hS), RelT_k hk (by repeat' constructor) (fun p => by repeat' constructor) hTp, RelX_k hk (by repeat' constructor) (fun p => by repeat' constructor) hX, RelW_k hk ⟨rfl, rfl⟩ trivial hW⟩
theorem st_put_221 {X : Nat × (Nat → Int32)} {d : Nat} {J M : zA} {R : zR} {i v : Int} (hr : Rel X J M R) (hi : -2147483648 ≤ i ∧ i < 2147483648) (hv : -9223372036854775808 ≤ v ∧ v < 9223372036854775808) (hh : J 42 0 = 2) (hso : J 42 2 = 1) : zW X (d + 20) 138 0 (gEn 138 [(.ref 0), (zi 2), (zi i), (zl v)]) [] J M R (stP X (d + 20) 252 [(zi 2), (zi i), (zl v)]) := by
  have hr0 := hr
  obtain ⟨hR, hG, hY, hD, hP, hC, hAc, hS, hTp, hX, hW⟩ := hr0
  have hRr : zRoR R := zRoR_of hR
  have e83 : J 83 2 = -2 - J 42 2 := (hS 2 (by decide) (by decide)).1.symm.trans (cH_2 hh)
  have s3 : 0 ≤ J 42 2 ∧ J 42 2 ≤ 4 := (hS 2 (by decide) (by decide)).2.2.1
  have s4 : 0 ≤ J 42 3 ∧ J 42 3 ≤ 60 := (hS 2 (by decide) (by decide)).2.2.2.1
  have s6 := (hS 2 (by decide) (by decide)).2.2.2.2.2 hh
  have s7 : J 84 2 = J 42 3 := s6.1.symm
  have s8 : ∀ i, 0 ≤ i → i < J 42 3 → M 43 i = M 85 (120 + i) := s6.2.1
  show zW _ _ _ _ [some (.ref 0), some (zi 2), some (zi i), some (zl v), none, none] _ _ _ _ _
  refine z_iload1 gi_138_0 ?_
  refine z_cS1 gi_138_1 (Nat.le_of_ble_eq_true rfl) gc_143_I ?_
  refine z_iload0 gi_143_0 ?_
  refine z_if_ltF gi_143_1 zr_2 (by decide) ?_
  refine z_iload0 gi_143_4 ?_
  refine z_pushJ gp_143_5 ?_
  refine z_icmp_geF gi_143_7 zr_2 zr_6 (by decide) ?_
  refine z_pushJ gp_143_10 ?_
  refine z_goto gi_143_11 ?_
  refine z_bret1 gi_143_15 gr_143 ?_
  show zW _ _ _ _ _ _ _ _ _ _
  refine z_if_neT gi_138_4 zr_1 (by decide) ?_
  refine z_aload0 gi_138_9 ?_
  refine z_getR (r := 37) gi_138_10 gk_0 (hR _ rm_0_11) ?_
  refine z_iload1 gi_138_13 ?_
  refine z_aald (r := 42) gi_138_14 rfl (by decide) (by decide) (hR _ rm_37_2) ?_
  refine z_iload2 gi_138_15 ?_
  refine z_cV1 gi_138_16 gk_42 go_70 (Nat.le_of_ble_eq_true rfl) gc_70_RI ?_
  refine z_aload0 gi_70_0 ?_
  refine z_getI (v := 2) gi_70_1 gk_42 (hh) ?_
  refine z_if_neT gi_70_4 zr_2 (by decide) ?_
  refine z_aload0 gi_70_10 ?_
  refine z_getI (v := 2) gi_70_11 gk_42 (hh) ?_
  refine z_pushJ gp_70_14 ?_
  refine z_icmp_eqT gi_70_15 zr_2 zr_2 (by decide) ?_
  refine z_iload1 gi_70_21 ?_
  refine z_if_lt gi_70_22 (by omega) (fun h1 => ?_) (fun h1 => ?_)
  · refine z_pushJ gp_70_37 ?_
    refine z_iret gi_70_39 gr_70 ?_
    show zW _ _ _ _ _ _ _ _ _ _
    refine z_istore (ls1 := [some (.ref 0), some (zi 2), some (zi i), some (zl v), none, some (zi (-13))]) gi_138_19 rfl ?_
    refine z_iload5 gi_138_21 ?_
    refine z_if_geF gi_138_23 zrn_13 (by decide) ?_
    refine z_iload5 gi_138_26 ?_
    refine z_iret gi_138_28 gr_138 ?_
    refine ⟨_, rfl, ?_⟩
    show zW _ _ _ _ [some (.ref 50), some (zi 2), some (zi i), some (zl v), none, none, none] _ _ _ _ _
    refine z_aload0 gi_252_0 ?_
    refine z_iload1 gi_252_1 ?_
    refine z_iload2 gi_252_2 ?_
    refine z_cV2 gi_252_3 gk_50 go_251 (Nat.le_of_ble_eq_true rfl) gc_251_RII ?_
    refine z_iload1 gi_251_0 ?_
    refine z_cS1 gi_251_1 (Nat.le_of_ble_eq_true rfl) gc_248_I ?_
    refine z_iload0 gi_248_0 ?_
    refine z_pushJ gp_248_1 ?_
    refine z_pushJ gp_248_2 ?_
    refine z_cS3 gi_248_3 (Nat.le_of_ble_eq_true rfl) gc_148_III ?_
    refine z_iload0 gi_148_0 ?_
    refine z_iload1 gi_148_1 ?_
    refine z_icmp_ltF gi_148_2 zr_2 zr_0 (by decide) ?_
    refine z_iload0 gi_148_5 ?_
    refine z_iload2 gi_148_6 ?_
    refine z_icmp_gtF gi_148_7 zr_2 zr_5 (by decide) ?_
    refine z_pushJ gp_148_10 ?_
    refine z_goto gi_148_11 ?_
    refine z_bret1 gi_148_15 gr_148 ?_
    show zW _ _ _ _ _ _ _ _ _ _
    refine z_bret1 gi_248_6 gr_248 ?_
    show zW _ _ _ _ _ _ _ _ _ _
    refine z_if_neT gi_251_4 zr_1 (by decide) ?_
    refine z_aload0 gi_251_9 ?_
    refine z_getR (r := 83) gi_251_10 gk_50 (hRr _ rm_50_58 (by decide)) ?_
    refine z_iload1 gi_251_13 ?_
    refine z_iald (v := (-3)) gi_251_14 gk_83 (by decide) (by decide) ((e83.trans (by rw [hso]; rfl))) ?_
    refine z_pushJ gp_251_15 ?_
    refine z_icmp_neT gi_251_16 zrn_3 zrn_1 (by decide) ?_
    refine z_aload0 gi_251_22 ?_
    refine z_getR (r := 83) gi_251_23 gk_50 (hRr _ rm_50_58 (by decide)) ?_
    refine z_iload1 gi_251_26 ?_
    refine z_iald (v := (-3)) gi_251_27 gk_83 (by decide) (by decide) ((e83.trans (by rw [hso]; rfl))) ?_
    refine z_if_ltT gi_251_28 zrn_3 (by decide) ?_
    refine z_iload2 gi_251_34 ?_
    refine z_pushJ gp_251_35 ?_
    refine z_aload0 gi_251_36 ?_
    refine z_getR (r := 84) gi_251_37 gk_50 (hRr _ rm_50_59 (by decide)) ?_
    refine z_iload1 gi_251_40 ?_
    refine z_iald (v := J 42 3) gi_251_41 gk_84 (by decide) (by decide) (s7) ?_
    refine z_pushJ gp_251_42 ?_
    refine z_isub (e := (J 42 3) - 1) gi_251_43 rfl ?_
    refine z_cS3 gi_251_44 (Nat.le_of_ble_eq_true rfl) gc_148_III ?_
    refine z_iload0 gi_148_0 ?_
    refine z_iload1 gi_148_1 ?_
    refine z_icmp_ltT gi_148_2 (by omega) zr_0 (by omega) ?_
    refine z_pushJ gp_148_14 ?_
    refine z_bret0 gi_148_15 gr_148 ?_
    show zW _ _ _ _ _ _ _ _ _ _
    refine z_if_eqT gi_251_47 zr_0 (by decide) ?_
    refine z_pushJ gp_251_54 ?_
    refine z_iret gi_251_56 gr_251 ?_
    show zW _ _ _ _ _ _ _ _ _ _
    refine z_istore (ls1 := [some (.ref 50), some (zi 2), some (zi i), some (zl v), none, some (zi (-13)), none]) gi_252_6 rfl ?_
    refine z_iload5 gi_252_8 ?_
    refine z_if_geF gi_252_10 zrn_13 (by decide) ?_
    refine z_iload5 gi_252_13 ?_
    refine z_iret gi_252_15 gr_252 ?_
    refine ⟨?_, ?_⟩
    · first | rfl | exact congrArg (fun v => some (zi v)) (by omega) | (exfalso; omega)
    · exact hr
  · refine z_iload1 gi_70_25 ?_
    refine z_aload0 gi_70_26 ?_
    refine z_getI (v := J 42 3) gi_70_27 gk_42 (rfl) ?_
    refine z_icmp_ge gi_70_30 (by omega) (by omega) (fun h2 => ?_) (fun h2 => ?_)
    · refine z_pushJ gp_70_37 ?_
      refine z_iret gi_70_39 gr_70 ?_
      show zW _ _ _ _ _ _ _ _ _ _
      refine z_istore (ls1 := [some (.ref 0), some (zi 2), some (zi i), some (zl v), none, some (zi (-13))]) gi_138_19 rfl ?_
      refine z_iload5 gi_138_21 ?_
      refine z_if_geF gi_138_23 zrn_13 (by decide) ?_
      refine z_iload5 gi_138_26 ?_
      refine z_iret gi_138_28 gr_138 ?_
      refine ⟨_, rfl, ?_⟩
      show zW _ _ _ _ [some (.ref 50), some (zi 2), some (zi i), some (zl v), none, none, none] _ _ _ _ _
      refine z_aload0 gi_252_0 ?_
      refine z_iload1 gi_252_1 ?_
      refine z_iload2 gi_252_2 ?_
      refine z_cV2 gi_252_3 gk_50 go_251 (Nat.le_of_ble_eq_true rfl) gc_251_RII ?_
      refine z_iload1 gi_251_0 ?_
      refine z_cS1 gi_251_1 (Nat.le_of_ble_eq_true rfl) gc_248_I ?_
      refine z_iload0 gi_248_0 ?_
      refine z_pushJ gp_248_1 ?_
      refine z_pushJ gp_248_2 ?_
      refine z_cS3 gi_248_3 (Nat.le_of_ble_eq_true rfl) gc_148_III ?_
      refine z_iload0 gi_148_0 ?_
      refine z_iload1 gi_148_1 ?_
      refine z_icmp_ltF gi_148_2 zr_2 zr_0 (by decide) ?_
      refine z_iload0 gi_148_5 ?_
      refine z_iload2 gi_148_6 ?_
      refine z_icmp_gtF gi_148_7 zr_2 zr_5 (by decide) ?_
      refine z_pushJ gp_148_10 ?_
      refine z_goto gi_148_11 ?_
      refine z_bret1 gi_148_15 gr_148 ?_
      show zW _ _ _ _ _ _ _ _ _ _
      refine z_bret1 gi_248_6 gr_248 ?_
      show zW _ _ _ _ _ _ _ _ _ _
      refine z_if_neT gi_251_4 zr_1 (by decide) ?_
      refine z_aload0 gi_251_9 ?_
      refine z_getR (r := 83) gi_251_10 gk_50 (hRr _ rm_50_58 (by decide)) ?_
      refine z_iload1 gi_251_13 ?_
      refine z_iald (v := (-3)) gi_251_14 gk_83 (by decide) (by decide) ((e83.trans (by rw [hso]; rfl))) ?_
      refine z_pushJ gp_251_15 ?_
      refine z_icmp_neT gi_251_16 zrn_3 zrn_1 (by decide) ?_
      refine z_aload0 gi_251_22 ?_
      refine z_getR (r := 83) gi_251_23 gk_50 (hRr _ rm_50_58 (by decide)) ?_
      refine z_iload1 gi_251_26 ?_
      refine z_iald (v := (-3)) gi_251_27 gk_83 (by decide) (by decide) ((e83.trans (by rw [hso]; rfl))) ?_
      refine z_if_ltT gi_251_28 zrn_3 (by decide) ?_
      refine z_iload2 gi_251_34 ?_
      refine z_pushJ gp_251_35 ?_
      refine z_aload0 gi_251_36 ?_
      refine z_getR (r := 84) gi_251_37 gk_50 (hRr _ rm_50_59 (by decide)) ?_
      refine z_iload1 gi_251_40 ?_
      refine z_iald (v := J 42 3) gi_251_41 gk_84 (by decide) (by decide) (s7) ?_
      refine z_pushJ gp_251_42 ?_
      refine z_isub (e := (J 42 3) - 1) gi_251_43 rfl ?_
      refine z_cS3 gi_251_44 (Nat.le_of_ble_eq_true rfl) gc_148_III ?_
      refine z_iload0 gi_148_0 ?_
      refine z_iload1 gi_148_1 ?_
      refine z_icmp_ltF gi_148_2 (by omega) zr_0 (by omega) ?_
      refine z_iload0 gi_148_5 ?_
      refine z_iload2 gi_148_6 ?_
      refine z_icmp_gtT gi_148_7 (by omega) (by omega) (by omega) ?_
      refine z_pushJ gp_148_14 ?_
      refine z_bret0 gi_148_15 gr_148 ?_
      show zW _ _ _ _ _ _ _ _ _ _
      refine z_if_eqT gi_251_47 zr_0 (by decide) ?_
      refine z_pushJ gp_251_54 ?_
      refine z_iret gi_251_56 gr_251 ?_
      show zW _ _ _ _ _ _ _ _ _ _
      refine z_istore (ls1 := [some (.ref 50), some (zi 2), some (zi i), some (zl v), none, some (zi (-13)), none]) gi_252_6 rfl ?_
      refine z_iload5 gi_252_8 ?_
      refine z_if_geF gi_252_10 zrn_13 (by decide) ?_
      refine z_iload5 gi_252_13 ?_
      refine z_iret gi_252_15 gr_252 ?_
      refine ⟨?_, ?_⟩
      · first | rfl | exact congrArg (fun v => some (zi v)) (by omega) | (exfalso; omega)
      · exact hr
    · refine z_pushJ gp_70_33 ?_
      refine z_goto gi_70_34 ?_
      refine z_iret gi_70_39 gr_70 ?_
      show zW _ _ _ _ _ _ _ _ _ _
      refine z_istore (ls1 := [some (.ref 0), some (zi 2), some (zi i), some (zl v), none, some (zi 0)]) gi_138_19 rfl ?_
      refine z_iload5 gi_138_21 ?_
      refine z_if_geT gi_138_23 zr_0 (by decide) ?_
      refine z_aload0 gi_138_29 ?_
      refine z_getR (r := 37) gi_138_30 gk_0 (hR _ rm_0_11) ?_
      refine z_iload1 gi_138_33 ?_
      refine z_aald (r := 42) gi_138_34 rfl (by decide) (by decide) (hR _ rm_37_2) ?_
      refine z_iload2 gi_138_35 ?_
      refine z_lload3 gi_138_36 ?_
      refine z_callVi (As := [_, _]) (le := [some _, some _, some _, none]) gi_138_37 rfl gk_42 (Nat.le_of_ble_eq_true rfl) (Nat.le_of_ble_eq_true rfl) rfl ?_
      refine z_iload1 gi_73_0 ?_
      refine z_if_ltF gi_73_1 (by omega) (by omega) ?_
      refine z_iload1 gi_73_4 ?_
      refine z_aload0 gi_73_5 ?_
      refine z_getI (v := J 42 3) gi_73_6 gk_42 (rfl) ?_
      refine z_icmp_geF gi_73_9 (by omega) (by omega) (by omega) ?_
      refine z_aload0 gi_73_12 ?_
      refine z_getR (r := 43) gi_73_13 gk_42 (hR _ rm_42_4) ?_
      refine z_iload1 gi_73_16 ?_
      refine z_aload0 gi_73_17 ?_
      refine z_lload2 gi_73_18 ?_
      refine z_callVi (As := [_]) (le := [some _, some _, none]) gi_73_19 rfl gk_42 (Nat.le_of_ble_eq_true rfl) (Nat.le_of_ble_eq_true rfl) rfl ?_
      refine z_aload0 gi_74_0 ?_
      refine z_getI (v := 1) gi_74_1 gk_42 (hso) ?_
      refine z_swI (tg := 45) gi_74_4 (by decide) (T := [((0 : Int), 40), ((1 : Int), 45), ((2 : Int), 50), ((3 : Int), 66), ((4 : Int), 54)]) rfl (by decide) ?_
      refine z_lload1 gi_74_45 ?_
      refine z_l2i gi_74_46 ?_
      refine z_i2s (e := zh v) gi_74_47 rfl ?_
      have q3 := zh_r v
      refine z_i2l gi_74_48 (by omega) ?_
      refine z_lret gi_74_49 gr_74 ?_
      show zW _ _ _ _ _ _ _ _ _ _
      refine z_last (e := zh v) gi_73_22 gk_43 (by decide) (by omega) rfl ?_
      refine z_vret gi_73_23 gr_73 ?_
      show zW _ _ _ _ _ _ _ _ _ _
      refine z_pushJ gp_138_40 ?_
      refine z_iret gi_138_41 gr_138 ?_
      refine ⟨_, rfl, ?_⟩
      show zW _ _ _ _ [some (.ref 50), some (zi 2), some (zi i), some (zl v), none, none, none] _ _ _ _ _
      refine z_aload0 gi_252_0 ?_
      refine z_iload1 gi_252_1 ?_
      refine z_iload2 gi_252_2 ?_
      refine z_cV2 gi_252_3 gk_50 go_251 (Nat.le_of_ble_eq_true rfl) gc_251_RII ?_
      refine z_iload1 gi_251_0 ?_
      refine z_cS1 gi_251_1 (Nat.le_of_ble_eq_true rfl) gc_248_I ?_
      refine z_iload0 gi_248_0 ?_
      refine z_pushJ gp_248_1 ?_
      refine z_pushJ gp_248_2 ?_
      refine z_cS3 gi_248_3 (Nat.le_of_ble_eq_true rfl) gc_148_III ?_
      refine z_iload0 gi_148_0 ?_
      refine z_iload1 gi_148_1 ?_
      refine z_icmp_ltF gi_148_2 zr_2 zr_0 (by decide) ?_
      refine z_iload0 gi_148_5 ?_
      refine z_iload2 gi_148_6 ?_
      refine z_icmp_gtF gi_148_7 zr_2 zr_5 (by decide) ?_
      refine z_pushJ gp_148_10 ?_
      refine z_goto gi_148_11 ?_
      refine z_bret1 gi_148_15 gr_148 ?_
      show zW _ _ _ _ _ _ _ _ _ _
      refine z_bret1 gi_248_6 gr_248 ?_
      show zW _ _ _ _ _ _ _ _ _ _
      refine z_if_neT gi_251_4 zr_1 (by decide) ?_
      refine z_aload0 gi_251_9 ?_
      refine z_getR (r := 83) gi_251_10 gk_50 (hRr _ rm_50_58 (by decide)) ?_
      refine z_iload1 gi_251_13 ?_
      refine z_iald (v := (-3)) gi_251_14 gk_83 (by decide) (by decide) ((e83.trans (by rw [hso]; rfl))) ?_
      refine z_pushJ gp_251_15 ?_
      refine z_icmp_neT gi_251_16 zrn_3 zrn_1 (by decide) ?_
      refine z_aload0 gi_251_22 ?_
      refine z_getR (r := 83) gi_251_23 gk_50 (hRr _ rm_50_58 (by decide)) ?_
      refine z_iload1 gi_251_26 ?_
      refine z_iald (v := (-3)) gi_251_27 gk_83 (by decide) (by decide) ((e83.trans (by rw [hso]; rfl))) ?_
      refine z_if_ltT gi_251_28 zrn_3 (by decide) ?_
      refine z_iload2 gi_251_34 ?_
      refine z_pushJ gp_251_35 ?_
      refine z_aload0 gi_251_36 ?_
      refine z_getR (r := 84) gi_251_37 gk_50 (hRr _ rm_50_59 (by decide)) ?_
      refine z_iload1 gi_251_40 ?_
      refine z_iald (v := J 42 3) gi_251_41 gk_84 (by decide) (by decide) (s7) ?_
      refine z_pushJ gp_251_42 ?_
      refine z_isub (e := (J 42 3) - 1) gi_251_43 rfl ?_
      refine z_cS3 gi_251_44 (Nat.le_of_ble_eq_true rfl) gc_148_III ?_
      refine z_iload0 gi_148_0 ?_
      refine z_iload1 gi_148_1 ?_
      refine z_icmp_ltF gi_148_2 (by omega) zr_0 (by omega) ?_
      refine z_iload0 gi_148_5 ?_
      refine z_iload2 gi_148_6 ?_
      refine z_icmp_gtF gi_148_7 (by omega) (by omega) (by omega) ?_
      refine z_pushJ gp_148_10 ?_
      refine z_goto gi_148_11 ?_
      refine z_bret1 gi_148_15 gr_148 ?_
      show zW _ _ _ _ _ _ _ _ _ _
      refine z_if_eqF gi_251_47 zr_1 (by decide) ?_
      refine z_pushJ gp_251_50 ?_
      refine z_goto gi_251_51 ?_
      refine z_iret gi_251_56 gr_251 ?_
      show zW _ _ _ _ _ _ _ _ _ _
      refine z_istore (ls1 := [some (.ref 50), some (zi 2), some (zi i), some (zl v), none, some (zi 0), none]) gi_252_6 rfl ?_
      refine z_iload5 gi_252_8 ?_
      refine z_if_geT gi_252_10 zr_0 (by decide) ?_
      refine z_pushJ gp_252_16 ?_
      refine z_aload0 gi_252_18 ?_
      refine z_getR (r := 83) gi_252_19 gk_50 (hRr _ rm_50_58 (by decide)) ?_
      refine z_iload1 gi_252_22 ?_
      refine z_iald (v := (-3)) gi_252_23 gk_83 (by decide) (by decide) ((e83.trans (by rw [hso]; rfl))) ?_
      refine z_isub (e := 1) gi_252_24 rfl ?_
      refine z_istore (ls1 := [some (.ref 50), some (zi 2), some (zi i), some (zl v), none, some (zi 0), some (zi 1)]) gi_252_25 rfl ?_
      refine z_aload0 gi_252_27 ?_
      refine z_getR (r := 85) gi_252_28 gk_50 (hRr _ rm_50_60 (by decide)) ?_
      refine z_pushJ gp_252_31 ?_
      refine z_iload1 gi_252_33 ?_
      refine z_imul (e := 120) gi_252_34 rfl ?_
      refine z_iload2 gi_252_35 ?_
      refine z_iadd (e := 120 + i) gi_252_36 rfl ?_
      refine z_iload6 gi_252_37 ?_
      refine z_if_neT gi_252_39 zr_1 (by decide) ?_
      refine z_iload6 gi_252_49 ?_
      refine z_pushJ gp_252_51 ?_
      refine z_icmp_neF gi_252_52 zr_1 zr_1 (by decide) ?_
      refine z_lload3 gi_252_55 ?_
      refine z_l2i gi_252_56 ?_
      refine z_i2s (e := zh v) gi_252_57 rfl ?_
      have q4 := zh_r v
      refine z_i2l gi_252_58 (by omega) ?_
      refine z_goto gi_252_59 ?_
      refine z_last (e := zh v) gi_252_95 gk_85 (by decide) (by omega) rfl ?_
      refine z_pushJ gp_252_96 ?_
      refine z_iret gi_252_97 gr_252 ?_
      refine ⟨?_, ?_⟩
      · first | rfl | exact congrArg (fun v => some (zi v)) (by omega) | (exfalso; omega)
      · have hk := (zK_r (k := (kL [] [])) (A := J))
        have hkm := (zK_x (a := 85) (x := 120 + i) (v := zh v) (zK_x (a := 43) (x := i) (v := zh v) (zK_r (k := (kL [43, 85] [])) (A := M)) rfl) rfl)
        exact ⟨hR, hG, RelY_k hk (by repeat' constructor) (fun p => by repeat' constructor) hY, RelD_k hk (by repeat' constructor) (fun p => by repeat' constructor) hD, RelP_k hk (by repeat' constructor) (fun p => by repeat' constructor) hP, RelC_k hk (by repeat' constructor) (fun p => by repeat' constructor) hC, RelA_k hk (by repeat' constructor) (fun p => by repeat' constructor) hAc, (RelS_one (J := J) (M := M) (c := 2) (fun t t1 t2 te => by have q : t = 0 ∨ t = 1 ∨ t = 2 ∨ t = 3 ∨ t = 4 ∨ t = 5 := (by omega); rcases q with rfl | rfl | rfl | rfl | rfl | rfl <;> first | exact absurd rfl te | exact ⟨fun j => rfl, rfl, rfl⟩) (fun t t1 t2 te => by have q : t = 0 ∨ t = 1 ∨ t = 2 ∨ t = 3 ∨ t = 4 ∨ t = 5 := (by omega); rcases q with rfl | rfl | rfl | rfl | rfl | rfl <;> first | exact absurd rfl te | exact ⟨fun j => rfl, fun j j1 j2 => (zU_x (by omega)).trans (zU_n (by decide))⟩) rfl (show RelS1 _ _ _ from ⟨(hS 2 (by decide) (by decide)).1, (hS 2 (by decide) (by decide)).2.1, s3, s4, (hS 2 (by decide) (by decide)).2.2.2.2.1, fun _ => ⟨s7.symm, fun k k1 k2 => by show (if k = i then zh v else M 43 k) = (if 120 + k = 120 + i then zh v else M 85 (120 + k)); by_cases e : k = i; rw [if_pos e, if_pos (by omega)]; rw [if_neg e, if_neg (by omega)]; exact s8 k k1 k2, (fun hq => absurd (Eq.trans (Eq.symm hq) hso) (by decide))⟩⟩) hS), RelT_k hk (by repeat' constructor) (fun p => by repeat' constructor) hTp, RelX_k hk (by repeat' constructor) (fun p => by repeat' constructor) hX, RelW_k hk ⟨rfl, rfl⟩ trivial hW⟩
theorem st_put_222 {X : Nat × (Nat → Int32)} {d : Nat} {J M : zA} {R : zR} {i v : Int} (hr : Rel X J M R) (hi : -2147483648 ≤ i ∧ i < 2147483648) (hv : -9223372036854775808 ≤ v ∧ v < 9223372036854775808) (hh : J 42 0 = 2) (hso : J 42 2 = 2) : zW X (d + 20) 138 0 (gEn 138 [(.ref 0), (zi 2), (zi i), (zl v)]) [] J M R (stP X (d + 20) 252 [(zi 2), (zi i), (zl v)]) := by
  have hr0 := hr
  obtain ⟨hR, hG, hY, hD, hP, hC, hAc, hS, hTp, hX, hW⟩ := hr0
  have hRr : zRoR R := zRoR_of hR
  have e83 : J 83 2 = -2 - J 42 2 := (hS 2 (by decide) (by decide)).1.symm.trans (cH_2 hh)
  have s3 : 0 ≤ J 42 2 ∧ J 42 2 ≤ 4 := (hS 2 (by decide) (by decide)).2.2.1
  have s4 : 0 ≤ J 42 3 ∧ J 42 3 ≤ 60 := (hS 2 (by decide) (by decide)).2.2.2.1
  have s6 := (hS 2 (by decide) (by decide)).2.2.2.2.2 hh
  have s7 : J 84 2 = J 42 3 := s6.1.symm
  have s8 : ∀ i, 0 ≤ i → i < J 42 3 → M 43 i = M 85 (120 + i) := s6.2.1
  show zW _ _ _ _ [some (.ref 0), some (zi 2), some (zi i), some (zl v), none, none] _ _ _ _ _
  refine z_iload1 gi_138_0 ?_
  refine z_cS1 gi_138_1 (Nat.le_of_ble_eq_true rfl) gc_143_I ?_
  refine z_iload0 gi_143_0 ?_
  refine z_if_ltF gi_143_1 zr_2 (by decide) ?_
  refine z_iload0 gi_143_4 ?_
  refine z_pushJ gp_143_5 ?_
  refine z_icmp_geF gi_143_7 zr_2 zr_6 (by decide) ?_
  refine z_pushJ gp_143_10 ?_
  refine z_goto gi_143_11 ?_
  refine z_bret1 gi_143_15 gr_143 ?_
  show zW _ _ _ _ _ _ _ _ _ _
  refine z_if_neT gi_138_4 zr_1 (by decide) ?_
  refine z_aload0 gi_138_9 ?_
  refine z_getR (r := 37) gi_138_10 gk_0 (hR _ rm_0_11) ?_
  refine z_iload1 gi_138_13 ?_
  refine z_aald (r := 42) gi_138_14 rfl (by decide) (by decide) (hR _ rm_37_2) ?_
  refine z_iload2 gi_138_15 ?_
  refine z_cV1 gi_138_16 gk_42 go_70 (Nat.le_of_ble_eq_true rfl) gc_70_RI ?_
  refine z_aload0 gi_70_0 ?_
  refine z_getI (v := 2) gi_70_1 gk_42 (hh) ?_
  refine z_if_neT gi_70_4 zr_2 (by decide) ?_
  refine z_aload0 gi_70_10 ?_
  refine z_getI (v := 2) gi_70_11 gk_42 (hh) ?_
  refine z_pushJ gp_70_14 ?_
  refine z_icmp_eqT gi_70_15 zr_2 zr_2 (by decide) ?_
  refine z_iload1 gi_70_21 ?_
  refine z_if_lt gi_70_22 (by omega) (fun h1 => ?_) (fun h1 => ?_)
  · refine z_pushJ gp_70_37 ?_
    refine z_iret gi_70_39 gr_70 ?_
    show zW _ _ _ _ _ _ _ _ _ _
    refine z_istore (ls1 := [some (.ref 0), some (zi 2), some (zi i), some (zl v), none, some (zi (-13))]) gi_138_19 rfl ?_
    refine z_iload5 gi_138_21 ?_
    refine z_if_geF gi_138_23 zrn_13 (by decide) ?_
    refine z_iload5 gi_138_26 ?_
    refine z_iret gi_138_28 gr_138 ?_
    refine ⟨_, rfl, ?_⟩
    show zW _ _ _ _ [some (.ref 50), some (zi 2), some (zi i), some (zl v), none, none, none] _ _ _ _ _
    refine z_aload0 gi_252_0 ?_
    refine z_iload1 gi_252_1 ?_
    refine z_iload2 gi_252_2 ?_
    refine z_cV2 gi_252_3 gk_50 go_251 (Nat.le_of_ble_eq_true rfl) gc_251_RII ?_
    refine z_iload1 gi_251_0 ?_
    refine z_cS1 gi_251_1 (Nat.le_of_ble_eq_true rfl) gc_248_I ?_
    refine z_iload0 gi_248_0 ?_
    refine z_pushJ gp_248_1 ?_
    refine z_pushJ gp_248_2 ?_
    refine z_cS3 gi_248_3 (Nat.le_of_ble_eq_true rfl) gc_148_III ?_
    refine z_iload0 gi_148_0 ?_
    refine z_iload1 gi_148_1 ?_
    refine z_icmp_ltF gi_148_2 zr_2 zr_0 (by decide) ?_
    refine z_iload0 gi_148_5 ?_
    refine z_iload2 gi_148_6 ?_
    refine z_icmp_gtF gi_148_7 zr_2 zr_5 (by decide) ?_
    refine z_pushJ gp_148_10 ?_
    refine z_goto gi_148_11 ?_
    refine z_bret1 gi_148_15 gr_148 ?_
    show zW _ _ _ _ _ _ _ _ _ _
    refine z_bret1 gi_248_6 gr_248 ?_
    show zW _ _ _ _ _ _ _ _ _ _
    refine z_if_neT gi_251_4 zr_1 (by decide) ?_
    refine z_aload0 gi_251_9 ?_
    refine z_getR (r := 83) gi_251_10 gk_50 (hRr _ rm_50_58 (by decide)) ?_
    refine z_iload1 gi_251_13 ?_
    refine z_iald (v := (-4)) gi_251_14 gk_83 (by decide) (by decide) ((e83.trans (by rw [hso]; rfl))) ?_
    refine z_pushJ gp_251_15 ?_
    refine z_icmp_neT gi_251_16 zrn_4 zrn_1 (by decide) ?_
    refine z_aload0 gi_251_22 ?_
    refine z_getR (r := 83) gi_251_23 gk_50 (hRr _ rm_50_58 (by decide)) ?_
    refine z_iload1 gi_251_26 ?_
    refine z_iald (v := (-4)) gi_251_27 gk_83 (by decide) (by decide) ((e83.trans (by rw [hso]; rfl))) ?_
    refine z_if_ltT gi_251_28 zrn_4 (by decide) ?_
    refine z_iload2 gi_251_34 ?_
    refine z_pushJ gp_251_35 ?_
    refine z_aload0 gi_251_36 ?_
    refine z_getR (r := 84) gi_251_37 gk_50 (hRr _ rm_50_59 (by decide)) ?_
    refine z_iload1 gi_251_40 ?_
    refine z_iald (v := J 42 3) gi_251_41 gk_84 (by decide) (by decide) (s7) ?_
    refine z_pushJ gp_251_42 ?_
    refine z_isub (e := (J 42 3) - 1) gi_251_43 rfl ?_
    refine z_cS3 gi_251_44 (Nat.le_of_ble_eq_true rfl) gc_148_III ?_
    refine z_iload0 gi_148_0 ?_
    refine z_iload1 gi_148_1 ?_
    refine z_icmp_ltT gi_148_2 (by omega) zr_0 (by omega) ?_
    refine z_pushJ gp_148_14 ?_
    refine z_bret0 gi_148_15 gr_148 ?_
    show zW _ _ _ _ _ _ _ _ _ _
    refine z_if_eqT gi_251_47 zr_0 (by decide) ?_
    refine z_pushJ gp_251_54 ?_
    refine z_iret gi_251_56 gr_251 ?_
    show zW _ _ _ _ _ _ _ _ _ _
    refine z_istore (ls1 := [some (.ref 50), some (zi 2), some (zi i), some (zl v), none, some (zi (-13)), none]) gi_252_6 rfl ?_
    refine z_iload5 gi_252_8 ?_
    refine z_if_geF gi_252_10 zrn_13 (by decide) ?_
    refine z_iload5 gi_252_13 ?_
    refine z_iret gi_252_15 gr_252 ?_
    refine ⟨?_, ?_⟩
    · first | rfl | exact congrArg (fun v => some (zi v)) (by omega) | (exfalso; omega)
    · exact hr
  · refine z_iload1 gi_70_25 ?_
    refine z_aload0 gi_70_26 ?_
    refine z_getI (v := J 42 3) gi_70_27 gk_42 (rfl) ?_
    refine z_icmp_ge gi_70_30 (by omega) (by omega) (fun h2 => ?_) (fun h2 => ?_)
    · refine z_pushJ gp_70_37 ?_
      refine z_iret gi_70_39 gr_70 ?_
      show zW _ _ _ _ _ _ _ _ _ _
      refine z_istore (ls1 := [some (.ref 0), some (zi 2), some (zi i), some (zl v), none, some (zi (-13))]) gi_138_19 rfl ?_
      refine z_iload5 gi_138_21 ?_
      refine z_if_geF gi_138_23 zrn_13 (by decide) ?_
      refine z_iload5 gi_138_26 ?_
      refine z_iret gi_138_28 gr_138 ?_
      refine ⟨_, rfl, ?_⟩
      show zW _ _ _ _ [some (.ref 50), some (zi 2), some (zi i), some (zl v), none, none, none] _ _ _ _ _
      refine z_aload0 gi_252_0 ?_
      refine z_iload1 gi_252_1 ?_
      refine z_iload2 gi_252_2 ?_
      refine z_cV2 gi_252_3 gk_50 go_251 (Nat.le_of_ble_eq_true rfl) gc_251_RII ?_
      refine z_iload1 gi_251_0 ?_
      refine z_cS1 gi_251_1 (Nat.le_of_ble_eq_true rfl) gc_248_I ?_
      refine z_iload0 gi_248_0 ?_
      refine z_pushJ gp_248_1 ?_
      refine z_pushJ gp_248_2 ?_
      refine z_cS3 gi_248_3 (Nat.le_of_ble_eq_true rfl) gc_148_III ?_
      refine z_iload0 gi_148_0 ?_
      refine z_iload1 gi_148_1 ?_
      refine z_icmp_ltF gi_148_2 zr_2 zr_0 (by decide) ?_
      refine z_iload0 gi_148_5 ?_
      refine z_iload2 gi_148_6 ?_
      refine z_icmp_gtF gi_148_7 zr_2 zr_5 (by decide) ?_
      refine z_pushJ gp_148_10 ?_
      refine z_goto gi_148_11 ?_
      refine z_bret1 gi_148_15 gr_148 ?_
      show zW _ _ _ _ _ _ _ _ _ _
      refine z_bret1 gi_248_6 gr_248 ?_
      show zW _ _ _ _ _ _ _ _ _ _
      refine z_if_neT gi_251_4 zr_1 (by decide) ?_
      refine z_aload0 gi_251_9 ?_
      refine z_getR (r := 83) gi_251_10 gk_50 (hRr _ rm_50_58 (by decide)) ?_
      refine z_iload1 gi_251_13 ?_
      refine z_iald (v := (-4)) gi_251_14 gk_83 (by decide) (by decide) ((e83.trans (by rw [hso]; rfl))) ?_
      refine z_pushJ gp_251_15 ?_
      refine z_icmp_neT gi_251_16 zrn_4 zrn_1 (by decide) ?_
      refine z_aload0 gi_251_22 ?_
      refine z_getR (r := 83) gi_251_23 gk_50 (hRr _ rm_50_58 (by decide)) ?_
      refine z_iload1 gi_251_26 ?_
      refine z_iald (v := (-4)) gi_251_27 gk_83 (by decide) (by decide) ((e83.trans (by rw [hso]; rfl))) ?_
      refine z_if_ltT gi_251_28 zrn_4 (by decide) ?_
      refine z_iload2 gi_251_34 ?_
      refine z_pushJ gp_251_35 ?_
      refine z_aload0 gi_251_36 ?_
      refine z_getR (r := 84) gi_251_37 gk_50 (hRr _ rm_50_59 (by decide)) ?_
      refine z_iload1 gi_251_40 ?_
      refine z_iald (v := J 42 3) gi_251_41 gk_84 (by decide) (by decide) (s7) ?_
      refine z_pushJ gp_251_42 ?_
      refine z_isub (e := (J 42 3) - 1) gi_251_43 rfl ?_
      refine z_cS3 gi_251_44 (Nat.le_of_ble_eq_true rfl) gc_148_III ?_
      refine z_iload0 gi_148_0 ?_
      refine z_iload1 gi_148_1 ?_
      refine z_icmp_ltF gi_148_2 (by omega) zr_0 (by omega) ?_
      refine z_iload0 gi_148_5 ?_
      refine z_iload2 gi_148_6 ?_
      refine z_icmp_gtT gi_148_7 (by omega) (by omega) (by omega) ?_
      refine z_pushJ gp_148_14 ?_
      refine z_bret0 gi_148_15 gr_148 ?_
      show zW _ _ _ _ _ _ _ _ _ _
      refine z_if_eqT gi_251_47 zr_0 (by decide) ?_
      refine z_pushJ gp_251_54 ?_
      refine z_iret gi_251_56 gr_251 ?_
      show zW _ _ _ _ _ _ _ _ _ _
      refine z_istore (ls1 := [some (.ref 50), some (zi 2), some (zi i), some (zl v), none, some (zi (-13)), none]) gi_252_6 rfl ?_
      refine z_iload5 gi_252_8 ?_
      refine z_if_geF gi_252_10 zrn_13 (by decide) ?_
      refine z_iload5 gi_252_13 ?_
      refine z_iret gi_252_15 gr_252 ?_
      refine ⟨?_, ?_⟩
      · first | rfl | exact congrArg (fun v => some (zi v)) (by omega) | (exfalso; omega)
      · exact hr
    · refine z_pushJ gp_70_33 ?_
      refine z_goto gi_70_34 ?_
      refine z_iret gi_70_39 gr_70 ?_
      show zW _ _ _ _ _ _ _ _ _ _
      refine z_istore (ls1 := [some (.ref 0), some (zi 2), some (zi i), some (zl v), none, some (zi 0)]) gi_138_19 rfl ?_
      refine z_iload5 gi_138_21 ?_
      refine z_if_geT gi_138_23 zr_0 (by decide) ?_
      refine z_aload0 gi_138_29 ?_
      refine z_getR (r := 37) gi_138_30 gk_0 (hR _ rm_0_11) ?_
      refine z_iload1 gi_138_33 ?_
      refine z_aald (r := 42) gi_138_34 rfl (by decide) (by decide) (hR _ rm_37_2) ?_
      refine z_iload2 gi_138_35 ?_
      refine z_lload3 gi_138_36 ?_
      refine z_callVi (As := [_, _]) (le := [some _, some _, some _, none]) gi_138_37 rfl gk_42 (Nat.le_of_ble_eq_true rfl) (Nat.le_of_ble_eq_true rfl) rfl ?_
      refine z_iload1 gi_73_0 ?_
      refine z_if_ltF gi_73_1 (by omega) (by omega) ?_
      refine z_iload1 gi_73_4 ?_
      refine z_aload0 gi_73_5 ?_
      refine z_getI (v := J 42 3) gi_73_6 gk_42 (rfl) ?_
      refine z_icmp_geF gi_73_9 (by omega) (by omega) (by omega) ?_
      refine z_aload0 gi_73_12 ?_
      refine z_getR (r := 43) gi_73_13 gk_42 (hR _ rm_42_4) ?_
      refine z_iload1 gi_73_16 ?_
      refine z_aload0 gi_73_17 ?_
      refine z_lload2 gi_73_18 ?_
      refine z_callVi (As := [_]) (le := [some _, some _, none]) gi_73_19 rfl gk_42 (Nat.le_of_ble_eq_true rfl) (Nat.le_of_ble_eq_true rfl) rfl ?_
      refine z_aload0 gi_74_0 ?_
      refine z_getI (v := 2) gi_74_1 gk_42 (hso) ?_
      refine z_swI (tg := 50) gi_74_4 (by decide) (T := [((0 : Int), 40), ((1 : Int), 45), ((2 : Int), 50), ((3 : Int), 66), ((4 : Int), 54)]) rfl (by decide) ?_
      refine z_lload1 gi_74_50 ?_
      refine z_l2i gi_74_51 ?_
      refine z_topn (e := zn v) rfl ?_
      have q3 := zn_r v
      refine z_i2l gi_74_52 (by omega) ?_
      refine z_lret gi_74_53 gr_74 ?_
      show zW _ _ _ _ _ _ _ _ _ _
      refine z_last (e := zn v) gi_73_22 gk_43 (by decide) (by omega) rfl ?_
      refine z_vret gi_73_23 gr_73 ?_
      show zW _ _ _ _ _ _ _ _ _ _
      refine z_pushJ gp_138_40 ?_
      refine z_iret gi_138_41 gr_138 ?_
      refine ⟨_, rfl, ?_⟩
      show zW _ _ _ _ [some (.ref 50), some (zi 2), some (zi i), some (zl v), none, none, none] _ _ _ _ _
      refine z_aload0 gi_252_0 ?_
      refine z_iload1 gi_252_1 ?_
      refine z_iload2 gi_252_2 ?_
      refine z_cV2 gi_252_3 gk_50 go_251 (Nat.le_of_ble_eq_true rfl) gc_251_RII ?_
      refine z_iload1 gi_251_0 ?_
      refine z_cS1 gi_251_1 (Nat.le_of_ble_eq_true rfl) gc_248_I ?_
      refine z_iload0 gi_248_0 ?_
      refine z_pushJ gp_248_1 ?_
      refine z_pushJ gp_248_2 ?_
      refine z_cS3 gi_248_3 (Nat.le_of_ble_eq_true rfl) gc_148_III ?_
      refine z_iload0 gi_148_0 ?_
      refine z_iload1 gi_148_1 ?_
      refine z_icmp_ltF gi_148_2 zr_2 zr_0 (by decide) ?_
      refine z_iload0 gi_148_5 ?_
      refine z_iload2 gi_148_6 ?_
      refine z_icmp_gtF gi_148_7 zr_2 zr_5 (by decide) ?_
      refine z_pushJ gp_148_10 ?_
      refine z_goto gi_148_11 ?_
      refine z_bret1 gi_148_15 gr_148 ?_
      show zW _ _ _ _ _ _ _ _ _ _
      refine z_bret1 gi_248_6 gr_248 ?_
      show zW _ _ _ _ _ _ _ _ _ _
      refine z_if_neT gi_251_4 zr_1 (by decide) ?_
      refine z_aload0 gi_251_9 ?_
      refine z_getR (r := 83) gi_251_10 gk_50 (hRr _ rm_50_58 (by decide)) ?_
      refine z_iload1 gi_251_13 ?_
      refine z_iald (v := (-4)) gi_251_14 gk_83 (by decide) (by decide) ((e83.trans (by rw [hso]; rfl))) ?_
      refine z_pushJ gp_251_15 ?_
      refine z_icmp_neT gi_251_16 zrn_4 zrn_1 (by decide) ?_
      refine z_aload0 gi_251_22 ?_
      refine z_getR (r := 83) gi_251_23 gk_50 (hRr _ rm_50_58 (by decide)) ?_
      refine z_iload1 gi_251_26 ?_
      refine z_iald (v := (-4)) gi_251_27 gk_83 (by decide) (by decide) ((e83.trans (by rw [hso]; rfl))) ?_
      refine z_if_ltT gi_251_28 zrn_4 (by decide) ?_
      refine z_iload2 gi_251_34 ?_
      refine z_pushJ gp_251_35 ?_
      refine z_aload0 gi_251_36 ?_
      refine z_getR (r := 84) gi_251_37 gk_50 (hRr _ rm_50_59 (by decide)) ?_
      refine z_iload1 gi_251_40 ?_
      refine z_iald (v := J 42 3) gi_251_41 gk_84 (by decide) (by decide) (s7) ?_
      refine z_pushJ gp_251_42 ?_
      refine z_isub (e := (J 42 3) - 1) gi_251_43 rfl ?_
      refine z_cS3 gi_251_44 (Nat.le_of_ble_eq_true rfl) gc_148_III ?_
      refine z_iload0 gi_148_0 ?_
      refine z_iload1 gi_148_1 ?_
      refine z_icmp_ltF gi_148_2 (by omega) zr_0 (by omega) ?_
      refine z_iload0 gi_148_5 ?_
      refine z_iload2 gi_148_6 ?_
      refine z_icmp_gtF gi_148_7 (by omega) (by omega) (by omega) ?_
      refine z_pushJ gp_148_10 ?_
      refine z_goto gi_148_11 ?_
      refine z_bret1 gi_148_15 gr_148 ?_
      show zW _ _ _ _ _ _ _ _ _ _
      refine z_if_eqF gi_251_47 zr_1 (by decide) ?_
      refine z_pushJ gp_251_50 ?_
      refine z_goto gi_251_51 ?_
      refine z_iret gi_251_56 gr_251 ?_
      show zW _ _ _ _ _ _ _ _ _ _
      refine z_istore (ls1 := [some (.ref 50), some (zi 2), some (zi i), some (zl v), none, some (zi 0), none]) gi_252_6 rfl ?_
      refine z_iload5 gi_252_8 ?_
      refine z_if_geT gi_252_10 zr_0 (by decide) ?_
      refine z_pushJ gp_252_16 ?_
      refine z_aload0 gi_252_18 ?_
      refine z_getR (r := 83) gi_252_19 gk_50 (hRr _ rm_50_58 (by decide)) ?_
      refine z_iload1 gi_252_22 ?_
      refine z_iald (v := (-4)) gi_252_23 gk_83 (by decide) (by decide) ((e83.trans (by rw [hso]; rfl))) ?_
      refine z_isub (e := 2) gi_252_24 rfl ?_
      refine z_istore (ls1 := [some (.ref 50), some (zi 2), some (zi i), some (zl v), none, some (zi 0), some (zi 2)]) gi_252_25 rfl ?_
      refine z_aload0 gi_252_27 ?_
      refine z_getR (r := 85) gi_252_28 gk_50 (hRr _ rm_50_60 (by decide)) ?_
      refine z_pushJ gp_252_31 ?_
      refine z_iload1 gi_252_33 ?_
      refine z_imul (e := 120) gi_252_34 rfl ?_
      refine z_iload2 gi_252_35 ?_
      refine z_iadd (e := 120 + i) gi_252_36 rfl ?_
      refine z_iload6 gi_252_37 ?_
      refine z_if_neT gi_252_39 zr_2 (by decide) ?_
      refine z_iload6 gi_252_49 ?_
      refine z_pushJ gp_252_51 ?_
      refine z_icmp_neT gi_252_52 zr_2 zr_1 (by decide) ?_
      refine z_iload6 gi_252_62 ?_
      refine z_pushJ gp_252_64 ?_
      refine z_icmp_neF gi_252_65 zr_2 zr_2 (by decide) ?_
      refine z_lload3 gi_252_68 ?_
      refine z_l2i gi_252_69 ?_
      refine z_topn (e := zn v) rfl ?_
      have q4 := zn_r v
      refine z_i2l gi_252_70 (by omega) ?_
      refine z_goto gi_252_71 ?_
      refine z_last (e := zn v) gi_252_95 gk_85 (by decide) (by omega) rfl ?_
      refine z_pushJ gp_252_96 ?_
      refine z_iret gi_252_97 gr_252 ?_
      refine ⟨?_, ?_⟩
      · first | rfl | exact congrArg (fun v => some (zi v)) (by omega) | (exfalso; omega)
      · have hk := (zK_r (k := (kL [] [])) (A := J))
        have hkm := (zK_x (a := 85) (x := 120 + i) (v := zn v) (zK_x (a := 43) (x := i) (v := zn v) (zK_r (k := (kL [43, 85] [])) (A := M)) rfl) rfl)
        exact ⟨hR, hG, RelY_k hk (by repeat' constructor) (fun p => by repeat' constructor) hY, RelD_k hk (by repeat' constructor) (fun p => by repeat' constructor) hD, RelP_k hk (by repeat' constructor) (fun p => by repeat' constructor) hP, RelC_k hk (by repeat' constructor) (fun p => by repeat' constructor) hC, RelA_k hk (by repeat' constructor) (fun p => by repeat' constructor) hAc, (RelS_one (J := J) (M := M) (c := 2) (fun t t1 t2 te => by have q : t = 0 ∨ t = 1 ∨ t = 2 ∨ t = 3 ∨ t = 4 ∨ t = 5 := (by omega); rcases q with rfl | rfl | rfl | rfl | rfl | rfl <;> first | exact absurd rfl te | exact ⟨fun j => rfl, rfl, rfl⟩) (fun t t1 t2 te => by have q : t = 0 ∨ t = 1 ∨ t = 2 ∨ t = 3 ∨ t = 4 ∨ t = 5 := (by omega); rcases q with rfl | rfl | rfl | rfl | rfl | rfl <;> first | exact absurd rfl te | exact ⟨fun j => rfl, fun j j1 j2 => (zU_x (by omega)).trans (zU_n (by decide))⟩) rfl (show RelS1 _ _ _ from ⟨(hS 2 (by decide) (by decide)).1, (hS 2 (by decide) (by decide)).2.1, s3, s4, (hS 2 (by decide) (by decide)).2.2.2.2.1, fun _ => ⟨s7.symm, fun k k1 k2 => by show (if k = i then zn v else M 43 k) = (if 120 + k = 120 + i then zn v else M 85 (120 + k)); by_cases e : k = i; rw [if_pos e, if_pos (by omega)]; rw [if_neg e, if_neg (by omega)]; exact s8 k k1 k2, (fun hq => absurd (Eq.trans (Eq.symm hq) hso) (by decide))⟩⟩) hS), RelT_k hk (by repeat' constructor) (fun p => by repeat' constructor) hTp, RelX_k hk (by repeat' constructor) (fun p => by repeat' constructor) hX, RelW_k hk ⟨rfl, rfl⟩ trivial hW⟩
theorem st_put_223 {X : Nat × (Nat → Int32)} {d : Nat} {J M : zA} {R : zR} {i v : Int} (hr : Rel X J M R) (hi : -2147483648 ≤ i ∧ i < 2147483648) (hv : -9223372036854775808 ≤ v ∧ v < 9223372036854775808) (hh : J 42 0 = 2) (hso : J 42 2 = 3) : zW X (d + 20) 138 0 (gEn 138 [(.ref 0), (zi 2), (zi i), (zl v)]) [] J M R (stP X (d + 20) 252 [(zi 2), (zi i), (zl v)]) := by
  have hr0 := hr
  obtain ⟨hR, hG, hY, hD, hP, hC, hAc, hS, hTp, hX, hW⟩ := hr0
  have hRr : zRoR R := zRoR_of hR
  have e83 : J 83 2 = -2 - J 42 2 := (hS 2 (by decide) (by decide)).1.symm.trans (cH_2 hh)
  have s3 : 0 ≤ J 42 2 ∧ J 42 2 ≤ 4 := (hS 2 (by decide) (by decide)).2.2.1
  have s4 : 0 ≤ J 42 3 ∧ J 42 3 ≤ 60 := (hS 2 (by decide) (by decide)).2.2.2.1
  have s6 := (hS 2 (by decide) (by decide)).2.2.2.2.2 hh
  have s7 : J 84 2 = J 42 3 := s6.1.symm
  have s8 : ∀ i, 0 ≤ i → i < J 42 3 → M 43 i = M 85 (120 + i) := s6.2.1
  show zW _ _ _ _ [some (.ref 0), some (zi 2), some (zi i), some (zl v), none, none] _ _ _ _ _
  refine z_iload1 gi_138_0 ?_
  refine z_cS1 gi_138_1 (Nat.le_of_ble_eq_true rfl) gc_143_I ?_
  refine z_iload0 gi_143_0 ?_
  refine z_if_ltF gi_143_1 zr_2 (by decide) ?_
  refine z_iload0 gi_143_4 ?_
  refine z_pushJ gp_143_5 ?_
  refine z_icmp_geF gi_143_7 zr_2 zr_6 (by decide) ?_
  refine z_pushJ gp_143_10 ?_
  refine z_goto gi_143_11 ?_
  refine z_bret1 gi_143_15 gr_143 ?_
  show zW _ _ _ _ _ _ _ _ _ _
  refine z_if_neT gi_138_4 zr_1 (by decide) ?_
  refine z_aload0 gi_138_9 ?_
  refine z_getR (r := 37) gi_138_10 gk_0 (hR _ rm_0_11) ?_
  refine z_iload1 gi_138_13 ?_
  refine z_aald (r := 42) gi_138_14 rfl (by decide) (by decide) (hR _ rm_37_2) ?_
  refine z_iload2 gi_138_15 ?_
  refine z_cV1 gi_138_16 gk_42 go_70 (Nat.le_of_ble_eq_true rfl) gc_70_RI ?_
  refine z_aload0 gi_70_0 ?_
  refine z_getI (v := 2) gi_70_1 gk_42 (hh) ?_
  refine z_if_neT gi_70_4 zr_2 (by decide) ?_
  refine z_aload0 gi_70_10 ?_
  refine z_getI (v := 2) gi_70_11 gk_42 (hh) ?_
  refine z_pushJ gp_70_14 ?_
  refine z_icmp_eqT gi_70_15 zr_2 zr_2 (by decide) ?_
  refine z_iload1 gi_70_21 ?_
  refine z_if_lt gi_70_22 (by omega) (fun h1 => ?_) (fun h1 => ?_)
  · refine z_pushJ gp_70_37 ?_
    refine z_iret gi_70_39 gr_70 ?_
    show zW _ _ _ _ _ _ _ _ _ _
    refine z_istore (ls1 := [some (.ref 0), some (zi 2), some (zi i), some (zl v), none, some (zi (-13))]) gi_138_19 rfl ?_
    refine z_iload5 gi_138_21 ?_
    refine z_if_geF gi_138_23 zrn_13 (by decide) ?_
    refine z_iload5 gi_138_26 ?_
    refine z_iret gi_138_28 gr_138 ?_
    refine ⟨_, rfl, ?_⟩
    show zW _ _ _ _ [some (.ref 50), some (zi 2), some (zi i), some (zl v), none, none, none] _ _ _ _ _
    refine z_aload0 gi_252_0 ?_
    refine z_iload1 gi_252_1 ?_
    refine z_iload2 gi_252_2 ?_
    refine z_cV2 gi_252_3 gk_50 go_251 (Nat.le_of_ble_eq_true rfl) gc_251_RII ?_
    refine z_iload1 gi_251_0 ?_
    refine z_cS1 gi_251_1 (Nat.le_of_ble_eq_true rfl) gc_248_I ?_
    refine z_iload0 gi_248_0 ?_
    refine z_pushJ gp_248_1 ?_
    refine z_pushJ gp_248_2 ?_
    refine z_cS3 gi_248_3 (Nat.le_of_ble_eq_true rfl) gc_148_III ?_
    refine z_iload0 gi_148_0 ?_
    refine z_iload1 gi_148_1 ?_
    refine z_icmp_ltF gi_148_2 zr_2 zr_0 (by decide) ?_
    refine z_iload0 gi_148_5 ?_
    refine z_iload2 gi_148_6 ?_
    refine z_icmp_gtF gi_148_7 zr_2 zr_5 (by decide) ?_
    refine z_pushJ gp_148_10 ?_
    refine z_goto gi_148_11 ?_
    refine z_bret1 gi_148_15 gr_148 ?_
    show zW _ _ _ _ _ _ _ _ _ _
    refine z_bret1 gi_248_6 gr_248 ?_
    show zW _ _ _ _ _ _ _ _ _ _
    refine z_if_neT gi_251_4 zr_1 (by decide) ?_
    refine z_aload0 gi_251_9 ?_
    refine z_getR (r := 83) gi_251_10 gk_50 (hRr _ rm_50_58 (by decide)) ?_
    refine z_iload1 gi_251_13 ?_
    refine z_iald (v := (-5)) gi_251_14 gk_83 (by decide) (by decide) ((e83.trans (by rw [hso]; rfl))) ?_
    refine z_pushJ gp_251_15 ?_
    refine z_icmp_neT gi_251_16 zrn_5 zrn_1 (by decide) ?_
    refine z_aload0 gi_251_22 ?_
    refine z_getR (r := 83) gi_251_23 gk_50 (hRr _ rm_50_58 (by decide)) ?_
    refine z_iload1 gi_251_26 ?_
    refine z_iald (v := (-5)) gi_251_27 gk_83 (by decide) (by decide) ((e83.trans (by rw [hso]; rfl))) ?_
    refine z_if_ltT gi_251_28 zrn_5 (by decide) ?_
    refine z_iload2 gi_251_34 ?_
    refine z_pushJ gp_251_35 ?_
    refine z_aload0 gi_251_36 ?_
    refine z_getR (r := 84) gi_251_37 gk_50 (hRr _ rm_50_59 (by decide)) ?_
    refine z_iload1 gi_251_40 ?_
    refine z_iald (v := J 42 3) gi_251_41 gk_84 (by decide) (by decide) (s7) ?_
    refine z_pushJ gp_251_42 ?_
    refine z_isub (e := (J 42 3) - 1) gi_251_43 rfl ?_
    refine z_cS3 gi_251_44 (Nat.le_of_ble_eq_true rfl) gc_148_III ?_
    refine z_iload0 gi_148_0 ?_
    refine z_iload1 gi_148_1 ?_
    refine z_icmp_ltT gi_148_2 (by omega) zr_0 (by omega) ?_
    refine z_pushJ gp_148_14 ?_
    refine z_bret0 gi_148_15 gr_148 ?_
    show zW _ _ _ _ _ _ _ _ _ _
    refine z_if_eqT gi_251_47 zr_0 (by decide) ?_
    refine z_pushJ gp_251_54 ?_
    refine z_iret gi_251_56 gr_251 ?_
    show zW _ _ _ _ _ _ _ _ _ _
    refine z_istore (ls1 := [some (.ref 50), some (zi 2), some (zi i), some (zl v), none, some (zi (-13)), none]) gi_252_6 rfl ?_
    refine z_iload5 gi_252_8 ?_
    refine z_if_geF gi_252_10 zrn_13 (by decide) ?_
    refine z_iload5 gi_252_13 ?_
    refine z_iret gi_252_15 gr_252 ?_
    refine ⟨?_, ?_⟩
    · first | rfl | exact congrArg (fun v => some (zi v)) (by omega) | (exfalso; omega)
    · exact hr
  · refine z_iload1 gi_70_25 ?_
    refine z_aload0 gi_70_26 ?_
    refine z_getI (v := J 42 3) gi_70_27 gk_42 (rfl) ?_
    refine z_icmp_ge gi_70_30 (by omega) (by omega) (fun h2 => ?_) (fun h2 => ?_)
    · refine z_pushJ gp_70_37 ?_
      refine z_iret gi_70_39 gr_70 ?_
      show zW _ _ _ _ _ _ _ _ _ _
      refine z_istore (ls1 := [some (.ref 0), some (zi 2), some (zi i), some (zl v), none, some (zi (-13))]) gi_138_19 rfl ?_
      refine z_iload5 gi_138_21 ?_
      refine z_if_geF gi_138_23 zrn_13 (by decide) ?_
      refine z_iload5 gi_138_26 ?_
      refine z_iret gi_138_28 gr_138 ?_
      refine ⟨_, rfl, ?_⟩
      show zW _ _ _ _ [some (.ref 50), some (zi 2), some (zi i), some (zl v), none, none, none] _ _ _ _ _
      refine z_aload0 gi_252_0 ?_
      refine z_iload1 gi_252_1 ?_
      refine z_iload2 gi_252_2 ?_
      refine z_cV2 gi_252_3 gk_50 go_251 (Nat.le_of_ble_eq_true rfl) gc_251_RII ?_
      refine z_iload1 gi_251_0 ?_
      refine z_cS1 gi_251_1 (Nat.le_of_ble_eq_true rfl) gc_248_I ?_
      refine z_iload0 gi_248_0 ?_
      refine z_pushJ gp_248_1 ?_
      refine z_pushJ gp_248_2 ?_
      refine z_cS3 gi_248_3 (Nat.le_of_ble_eq_true rfl) gc_148_III ?_
      refine z_iload0 gi_148_0 ?_
      refine z_iload1 gi_148_1 ?_
      refine z_icmp_ltF gi_148_2 zr_2 zr_0 (by decide) ?_
      refine z_iload0 gi_148_5 ?_
      refine z_iload2 gi_148_6 ?_
      refine z_icmp_gtF gi_148_7 zr_2 zr_5 (by decide) ?_
      refine z_pushJ gp_148_10 ?_
      refine z_goto gi_148_11 ?_
      refine z_bret1 gi_148_15 gr_148 ?_
      show zW _ _ _ _ _ _ _ _ _ _
      refine z_bret1 gi_248_6 gr_248 ?_
      show zW _ _ _ _ _ _ _ _ _ _
      refine z_if_neT gi_251_4 zr_1 (by decide) ?_
      refine z_aload0 gi_251_9 ?_
      refine z_getR (r := 83) gi_251_10 gk_50 (hRr _ rm_50_58 (by decide)) ?_
      refine z_iload1 gi_251_13 ?_
      refine z_iald (v := (-5)) gi_251_14 gk_83 (by decide) (by decide) ((e83.trans (by rw [hso]; rfl))) ?_
      refine z_pushJ gp_251_15 ?_
      refine z_icmp_neT gi_251_16 zrn_5 zrn_1 (by decide) ?_
      refine z_aload0 gi_251_22 ?_
      refine z_getR (r := 83) gi_251_23 gk_50 (hRr _ rm_50_58 (by decide)) ?_
      refine z_iload1 gi_251_26 ?_
      refine z_iald (v := (-5)) gi_251_27 gk_83 (by decide) (by decide) ((e83.trans (by rw [hso]; rfl))) ?_
      refine z_if_ltT gi_251_28 zrn_5 (by decide) ?_
      refine z_iload2 gi_251_34 ?_
      refine z_pushJ gp_251_35 ?_
      refine z_aload0 gi_251_36 ?_
      refine z_getR (r := 84) gi_251_37 gk_50 (hRr _ rm_50_59 (by decide)) ?_
      refine z_iload1 gi_251_40 ?_
      refine z_iald (v := J 42 3) gi_251_41 gk_84 (by decide) (by decide) (s7) ?_
      refine z_pushJ gp_251_42 ?_
      refine z_isub (e := (J 42 3) - 1) gi_251_43 rfl ?_
      refine z_cS3 gi_251_44 (Nat.le_of_ble_eq_true rfl) gc_148_III ?_
      refine z_iload0 gi_148_0 ?_
      refine z_iload1 gi_148_1 ?_
      refine z_icmp_ltF gi_148_2 (by omega) zr_0 (by omega) ?_
      refine z_iload0 gi_148_5 ?_
      refine z_iload2 gi_148_6 ?_
      refine z_icmp_gtT gi_148_7 (by omega) (by omega) (by omega) ?_
      refine z_pushJ gp_148_14 ?_
      refine z_bret0 gi_148_15 gr_148 ?_
      show zW _ _ _ _ _ _ _ _ _ _
      refine z_if_eqT gi_251_47 zr_0 (by decide) ?_
      refine z_pushJ gp_251_54 ?_
      refine z_iret gi_251_56 gr_251 ?_
      show zW _ _ _ _ _ _ _ _ _ _
      refine z_istore (ls1 := [some (.ref 50), some (zi 2), some (zi i), some (zl v), none, some (zi (-13)), none]) gi_252_6 rfl ?_
      refine z_iload5 gi_252_8 ?_
      refine z_if_geF gi_252_10 zrn_13 (by decide) ?_
      refine z_iload5 gi_252_13 ?_
      refine z_iret gi_252_15 gr_252 ?_
      refine ⟨?_, ?_⟩
      · first | rfl | exact congrArg (fun v => some (zi v)) (by omega) | (exfalso; omega)
      · exact hr
    · refine z_pushJ gp_70_33 ?_
      refine z_goto gi_70_34 ?_
      refine z_iret gi_70_39 gr_70 ?_
      show zW _ _ _ _ _ _ _ _ _ _
      refine z_istore (ls1 := [some (.ref 0), some (zi 2), some (zi i), some (zl v), none, some (zi 0)]) gi_138_19 rfl ?_
      refine z_iload5 gi_138_21 ?_
      refine z_if_geT gi_138_23 zr_0 (by decide) ?_
      refine z_aload0 gi_138_29 ?_
      refine z_getR (r := 37) gi_138_30 gk_0 (hR _ rm_0_11) ?_
      refine z_iload1 gi_138_33 ?_
      refine z_aald (r := 42) gi_138_34 rfl (by decide) (by decide) (hR _ rm_37_2) ?_
      refine z_iload2 gi_138_35 ?_
      refine z_lload3 gi_138_36 ?_
      refine z_callVi (As := [_, _]) (le := [some _, some _, some _, none]) gi_138_37 rfl gk_42 (Nat.le_of_ble_eq_true rfl) (Nat.le_of_ble_eq_true rfl) rfl ?_
      refine z_iload1 gi_73_0 ?_
      refine z_if_ltF gi_73_1 (by omega) (by omega) ?_
      refine z_iload1 gi_73_4 ?_
      refine z_aload0 gi_73_5 ?_
      refine z_getI (v := J 42 3) gi_73_6 gk_42 (rfl) ?_
      refine z_icmp_geF gi_73_9 (by omega) (by omega) (by omega) ?_
      refine z_aload0 gi_73_12 ?_
      refine z_getR (r := 43) gi_73_13 gk_42 (hR _ rm_42_4) ?_
      refine z_iload1 gi_73_16 ?_
      refine z_aload0 gi_73_17 ?_
      refine z_lload2 gi_73_18 ?_
      refine z_callVi (As := [_]) (le := [some _, some _, none]) gi_73_19 rfl gk_42 (Nat.le_of_ble_eq_true rfl) (Nat.le_of_ble_eq_true rfl) rfl ?_
      refine z_aload0 gi_74_0 ?_
      refine z_getI (v := 3) gi_74_1 gk_42 (hso) ?_
      refine z_swI (tg := 66) gi_74_4 (by decide) (T := [((0 : Int), 40), ((1 : Int), 45), ((2 : Int), 50), ((3 : Int), 66), ((4 : Int), 54)]) rfl (by decide) ?_
      refine z_lload1 gi_74_66 ?_
      refine z_lret gi_74_67 gr_74 ?_
      show zW _ _ _ _ _ _ _ _ _ _
      refine z_last (e := v) gi_73_22 gk_43 (by decide) (by omega) rfl ?_
      refine z_vret gi_73_23 gr_73 ?_
      show zW _ _ _ _ _ _ _ _ _ _
      refine z_pushJ gp_138_40 ?_
      refine z_iret gi_138_41 gr_138 ?_
      refine ⟨_, rfl, ?_⟩
      show zW _ _ _ _ [some (.ref 50), some (zi 2), some (zi i), some (zl v), none, none, none] _ _ _ _ _
      refine z_aload0 gi_252_0 ?_
      refine z_iload1 gi_252_1 ?_
      refine z_iload2 gi_252_2 ?_
      refine z_cV2 gi_252_3 gk_50 go_251 (Nat.le_of_ble_eq_true rfl) gc_251_RII ?_
      refine z_iload1 gi_251_0 ?_
      refine z_cS1 gi_251_1 (Nat.le_of_ble_eq_true rfl) gc_248_I ?_
      refine z_iload0 gi_248_0 ?_
      refine z_pushJ gp_248_1 ?_
      refine z_pushJ gp_248_2 ?_
      refine z_cS3 gi_248_3 (Nat.le_of_ble_eq_true rfl) gc_148_III ?_
      refine z_iload0 gi_148_0 ?_
      refine z_iload1 gi_148_1 ?_
      refine z_icmp_ltF gi_148_2 zr_2 zr_0 (by decide) ?_
      refine z_iload0 gi_148_5 ?_
      refine z_iload2 gi_148_6 ?_
      refine z_icmp_gtF gi_148_7 zr_2 zr_5 (by decide) ?_
      refine z_pushJ gp_148_10 ?_
      refine z_goto gi_148_11 ?_
      refine z_bret1 gi_148_15 gr_148 ?_
      show zW _ _ _ _ _ _ _ _ _ _
      refine z_bret1 gi_248_6 gr_248 ?_
      show zW _ _ _ _ _ _ _ _ _ _
      refine z_if_neT gi_251_4 zr_1 (by decide) ?_
      refine z_aload0 gi_251_9 ?_
      refine z_getR (r := 83) gi_251_10 gk_50 (hRr _ rm_50_58 (by decide)) ?_
      refine z_iload1 gi_251_13 ?_
      refine z_iald (v := (-5)) gi_251_14 gk_83 (by decide) (by decide) ((e83.trans (by rw [hso]; rfl))) ?_
      refine z_pushJ gp_251_15 ?_
      refine z_icmp_neT gi_251_16 zrn_5 zrn_1 (by decide) ?_
      refine z_aload0 gi_251_22 ?_
      refine z_getR (r := 83) gi_251_23 gk_50 (hRr _ rm_50_58 (by decide)) ?_
      refine z_iload1 gi_251_26 ?_
      refine z_iald (v := (-5)) gi_251_27 gk_83 (by decide) (by decide) ((e83.trans (by rw [hso]; rfl))) ?_
      refine z_if_ltT gi_251_28 zrn_5 (by decide) ?_
      refine z_iload2 gi_251_34 ?_
      refine z_pushJ gp_251_35 ?_
      refine z_aload0 gi_251_36 ?_
      refine z_getR (r := 84) gi_251_37 gk_50 (hRr _ rm_50_59 (by decide)) ?_
      refine z_iload1 gi_251_40 ?_
      refine z_iald (v := J 42 3) gi_251_41 gk_84 (by decide) (by decide) (s7) ?_
      refine z_pushJ gp_251_42 ?_
      refine z_isub (e := (J 42 3) - 1) gi_251_43 rfl ?_
      refine z_cS3 gi_251_44 (Nat.le_of_ble_eq_true rfl) gc_148_III ?_
      refine z_iload0 gi_148_0 ?_
      refine z_iload1 gi_148_1 ?_
      refine z_icmp_ltF gi_148_2 (by omega) zr_0 (by omega) ?_
      refine z_iload0 gi_148_5 ?_
      refine z_iload2 gi_148_6 ?_
      refine z_icmp_gtF gi_148_7 (by omega) (by omega) (by omega) ?_
      refine z_pushJ gp_148_10 ?_
      refine z_goto gi_148_11 ?_
      refine z_bret1 gi_148_15 gr_148 ?_
      show zW _ _ _ _ _ _ _ _ _ _
      refine z_if_eqF gi_251_47 zr_1 (by decide) ?_
      refine z_pushJ gp_251_50 ?_
      refine z_goto gi_251_51 ?_
      refine z_iret gi_251_56 gr_251 ?_
      show zW _ _ _ _ _ _ _ _ _ _
      refine z_istore (ls1 := [some (.ref 50), some (zi 2), some (zi i), some (zl v), none, some (zi 0), none]) gi_252_6 rfl ?_
      refine z_iload5 gi_252_8 ?_
      refine z_if_geT gi_252_10 zr_0 (by decide) ?_
      refine z_pushJ gp_252_16 ?_
      refine z_aload0 gi_252_18 ?_
      refine z_getR (r := 83) gi_252_19 gk_50 (hRr _ rm_50_58 (by decide)) ?_
      refine z_iload1 gi_252_22 ?_
      refine z_iald (v := (-5)) gi_252_23 gk_83 (by decide) (by decide) ((e83.trans (by rw [hso]; rfl))) ?_
      refine z_isub (e := 3) gi_252_24 rfl ?_
      refine z_istore (ls1 := [some (.ref 50), some (zi 2), some (zi i), some (zl v), none, some (zi 0), some (zi 3)]) gi_252_25 rfl ?_
      refine z_aload0 gi_252_27 ?_
      refine z_getR (r := 85) gi_252_28 gk_50 (hRr _ rm_50_60 (by decide)) ?_
      refine z_pushJ gp_252_31 ?_
      refine z_iload1 gi_252_33 ?_
      refine z_imul (e := 120) gi_252_34 rfl ?_
      refine z_iload2 gi_252_35 ?_
      refine z_iadd (e := 120 + i) gi_252_36 rfl ?_
      refine z_iload6 gi_252_37 ?_
      refine z_if_neT gi_252_39 zr_3 (by decide) ?_
      refine z_iload6 gi_252_49 ?_
      refine z_pushJ gp_252_51 ?_
      refine z_icmp_neT gi_252_52 zr_3 zr_1 (by decide) ?_
      refine z_iload6 gi_252_62 ?_
      refine z_pushJ gp_252_64 ?_
      refine z_icmp_neT gi_252_65 zr_3 zr_2 (by decide) ?_
      refine z_iload6 gi_252_74 ?_
      refine z_pushJ gp_252_76 ?_
      refine z_icmp_neF gi_252_77 zr_3 zr_3 (by decide) ?_
      refine z_lload3 gi_252_80 ?_
      refine z_goto gi_252_81 ?_
      refine z_last (e := v) gi_252_95 gk_85 (by decide) (by omega) rfl ?_
      refine z_pushJ gp_252_96 ?_
      refine z_iret gi_252_97 gr_252 ?_
      refine ⟨?_, ?_⟩
      · first | rfl | exact congrArg (fun v => some (zi v)) (by omega) | (exfalso; omega)
      · have hk := (zK_r (k := (kL [] [])) (A := J))
        have hkm := (zK_x (a := 85) (x := 120 + i) (v := v) (zK_x (a := 43) (x := i) (v := v) (zK_r (k := (kL [43, 85] [])) (A := M)) rfl) rfl)
        exact ⟨hR, hG, RelY_k hk (by repeat' constructor) (fun p => by repeat' constructor) hY, RelD_k hk (by repeat' constructor) (fun p => by repeat' constructor) hD, RelP_k hk (by repeat' constructor) (fun p => by repeat' constructor) hP, RelC_k hk (by repeat' constructor) (fun p => by repeat' constructor) hC, RelA_k hk (by repeat' constructor) (fun p => by repeat' constructor) hAc, (RelS_one (J := J) (M := M) (c := 2) (fun t t1 t2 te => by have q : t = 0 ∨ t = 1 ∨ t = 2 ∨ t = 3 ∨ t = 4 ∨ t = 5 := (by omega); rcases q with rfl | rfl | rfl | rfl | rfl | rfl <;> first | exact absurd rfl te | exact ⟨fun j => rfl, rfl, rfl⟩) (fun t t1 t2 te => by have q : t = 0 ∨ t = 1 ∨ t = 2 ∨ t = 3 ∨ t = 4 ∨ t = 5 := (by omega); rcases q with rfl | rfl | rfl | rfl | rfl | rfl <;> first | exact absurd rfl te | exact ⟨fun j => rfl, fun j j1 j2 => (zU_x (by omega)).trans (zU_n (by decide))⟩) rfl (show RelS1 _ _ _ from ⟨(hS 2 (by decide) (by decide)).1, (hS 2 (by decide) (by decide)).2.1, s3, s4, (hS 2 (by decide) (by decide)).2.2.2.2.1, fun _ => ⟨s7.symm, fun k k1 k2 => by show (if k = i then v else M 43 k) = (if 120 + k = 120 + i then v else M 85 (120 + k)); by_cases e : k = i; rw [if_pos e, if_pos (by omega)]; rw [if_neg e, if_neg (by omega)]; exact s8 k k1 k2, (fun hq => absurd (Eq.trans (Eq.symm hq) hso) (by decide))⟩⟩) hS), RelT_k hk (by repeat' constructor) (fun p => by repeat' constructor) hTp, RelX_k hk (by repeat' constructor) (fun p => by repeat' constructor) hX, RelW_k hk ⟨rfl, rfl⟩ trivial hW⟩
theorem st_put_224 {X : Nat × (Nat → Int32)} {d : Nat} {J M : zA} {R : zR} {i v : Int} (hr : Rel X J M R) (hi : -2147483648 ≤ i ∧ i < 2147483648) (hv : -9223372036854775808 ≤ v ∧ v < 9223372036854775808) (hh : J 42 0 = 2) (hso : J 42 2 = 4) : zW X (d + 20) 138 0 (gEn 138 [(.ref 0), (zi 2), (zi i), (zl v)]) [] J M R (stP X (d + 20) 252 [(zi 2), (zi i), (zl v)]) := by
  have hr0 := hr
  obtain ⟨hR, hG, hY, hD, hP, hC, hAc, hS, hTp, hX, hW⟩ := hr0
  have hRr : zRoR R := zRoR_of hR
  have e83 : J 83 2 = -2 - J 42 2 := (hS 2 (by decide) (by decide)).1.symm.trans (cH_2 hh)
  have s3 : 0 ≤ J 42 2 ∧ J 42 2 ≤ 4 := (hS 2 (by decide) (by decide)).2.2.1
  have s4 : 0 ≤ J 42 3 ∧ J 42 3 ≤ 60 := (hS 2 (by decide) (by decide)).2.2.2.1
  have s6 := (hS 2 (by decide) (by decide)).2.2.2.2.2 hh
  have s7 : J 84 2 = J 42 3 := s6.1.symm
  have s8 : ∀ i, 0 ≤ i → i < J 42 3 → M 43 i = M 85 (120 + i) := s6.2.1
  show zW _ _ _ _ [some (.ref 0), some (zi 2), some (zi i), some (zl v), none, none] _ _ _ _ _
  refine z_iload1 gi_138_0 ?_
  refine z_cS1 gi_138_1 (Nat.le_of_ble_eq_true rfl) gc_143_I ?_
  refine z_iload0 gi_143_0 ?_
  refine z_if_ltF gi_143_1 zr_2 (by decide) ?_
  refine z_iload0 gi_143_4 ?_
  refine z_pushJ gp_143_5 ?_
  refine z_icmp_geF gi_143_7 zr_2 zr_6 (by decide) ?_
  refine z_pushJ gp_143_10 ?_
  refine z_goto gi_143_11 ?_
  refine z_bret1 gi_143_15 gr_143 ?_
  show zW _ _ _ _ _ _ _ _ _ _
  refine z_if_neT gi_138_4 zr_1 (by decide) ?_
  refine z_aload0 gi_138_9 ?_
  refine z_getR (r := 37) gi_138_10 gk_0 (hR _ rm_0_11) ?_
  refine z_iload1 gi_138_13 ?_
  refine z_aald (r := 42) gi_138_14 rfl (by decide) (by decide) (hR _ rm_37_2) ?_
  refine z_iload2 gi_138_15 ?_
  refine z_cV1 gi_138_16 gk_42 go_70 (Nat.le_of_ble_eq_true rfl) gc_70_RI ?_
  refine z_aload0 gi_70_0 ?_
  refine z_getI (v := 2) gi_70_1 gk_42 (hh) ?_
  refine z_if_neT gi_70_4 zr_2 (by decide) ?_
  refine z_aload0 gi_70_10 ?_
  refine z_getI (v := 2) gi_70_11 gk_42 (hh) ?_
  refine z_pushJ gp_70_14 ?_
  refine z_icmp_eqT gi_70_15 zr_2 zr_2 (by decide) ?_
  refine z_iload1 gi_70_21 ?_
  refine z_if_lt gi_70_22 (by omega) (fun h1 => ?_) (fun h1 => ?_)
  · refine z_pushJ gp_70_37 ?_
    refine z_iret gi_70_39 gr_70 ?_
    show zW _ _ _ _ _ _ _ _ _ _
    refine z_istore (ls1 := [some (.ref 0), some (zi 2), some (zi i), some (zl v), none, some (zi (-13))]) gi_138_19 rfl ?_
    refine z_iload5 gi_138_21 ?_
    refine z_if_geF gi_138_23 zrn_13 (by decide) ?_
    refine z_iload5 gi_138_26 ?_
    refine z_iret gi_138_28 gr_138 ?_
    refine ⟨_, rfl, ?_⟩
    show zW _ _ _ _ [some (.ref 50), some (zi 2), some (zi i), some (zl v), none, none, none] _ _ _ _ _
    refine z_aload0 gi_252_0 ?_
    refine z_iload1 gi_252_1 ?_
    refine z_iload2 gi_252_2 ?_
    refine z_cV2 gi_252_3 gk_50 go_251 (Nat.le_of_ble_eq_true rfl) gc_251_RII ?_
    refine z_iload1 gi_251_0 ?_
    refine z_cS1 gi_251_1 (Nat.le_of_ble_eq_true rfl) gc_248_I ?_
    refine z_iload0 gi_248_0 ?_
    refine z_pushJ gp_248_1 ?_
    refine z_pushJ gp_248_2 ?_
    refine z_cS3 gi_248_3 (Nat.le_of_ble_eq_true rfl) gc_148_III ?_
    refine z_iload0 gi_148_0 ?_
    refine z_iload1 gi_148_1 ?_
    refine z_icmp_ltF gi_148_2 zr_2 zr_0 (by decide) ?_
    refine z_iload0 gi_148_5 ?_
    refine z_iload2 gi_148_6 ?_
    refine z_icmp_gtF gi_148_7 zr_2 zr_5 (by decide) ?_
    refine z_pushJ gp_148_10 ?_
    refine z_goto gi_148_11 ?_
    refine z_bret1 gi_148_15 gr_148 ?_
    show zW _ _ _ _ _ _ _ _ _ _
    refine z_bret1 gi_248_6 gr_248 ?_
    show zW _ _ _ _ _ _ _ _ _ _
    refine z_if_neT gi_251_4 zr_1 (by decide) ?_
    refine z_aload0 gi_251_9 ?_
    refine z_getR (r := 83) gi_251_10 gk_50 (hRr _ rm_50_58 (by decide)) ?_
    refine z_iload1 gi_251_13 ?_
    refine z_iald (v := (-6)) gi_251_14 gk_83 (by decide) (by decide) ((e83.trans (by rw [hso]; rfl))) ?_
    refine z_pushJ gp_251_15 ?_
    refine z_icmp_neT gi_251_16 zrn_6 zrn_1 (by decide) ?_
    refine z_aload0 gi_251_22 ?_
    refine z_getR (r := 83) gi_251_23 gk_50 (hRr _ rm_50_58 (by decide)) ?_
    refine z_iload1 gi_251_26 ?_
    refine z_iald (v := (-6)) gi_251_27 gk_83 (by decide) (by decide) ((e83.trans (by rw [hso]; rfl))) ?_
    refine z_if_ltT gi_251_28 zrn_6 (by decide) ?_
    refine z_iload2 gi_251_34 ?_
    refine z_pushJ gp_251_35 ?_
    refine z_aload0 gi_251_36 ?_
    refine z_getR (r := 84) gi_251_37 gk_50 (hRr _ rm_50_59 (by decide)) ?_
    refine z_iload1 gi_251_40 ?_
    refine z_iald (v := J 42 3) gi_251_41 gk_84 (by decide) (by decide) (s7) ?_
    refine z_pushJ gp_251_42 ?_
    refine z_isub (e := (J 42 3) - 1) gi_251_43 rfl ?_
    refine z_cS3 gi_251_44 (Nat.le_of_ble_eq_true rfl) gc_148_III ?_
    refine z_iload0 gi_148_0 ?_
    refine z_iload1 gi_148_1 ?_
    refine z_icmp_ltT gi_148_2 (by omega) zr_0 (by omega) ?_
    refine z_pushJ gp_148_14 ?_
    refine z_bret0 gi_148_15 gr_148 ?_
    show zW _ _ _ _ _ _ _ _ _ _
    refine z_if_eqT gi_251_47 zr_0 (by decide) ?_
    refine z_pushJ gp_251_54 ?_
    refine z_iret gi_251_56 gr_251 ?_
    show zW _ _ _ _ _ _ _ _ _ _
    refine z_istore (ls1 := [some (.ref 50), some (zi 2), some (zi i), some (zl v), none, some (zi (-13)), none]) gi_252_6 rfl ?_
    refine z_iload5 gi_252_8 ?_
    refine z_if_geF gi_252_10 zrn_13 (by decide) ?_
    refine z_iload5 gi_252_13 ?_
    refine z_iret gi_252_15 gr_252 ?_
    refine ⟨?_, ?_⟩
    · first | rfl | exact congrArg (fun v => some (zi v)) (by omega) | (exfalso; omega)
    · exact hr
  · refine z_iload1 gi_70_25 ?_
    refine z_aload0 gi_70_26 ?_
    refine z_getI (v := J 42 3) gi_70_27 gk_42 (rfl) ?_
    refine z_icmp_ge gi_70_30 (by omega) (by omega) (fun h2 => ?_) (fun h2 => ?_)
    · refine z_pushJ gp_70_37 ?_
      refine z_iret gi_70_39 gr_70 ?_
      show zW _ _ _ _ _ _ _ _ _ _
      refine z_istore (ls1 := [some (.ref 0), some (zi 2), some (zi i), some (zl v), none, some (zi (-13))]) gi_138_19 rfl ?_
      refine z_iload5 gi_138_21 ?_
      refine z_if_geF gi_138_23 zrn_13 (by decide) ?_
      refine z_iload5 gi_138_26 ?_
      refine z_iret gi_138_28 gr_138 ?_
      refine ⟨_, rfl, ?_⟩
      show zW _ _ _ _ [some (.ref 50), some (zi 2), some (zi i), some (zl v), none, none, none] _ _ _ _ _
      refine z_aload0 gi_252_0 ?_
      refine z_iload1 gi_252_1 ?_
      refine z_iload2 gi_252_2 ?_
      refine z_cV2 gi_252_3 gk_50 go_251 (Nat.le_of_ble_eq_true rfl) gc_251_RII ?_
      refine z_iload1 gi_251_0 ?_
      refine z_cS1 gi_251_1 (Nat.le_of_ble_eq_true rfl) gc_248_I ?_
      refine z_iload0 gi_248_0 ?_
      refine z_pushJ gp_248_1 ?_
      refine z_pushJ gp_248_2 ?_
      refine z_cS3 gi_248_3 (Nat.le_of_ble_eq_true rfl) gc_148_III ?_
      refine z_iload0 gi_148_0 ?_
      refine z_iload1 gi_148_1 ?_
      refine z_icmp_ltF gi_148_2 zr_2 zr_0 (by decide) ?_
      refine z_iload0 gi_148_5 ?_
      refine z_iload2 gi_148_6 ?_
      refine z_icmp_gtF gi_148_7 zr_2 zr_5 (by decide) ?_
      refine z_pushJ gp_148_10 ?_
      refine z_goto gi_148_11 ?_
      refine z_bret1 gi_148_15 gr_148 ?_
      show zW _ _ _ _ _ _ _ _ _ _
      refine z_bret1 gi_248_6 gr_248 ?_
      show zW _ _ _ _ _ _ _ _ _ _
      refine z_if_neT gi_251_4 zr_1 (by decide) ?_
      refine z_aload0 gi_251_9 ?_
      refine z_getR (r := 83) gi_251_10 gk_50 (hRr _ rm_50_58 (by decide)) ?_
      refine z_iload1 gi_251_13 ?_
      refine z_iald (v := (-6)) gi_251_14 gk_83 (by decide) (by decide) ((e83.trans (by rw [hso]; rfl))) ?_
      refine z_pushJ gp_251_15 ?_
      refine z_icmp_neT gi_251_16 zrn_6 zrn_1 (by decide) ?_
      refine z_aload0 gi_251_22 ?_
      refine z_getR (r := 83) gi_251_23 gk_50 (hRr _ rm_50_58 (by decide)) ?_
      refine z_iload1 gi_251_26 ?_
      refine z_iald (v := (-6)) gi_251_27 gk_83 (by decide) (by decide) ((e83.trans (by rw [hso]; rfl))) ?_
      refine z_if_ltT gi_251_28 zrn_6 (by decide) ?_
      refine z_iload2 gi_251_34 ?_
      refine z_pushJ gp_251_35 ?_
      refine z_aload0 gi_251_36 ?_
      refine z_getR (r := 84) gi_251_37 gk_50 (hRr _ rm_50_59 (by decide)) ?_
      refine z_iload1 gi_251_40 ?_
      refine z_iald (v := J 42 3) gi_251_41 gk_84 (by decide) (by decide) (s7) ?_
      refine z_pushJ gp_251_42 ?_
      refine z_isub (e := (J 42 3) - 1) gi_251_43 rfl ?_
      refine z_cS3 gi_251_44 (Nat.le_of_ble_eq_true rfl) gc_148_III ?_
      refine z_iload0 gi_148_0 ?_
      refine z_iload1 gi_148_1 ?_
      refine z_icmp_ltF gi_148_2 (by omega) zr_0 (by omega) ?_
      refine z_iload0 gi_148_5 ?_
      refine z_iload2 gi_148_6 ?_
      refine z_icmp_gtT gi_148_7 (by omega) (by omega) (by omega) ?_
      refine z_pushJ gp_148_14 ?_
      refine z_bret0 gi_148_15 gr_148 ?_
      show zW _ _ _ _ _ _ _ _ _ _
      refine z_if_eqT gi_251_47 zr_0 (by decide) ?_
      refine z_pushJ gp_251_54 ?_
      refine z_iret gi_251_56 gr_251 ?_
      show zW _ _ _ _ _ _ _ _ _ _
      refine z_istore (ls1 := [some (.ref 50), some (zi 2), some (zi i), some (zl v), none, some (zi (-13)), none]) gi_252_6 rfl ?_
      refine z_iload5 gi_252_8 ?_
      refine z_if_geF gi_252_10 zrn_13 (by decide) ?_
      refine z_iload5 gi_252_13 ?_
      refine z_iret gi_252_15 gr_252 ?_
      refine ⟨?_, ?_⟩
      · first | rfl | exact congrArg (fun v => some (zi v)) (by omega) | (exfalso; omega)
      · exact hr
    · refine z_pushJ gp_70_33 ?_
      refine z_goto gi_70_34 ?_
      refine z_iret gi_70_39 gr_70 ?_
      show zW _ _ _ _ _ _ _ _ _ _
      refine z_istore (ls1 := [some (.ref 0), some (zi 2), some (zi i), some (zl v), none, some (zi 0)]) gi_138_19 rfl ?_
      refine z_iload5 gi_138_21 ?_
      refine z_if_geT gi_138_23 zr_0 (by decide) ?_
      refine z_aload0 gi_138_29 ?_
      refine z_getR (r := 37) gi_138_30 gk_0 (hR _ rm_0_11) ?_
      refine z_iload1 gi_138_33 ?_
      refine z_aald (r := 42) gi_138_34 rfl (by decide) (by decide) (hR _ rm_37_2) ?_
      refine z_iload2 gi_138_35 ?_
      refine z_lload3 gi_138_36 ?_
      refine z_callVi (As := [_, _]) (le := [some _, some _, some _, none]) gi_138_37 rfl gk_42 (Nat.le_of_ble_eq_true rfl) (Nat.le_of_ble_eq_true rfl) rfl ?_
      refine z_iload1 gi_73_0 ?_
      refine z_if_ltF gi_73_1 (by omega) (by omega) ?_
      refine z_iload1 gi_73_4 ?_
      refine z_aload0 gi_73_5 ?_
      refine z_getI (v := J 42 3) gi_73_6 gk_42 (rfl) ?_
      refine z_icmp_geF gi_73_9 (by omega) (by omega) (by omega) ?_
      refine z_aload0 gi_73_12 ?_
      refine z_getR (r := 43) gi_73_13 gk_42 (hR _ rm_42_4) ?_
      refine z_iload1 gi_73_16 ?_
      refine z_aload0 gi_73_17 ?_
      refine z_lload2 gi_73_18 ?_
      refine z_callVi (As := [_]) (le := [some _, some _, none]) gi_73_19 rfl gk_42 (Nat.le_of_ble_eq_true rfl) (Nat.le_of_ble_eq_true rfl) rfl ?_
      refine z_aload0 gi_74_0 ?_
      refine z_getI (v := 4) gi_74_1 gk_42 (hso) ?_
      refine z_swI (tg := 54) gi_74_4 (by decide) (T := [((0 : Int), 40), ((1 : Int), 45), ((2 : Int), 50), ((3 : Int), 66), ((4 : Int), 54)]) rfl (by decide) ?_
      refine z_lload1 gi_74_54 ?_
      refine z_pushL (z := 0) gi_74_55 rfl ?_
      refine z_lcmp_eq gi_74_56 gi_74_57 (by omega) (by omega) (fun h3 => ?_) (fun h3 => ?_)
      · refine z_pushL (z := 0) gi_74_64 rfl ?_
        refine z_lret gi_74_65 gr_74 ?_
        show zW _ _ _ _ _ _ _ _ _ _
        refine z_last (e := 0) gi_73_22 gk_43 (by decide) (by omega) rfl ?_
        refine z_vret gi_73_23 gr_73 ?_
        show zW _ _ _ _ _ _ _ _ _ _
        refine z_pushJ gp_138_40 ?_
        refine z_iret gi_138_41 gr_138 ?_
        refine ⟨_, rfl, ?_⟩
        show zW _ _ _ _ [some (.ref 50), some (zi 2), some (zi i), some (zl v), none, none, none] _ _ _ _ _
        refine z_aload0 gi_252_0 ?_
        refine z_iload1 gi_252_1 ?_
        refine z_iload2 gi_252_2 ?_
        refine z_cV2 gi_252_3 gk_50 go_251 (Nat.le_of_ble_eq_true rfl) gc_251_RII ?_
        refine z_iload1 gi_251_0 ?_
        refine z_cS1 gi_251_1 (Nat.le_of_ble_eq_true rfl) gc_248_I ?_
        refine z_iload0 gi_248_0 ?_
        refine z_pushJ gp_248_1 ?_
        refine z_pushJ gp_248_2 ?_
        refine z_cS3 gi_248_3 (Nat.le_of_ble_eq_true rfl) gc_148_III ?_
        refine z_iload0 gi_148_0 ?_
        refine z_iload1 gi_148_1 ?_
        refine z_icmp_ltF gi_148_2 zr_2 zr_0 (by decide) ?_
        refine z_iload0 gi_148_5 ?_
        refine z_iload2 gi_148_6 ?_
        refine z_icmp_gtF gi_148_7 zr_2 zr_5 (by decide) ?_
        refine z_pushJ gp_148_10 ?_
        refine z_goto gi_148_11 ?_
        refine z_bret1 gi_148_15 gr_148 ?_
        show zW _ _ _ _ _ _ _ _ _ _
        refine z_bret1 gi_248_6 gr_248 ?_
        show zW _ _ _ _ _ _ _ _ _ _
        refine z_if_neT gi_251_4 zr_1 (by decide) ?_
        refine z_aload0 gi_251_9 ?_
        refine z_getR (r := 83) gi_251_10 gk_50 (hRr _ rm_50_58 (by decide)) ?_
        refine z_iload1 gi_251_13 ?_
        refine z_iald (v := (-6)) gi_251_14 gk_83 (by decide) (by decide) ((e83.trans (by rw [hso]; rfl))) ?_
        refine z_pushJ gp_251_15 ?_
        refine z_icmp_neT gi_251_16 zrn_6 zrn_1 (by decide) ?_
        refine z_aload0 gi_251_22 ?_
        refine z_getR (r := 83) gi_251_23 gk_50 (hRr _ rm_50_58 (by decide)) ?_
        refine z_iload1 gi_251_26 ?_
        refine z_iald (v := (-6)) gi_251_27 gk_83 (by decide) (by decide) ((e83.trans (by rw [hso]; rfl))) ?_
        refine z_if_ltT gi_251_28 zrn_6 (by decide) ?_
        refine z_iload2 gi_251_34 ?_
        refine z_pushJ gp_251_35 ?_
        refine z_aload0 gi_251_36 ?_
        refine z_getR (r := 84) gi_251_37 gk_50 (hRr _ rm_50_59 (by decide)) ?_
        refine z_iload1 gi_251_40 ?_
        refine z_iald (v := J 42 3) gi_251_41 gk_84 (by decide) (by decide) (s7) ?_
        refine z_pushJ gp_251_42 ?_
        refine z_isub (e := (J 42 3) - 1) gi_251_43 rfl ?_
        refine z_cS3 gi_251_44 (Nat.le_of_ble_eq_true rfl) gc_148_III ?_
        refine z_iload0 gi_148_0 ?_
        refine z_iload1 gi_148_1 ?_
        refine z_icmp_ltF gi_148_2 (by omega) zr_0 (by omega) ?_
        refine z_iload0 gi_148_5 ?_
        refine z_iload2 gi_148_6 ?_
        refine z_icmp_gtF gi_148_7 (by omega) (by omega) (by omega) ?_
        refine z_pushJ gp_148_10 ?_
        refine z_goto gi_148_11 ?_
        refine z_bret1 gi_148_15 gr_148 ?_
        show zW _ _ _ _ _ _ _ _ _ _
        refine z_if_eqF gi_251_47 zr_1 (by decide) ?_
        refine z_pushJ gp_251_50 ?_
        refine z_goto gi_251_51 ?_
        refine z_iret gi_251_56 gr_251 ?_
        show zW _ _ _ _ _ _ _ _ _ _
        refine z_istore (ls1 := [some (.ref 50), some (zi 2), some (zi i), some (zl v), none, some (zi 0), none]) gi_252_6 rfl ?_
        refine z_iload5 gi_252_8 ?_
        refine z_if_geT gi_252_10 zr_0 (by decide) ?_
        refine z_pushJ gp_252_16 ?_
        refine z_aload0 gi_252_18 ?_
        refine z_getR (r := 83) gi_252_19 gk_50 (hRr _ rm_50_58 (by decide)) ?_
        refine z_iload1 gi_252_22 ?_
        refine z_iald (v := (-6)) gi_252_23 gk_83 (by decide) (by decide) ((e83.trans (by rw [hso]; rfl))) ?_
        refine z_isub (e := 4) gi_252_24 rfl ?_
        refine z_istore (ls1 := [some (.ref 50), some (zi 2), some (zi i), some (zl v), none, some (zi 0), some (zi 4)]) gi_252_25 rfl ?_
        refine z_aload0 gi_252_27 ?_
        refine z_getR (r := 85) gi_252_28 gk_50 (hRr _ rm_50_60 (by decide)) ?_
        refine z_pushJ gp_252_31 ?_
        refine z_iload1 gi_252_33 ?_
        refine z_imul (e := 120) gi_252_34 rfl ?_
        refine z_iload2 gi_252_35 ?_
        refine z_iadd (e := 120 + i) gi_252_36 rfl ?_
        refine z_iload6 gi_252_37 ?_
        refine z_if_neT gi_252_39 zr_4 (by decide) ?_
        refine z_iload6 gi_252_49 ?_
        refine z_pushJ gp_252_51 ?_
        refine z_icmp_neT gi_252_52 zr_4 zr_1 (by decide) ?_
        refine z_iload6 gi_252_62 ?_
        refine z_pushJ gp_252_64 ?_
        refine z_icmp_neT gi_252_65 zr_4 zr_2 (by decide) ?_
        refine z_iload6 gi_252_74 ?_
        refine z_pushJ gp_252_76 ?_
        refine z_icmp_neT gi_252_77 zr_4 zr_3 (by decide) ?_
        refine z_lload3 gi_252_84 ?_
        refine z_pushL (z := 0) gi_252_85 rfl ?_
        refine z_lcmp_eq gi_252_86 gi_252_87 (by omega) (by omega) (fun h4 => ?_) (fun h4 => ?_)
        · refine z_pushL (z := 0) gi_252_94 rfl ?_
          refine z_last (e := 0) gi_252_95 gk_85 (by decide) (by omega) rfl ?_
          refine z_pushJ gp_252_96 ?_
          refine z_iret gi_252_97 gr_252 ?_
          refine ⟨?_, ?_⟩
          · first | rfl | exact congrArg (fun v => some (zi v)) (by omega) | (exfalso; omega)
          · have hk := (zK_r (k := (kL [] [])) (A := J))
            have hkm := (zK_x (a := 85) (x := 120 + i) (v := 0) (zK_x (a := 43) (x := i) (v := 0) (zK_r (k := (kL [43, 85] [])) (A := M)) rfl) rfl)
            exact ⟨hR, hG, RelY_k hk (by repeat' constructor) (fun p => by repeat' constructor) hY, RelD_k hk (by repeat' constructor) (fun p => by repeat' constructor) hD, RelP_k hk (by repeat' constructor) (fun p => by repeat' constructor) hP, RelC_k hk (by repeat' constructor) (fun p => by repeat' constructor) hC, RelA_k hk (by repeat' constructor) (fun p => by repeat' constructor) hAc, (RelS_one (J := J) (M := M) (c := 2) (fun t t1 t2 te => by have q : t = 0 ∨ t = 1 ∨ t = 2 ∨ t = 3 ∨ t = 4 ∨ t = 5 := (by omega); rcases q with rfl | rfl | rfl | rfl | rfl | rfl <;> first | exact absurd rfl te | exact ⟨fun j => rfl, rfl, rfl⟩) (fun t t1 t2 te => by have q : t = 0 ∨ t = 1 ∨ t = 2 ∨ t = 3 ∨ t = 4 ∨ t = 5 := (by omega); rcases q with rfl | rfl | rfl | rfl | rfl | rfl <;> first | exact absurd rfl te | exact ⟨fun j => rfl, fun j j1 j2 => (zU_x (by omega)).trans (zU_n (by decide))⟩) rfl (show RelS1 _ _ _ from ⟨(hS 2 (by decide) (by decide)).1, (hS 2 (by decide) (by decide)).2.1, s3, s4, (hS 2 (by decide) (by decide)).2.2.2.2.1, fun _ => ⟨s7.symm, fun k k1 k2 => by show (if k = i then 0 else M 43 k) = (if 120 + k = 120 + i then 0 else M 85 (120 + k)); by_cases e : k = i; rw [if_pos e, if_pos (by omega)]; rw [if_neg e, if_neg (by omega)]; exact s8 k k1 k2, (fun hq => absurd (Eq.trans (Eq.symm hq) hso) (by decide))⟩⟩) hS), RelT_k hk (by repeat' constructor) (fun p => by repeat' constructor) hTp, RelX_k hk (by repeat' constructor) (fun p => by repeat' constructor) hX, RelW_k hk ⟨rfl, rfl⟩ trivial hW⟩
        · refine z_pushL (z := 1) gi_252_90 rfl ?_
          refine z_goto gi_252_91 ?_
          refine z_last (e := 1) gi_252_95 gk_85 (by decide) (by omega) rfl ?_
          refine z_pushJ gp_252_96 ?_
          refine z_iret gi_252_97 gr_252 ?_
          refine ⟨?_, ?_⟩
          · first | rfl | exact congrArg (fun v => some (zi v)) (by omega) | (exfalso; omega)
          · exfalso
            omega
      · refine z_pushL (z := 1) gi_74_60 rfl ?_
        refine z_goto gi_74_61 ?_
        refine z_lret gi_74_65 gr_74 ?_
        show zW _ _ _ _ _ _ _ _ _ _
        refine z_last (e := 1) gi_73_22 gk_43 (by decide) (by omega) rfl ?_
        refine z_vret gi_73_23 gr_73 ?_
        show zW _ _ _ _ _ _ _ _ _ _
        refine z_pushJ gp_138_40 ?_
        refine z_iret gi_138_41 gr_138 ?_
        refine ⟨_, rfl, ?_⟩
        show zW _ _ _ _ [some (.ref 50), some (zi 2), some (zi i), some (zl v), none, none, none] _ _ _ _ _
        refine z_aload0 gi_252_0 ?_
        refine z_iload1 gi_252_1 ?_
        refine z_iload2 gi_252_2 ?_
        refine z_cV2 gi_252_3 gk_50 go_251 (Nat.le_of_ble_eq_true rfl) gc_251_RII ?_
        refine z_iload1 gi_251_0 ?_
        refine z_cS1 gi_251_1 (Nat.le_of_ble_eq_true rfl) gc_248_I ?_
        refine z_iload0 gi_248_0 ?_
        refine z_pushJ gp_248_1 ?_
        refine z_pushJ gp_248_2 ?_
        refine z_cS3 gi_248_3 (Nat.le_of_ble_eq_true rfl) gc_148_III ?_
        refine z_iload0 gi_148_0 ?_
        refine z_iload1 gi_148_1 ?_
        refine z_icmp_ltF gi_148_2 zr_2 zr_0 (by decide) ?_
        refine z_iload0 gi_148_5 ?_
        refine z_iload2 gi_148_6 ?_
        refine z_icmp_gtF gi_148_7 zr_2 zr_5 (by decide) ?_
        refine z_pushJ gp_148_10 ?_
        refine z_goto gi_148_11 ?_
        refine z_bret1 gi_148_15 gr_148 ?_
        show zW _ _ _ _ _ _ _ _ _ _
        refine z_bret1 gi_248_6 gr_248 ?_
        show zW _ _ _ _ _ _ _ _ _ _
        refine z_if_neT gi_251_4 zr_1 (by decide) ?_
        refine z_aload0 gi_251_9 ?_
        refine z_getR (r := 83) gi_251_10 gk_50 (hRr _ rm_50_58 (by decide)) ?_
        refine z_iload1 gi_251_13 ?_
        refine z_iald (v := (-6)) gi_251_14 gk_83 (by decide) (by decide) ((e83.trans (by rw [hso]; rfl))) ?_
        refine z_pushJ gp_251_15 ?_
        refine z_icmp_neT gi_251_16 zrn_6 zrn_1 (by decide) ?_
        refine z_aload0 gi_251_22 ?_
        refine z_getR (r := 83) gi_251_23 gk_50 (hRr _ rm_50_58 (by decide)) ?_
        refine z_iload1 gi_251_26 ?_
        refine z_iald (v := (-6)) gi_251_27 gk_83 (by decide) (by decide) ((e83.trans (by rw [hso]; rfl))) ?_
        refine z_if_ltT gi_251_28 zrn_6 (by decide) ?_
        refine z_iload2 gi_251_34 ?_
        refine z_pushJ gp_251_35 ?_
        refine z_aload0 gi_251_36 ?_
        refine z_getR (r := 84) gi_251_37 gk_50 (hRr _ rm_50_59 (by decide)) ?_
        refine z_iload1 gi_251_40 ?_
        refine z_iald (v := J 42 3) gi_251_41 gk_84 (by decide) (by decide) (s7) ?_
        refine z_pushJ gp_251_42 ?_
        refine z_isub (e := (J 42 3) - 1) gi_251_43 rfl ?_
        refine z_cS3 gi_251_44 (Nat.le_of_ble_eq_true rfl) gc_148_III ?_
        refine z_iload0 gi_148_0 ?_
        refine z_iload1 gi_148_1 ?_
        refine z_icmp_ltF gi_148_2 (by omega) zr_0 (by omega) ?_
        refine z_iload0 gi_148_5 ?_
        refine z_iload2 gi_148_6 ?_
        refine z_icmp_gtF gi_148_7 (by omega) (by omega) (by omega) ?_
        refine z_pushJ gp_148_10 ?_
        refine z_goto gi_148_11 ?_
        refine z_bret1 gi_148_15 gr_148 ?_
        show zW _ _ _ _ _ _ _ _ _ _
        refine z_if_eqF gi_251_47 zr_1 (by decide) ?_
        refine z_pushJ gp_251_50 ?_
        refine z_goto gi_251_51 ?_
        refine z_iret gi_251_56 gr_251 ?_
        show zW _ _ _ _ _ _ _ _ _ _
        refine z_istore (ls1 := [some (.ref 50), some (zi 2), some (zi i), some (zl v), none, some (zi 0), none]) gi_252_6 rfl ?_
        refine z_iload5 gi_252_8 ?_
        refine z_if_geT gi_252_10 zr_0 (by decide) ?_
        refine z_pushJ gp_252_16 ?_
        refine z_aload0 gi_252_18 ?_
        refine z_getR (r := 83) gi_252_19 gk_50 (hRr _ rm_50_58 (by decide)) ?_
        refine z_iload1 gi_252_22 ?_
        refine z_iald (v := (-6)) gi_252_23 gk_83 (by decide) (by decide) ((e83.trans (by rw [hso]; rfl))) ?_
        refine z_isub (e := 4) gi_252_24 rfl ?_
        refine z_istore (ls1 := [some (.ref 50), some (zi 2), some (zi i), some (zl v), none, some (zi 0), some (zi 4)]) gi_252_25 rfl ?_
        refine z_aload0 gi_252_27 ?_
        refine z_getR (r := 85) gi_252_28 gk_50 (hRr _ rm_50_60 (by decide)) ?_
        refine z_pushJ gp_252_31 ?_
        refine z_iload1 gi_252_33 ?_
        refine z_imul (e := 120) gi_252_34 rfl ?_
        refine z_iload2 gi_252_35 ?_
        refine z_iadd (e := 120 + i) gi_252_36 rfl ?_
        refine z_iload6 gi_252_37 ?_
        refine z_if_neT gi_252_39 zr_4 (by decide) ?_
        refine z_iload6 gi_252_49 ?_
        refine z_pushJ gp_252_51 ?_
        refine z_icmp_neT gi_252_52 zr_4 zr_1 (by decide) ?_
        refine z_iload6 gi_252_62 ?_
        refine z_pushJ gp_252_64 ?_
        refine z_icmp_neT gi_252_65 zr_4 zr_2 (by decide) ?_
        refine z_iload6 gi_252_74 ?_
        refine z_pushJ gp_252_76 ?_
        refine z_icmp_neT gi_252_77 zr_4 zr_3 (by decide) ?_
        refine z_lload3 gi_252_84 ?_
        refine z_pushL (z := 0) gi_252_85 rfl ?_
        refine z_lcmp_eq gi_252_86 gi_252_87 (by omega) (by omega) (fun h4 => ?_) (fun h4 => ?_)
        · refine z_pushL (z := 0) gi_252_94 rfl ?_
          refine z_last (e := 0) gi_252_95 gk_85 (by decide) (by omega) rfl ?_
          refine z_pushJ gp_252_96 ?_
          refine z_iret gi_252_97 gr_252 ?_
          refine ⟨?_, ?_⟩
          · first | rfl | exact congrArg (fun v => some (zi v)) (by omega) | (exfalso; omega)
          · exfalso
            omega
        · refine z_pushL (z := 1) gi_252_90 rfl ?_
          refine z_goto gi_252_91 ?_
          refine z_last (e := 1) gi_252_95 gk_85 (by decide) (by omega) rfl ?_
          refine z_pushJ gp_252_96 ?_
          refine z_iret gi_252_97 gr_252 ?_
          refine ⟨?_, ?_⟩
          · first | rfl | exact congrArg (fun v => some (zi v)) (by omega) | (exfalso; omega)
          · have hk := (zK_r (k := (kL [] [])) (A := J))
            have hkm := (zK_x (a := 85) (x := 120 + i) (v := 1) (zK_x (a := 43) (x := i) (v := 1) (zK_r (k := (kL [43, 85] [])) (A := M)) rfl) rfl)
            exact ⟨hR, hG, RelY_k hk (by repeat' constructor) (fun p => by repeat' constructor) hY, RelD_k hk (by repeat' constructor) (fun p => by repeat' constructor) hD, RelP_k hk (by repeat' constructor) (fun p => by repeat' constructor) hP, RelC_k hk (by repeat' constructor) (fun p => by repeat' constructor) hC, RelA_k hk (by repeat' constructor) (fun p => by repeat' constructor) hAc, (RelS_one (J := J) (M := M) (c := 2) (fun t t1 t2 te => by have q : t = 0 ∨ t = 1 ∨ t = 2 ∨ t = 3 ∨ t = 4 ∨ t = 5 := (by omega); rcases q with rfl | rfl | rfl | rfl | rfl | rfl <;> first | exact absurd rfl te | exact ⟨fun j => rfl, rfl, rfl⟩) (fun t t1 t2 te => by have q : t = 0 ∨ t = 1 ∨ t = 2 ∨ t = 3 ∨ t = 4 ∨ t = 5 := (by omega); rcases q with rfl | rfl | rfl | rfl | rfl | rfl <;> first | exact absurd rfl te | exact ⟨fun j => rfl, fun j j1 j2 => (zU_x (by omega)).trans (zU_n (by decide))⟩) rfl (show RelS1 _ _ _ from ⟨(hS 2 (by decide) (by decide)).1, (hS 2 (by decide) (by decide)).2.1, s3, s4, (hS 2 (by decide) (by decide)).2.2.2.2.1, fun _ => ⟨s7.symm, fun k k1 k2 => by show (if k = i then 1 else M 43 k) = (if 120 + k = 120 + i then 1 else M 85 (120 + k)); by_cases e : k = i; rw [if_pos e, if_pos (by omega)]; rw [if_neg e, if_neg (by omega)]; exact s8 k k1 k2, (fun hq => absurd (Eq.trans (Eq.symm hq) hso) (by decide))⟩⟩) hS), RelT_k hk (by repeat' constructor) (fun p => by repeat' constructor) hTp, RelX_k hk (by repeat' constructor) (fun p => by repeat' constructor) hX, RelW_k hk ⟨rfl, rfl⟩ trivial hW⟩
theorem st_element_30 {X : Nat × (Nat → Int32)} {d : Nat} {J M : zA} {R : zR} {i : Int} (hr : Rel X J M R) (hi : -2147483648 ≤ i ∧ i < 2147483648) (hh : J 44 0 = 0) : zW X (d + 20) 139 0 (gEn 139 [(.ref 0), (zi 3), (zi i)]) [] J M R (stL X (d + 20) 253 [(zi 3), (zi i)]) := by
  have hr0 := hr
  obtain ⟨hR, hG, hY, hD, hP, hC, hAc, hS, hTp, hX, hW⟩ := hr0
  have hRr : zRoR R := zRoR_of hR
  have hA0 := hAc
  obtain ⟨a1, a2, a3, a4, a5, a6⟩ := hA0
  have e83 : J 83 3 = -1 := (hS 3 (by decide) (by decide)).1.symm.trans (cH_0 hh)
  have s3 : 0 ≤ J 44 2 ∧ J 44 2 ≤ 4 := (hS 3 (by decide) (by decide)).2.2.1
  have s4 : 0 ≤ J 44 3 ∧ J 44 3 ≤ 60 := (hS 3 (by decide) (by decide)).2.2.2.1
  show zW _ _ _ _ [some (.ref 0), some (zi 3), some (zi i)] _ _ _ _ _
  refine z_iload1 gi_139_0 ?_
  refine z_cS1 gi_139_1 (Nat.le_of_ble_eq_true rfl) gc_143_I ?_
  refine z_iload0 gi_143_0 ?_
  refine z_if_ltF gi_143_1 zr_3 (by decide) ?_
  refine z_iload0 gi_143_4 ?_
  refine z_pushJ gp_143_5 ?_
  refine z_icmp_geF gi_143_7 zr_3 zr_6 (by decide) ?_
  refine z_pushJ gp_143_10 ?_
  refine z_goto gi_143_11 ?_
  refine z_bret1 gi_143_15 gr_143 ?_
  show zW _ _ _ _ _ _ _ _ _ _
  refine z_if_eqF gi_139_4 zr_1 (by decide) ?_
  refine z_aload0 gi_139_7 ?_
  refine z_getR (r := 37) gi_139_8 gk_0 (hR _ rm_0_11) ?_
  refine z_iload1 gi_139_11 ?_
  refine z_aald (r := 44) gi_139_12 rfl (by decide) (by decide) (hR _ rm_37_3) ?_
  refine z_iload2 gi_139_13 ?_
  refine z_cV1 gi_139_14 gk_44 go_70 (Nat.le_of_ble_eq_true rfl) gc_70_RI ?_
  refine z_aload0 gi_70_0 ?_
  refine z_getI (v := 0) gi_70_1 gk_44 (hh) ?_
  refine z_if_neF gi_70_4 zr_0 (by decide) ?_
  refine z_pushJ gp_70_7 ?_
  refine z_iret gi_70_9 gr_70 ?_
  show zW _ _ _ _ _ _ _ _ _ _
  refine z_if_geF gi_139_17 zrn_11 (by decide) ?_
  refine z_pushL (z := (-9223372036854775808)) gi_139_20 rfl ?_
  refine z_lret gi_139_23 gr_139 ?_
  refine ⟨_, rfl, ?_⟩
  show zW _ _ _ _ [some (.ref 50), some (zi 3), some (zi i)] _ _ _ _ _
  refine z_aload0 gi_253_0 ?_
  refine z_iload1 gi_253_1 ?_
  refine z_iload2 gi_253_2 ?_
  refine z_cV2 gi_253_3 gk_50 go_251 (Nat.le_of_ble_eq_true rfl) gc_251_RII ?_
  refine z_iload1 gi_251_0 ?_
  refine z_cS1 gi_251_1 (Nat.le_of_ble_eq_true rfl) gc_248_I ?_
  refine z_iload0 gi_248_0 ?_
  refine z_pushJ gp_248_1 ?_
  refine z_pushJ gp_248_2 ?_
  refine z_cS3 gi_248_3 (Nat.le_of_ble_eq_true rfl) gc_148_III ?_
  refine z_iload0 gi_148_0 ?_
  refine z_iload1 gi_148_1 ?_
  refine z_icmp_ltF gi_148_2 zr_3 zr_0 (by decide) ?_
  refine z_iload0 gi_148_5 ?_
  refine z_iload2 gi_148_6 ?_
  refine z_icmp_gtF gi_148_7 zr_3 zr_5 (by decide) ?_
  refine z_pushJ gp_148_10 ?_
  refine z_goto gi_148_11 ?_
  refine z_bret1 gi_148_15 gr_148 ?_
  show zW _ _ _ _ _ _ _ _ _ _
  refine z_bret1 gi_248_6 gr_248 ?_
  show zW _ _ _ _ _ _ _ _ _ _
  refine z_if_neT gi_251_4 zr_1 (by decide) ?_
  refine z_aload0 gi_251_9 ?_
  refine z_getR (r := 83) gi_251_10 gk_50 (hRr _ rm_50_58 (by decide)) ?_
  refine z_iload1 gi_251_13 ?_
  refine z_iald (v := (-1)) gi_251_14 gk_83 (by decide) (by decide) (e83) ?_
  refine z_pushJ gp_251_15 ?_
  refine z_icmp_neF gi_251_16 zrn_1 zrn_1 (by decide) ?_
  refine z_pushJ gp_251_19 ?_
  refine z_iret gi_251_21 gr_251 ?_
  show zW _ _ _ _ _ _ _ _ _ _
  refine z_if_geF gi_253_6 zrn_11 (by decide) ?_
  refine z_pushL (z := (-9223372036854775808)) gi_253_9 rfl ?_
  refine z_goto gi_253_12 ?_
  refine z_lret gi_253_26 gr_253 ?_
  refine ⟨?_, ?_⟩
  · first | rfl | exact congrArg (fun v => some (zl v)) (by omega) | (exfalso; omega)
  · exact hr
theorem st_put_30 {X : Nat × (Nat → Int32)} {d : Nat} {J M : zA} {R : zR} {i v : Int} (hr : Rel X J M R) (hi : -2147483648 ≤ i ∧ i < 2147483648) (hv : -9223372036854775808 ≤ v ∧ v < 9223372036854775808) (hh : J 44 0 = 0) : zW X (d + 20) 138 0 (gEn 138 [(.ref 0), (zi 3), (zi i), (zl v)]) [] J M R (stP X (d + 20) 252 [(zi 3), (zi i), (zl v)]) := by
  have hr0 := hr
  obtain ⟨hR, hG, hY, hD, hP, hC, hAc, hS, hTp, hX, hW⟩ := hr0
  have hRr : zRoR R := zRoR_of hR
  have hA0 := hAc
  obtain ⟨a1, a2, a3, a4, a5, a6⟩ := hA0
  have e83 : J 83 3 = -1 := (hS 3 (by decide) (by decide)).1.symm.trans (cH_0 hh)
  have s3 : 0 ≤ J 44 2 ∧ J 44 2 ≤ 4 := (hS 3 (by decide) (by decide)).2.2.1
  have s4 : 0 ≤ J 44 3 ∧ J 44 3 ≤ 60 := (hS 3 (by decide) (by decide)).2.2.2.1
  show zW _ _ _ _ [some (.ref 0), some (zi 3), some (zi i), some (zl v), none, none] _ _ _ _ _
  refine z_iload1 gi_138_0 ?_
  refine z_cS1 gi_138_1 (Nat.le_of_ble_eq_true rfl) gc_143_I ?_
  refine z_iload0 gi_143_0 ?_
  refine z_if_ltF gi_143_1 zr_3 (by decide) ?_
  refine z_iload0 gi_143_4 ?_
  refine z_pushJ gp_143_5 ?_
  refine z_icmp_geF gi_143_7 zr_3 zr_6 (by decide) ?_
  refine z_pushJ gp_143_10 ?_
  refine z_goto gi_143_11 ?_
  refine z_bret1 gi_143_15 gr_143 ?_
  show zW _ _ _ _ _ _ _ _ _ _
  refine z_if_neT gi_138_4 zr_1 (by decide) ?_
  refine z_aload0 gi_138_9 ?_
  refine z_getR (r := 37) gi_138_10 gk_0 (hR _ rm_0_11) ?_
  refine z_iload1 gi_138_13 ?_
  refine z_aald (r := 44) gi_138_14 rfl (by decide) (by decide) (hR _ rm_37_3) ?_
  refine z_iload2 gi_138_15 ?_
  refine z_cV1 gi_138_16 gk_44 go_70 (Nat.le_of_ble_eq_true rfl) gc_70_RI ?_
  refine z_aload0 gi_70_0 ?_
  refine z_getI (v := 0) gi_70_1 gk_44 (hh) ?_
  refine z_if_neF gi_70_4 zr_0 (by decide) ?_
  refine z_pushJ gp_70_7 ?_
  refine z_iret gi_70_9 gr_70 ?_
  show zW _ _ _ _ _ _ _ _ _ _
  refine z_istore (ls1 := [some (.ref 0), some (zi 3), some (zi i), some (zl v), none, some (zi (-11))]) gi_138_19 rfl ?_
  refine z_iload5 gi_138_21 ?_
  refine z_if_geF gi_138_23 zrn_11 (by decide) ?_
  refine z_iload5 gi_138_26 ?_
  refine z_iret gi_138_28 gr_138 ?_
  refine ⟨_, rfl, ?_⟩
  show zW _ _ _ _ [some (.ref 50), some (zi 3), some (zi i), some (zl v), none, none, none] _ _ _ _ _
  refine z_aload0 gi_252_0 ?_
  refine z_iload1 gi_252_1 ?_
  refine z_iload2 gi_252_2 ?_
  refine z_cV2 gi_252_3 gk_50 go_251 (Nat.le_of_ble_eq_true rfl) gc_251_RII ?_
  refine z_iload1 gi_251_0 ?_
  refine z_cS1 gi_251_1 (Nat.le_of_ble_eq_true rfl) gc_248_I ?_
  refine z_iload0 gi_248_0 ?_
  refine z_pushJ gp_248_1 ?_
  refine z_pushJ gp_248_2 ?_
  refine z_cS3 gi_248_3 (Nat.le_of_ble_eq_true rfl) gc_148_III ?_
  refine z_iload0 gi_148_0 ?_
  refine z_iload1 gi_148_1 ?_
  refine z_icmp_ltF gi_148_2 zr_3 zr_0 (by decide) ?_
  refine z_iload0 gi_148_5 ?_
  refine z_iload2 gi_148_6 ?_
  refine z_icmp_gtF gi_148_7 zr_3 zr_5 (by decide) ?_
  refine z_pushJ gp_148_10 ?_
  refine z_goto gi_148_11 ?_
  refine z_bret1 gi_148_15 gr_148 ?_
  show zW _ _ _ _ _ _ _ _ _ _
  refine z_bret1 gi_248_6 gr_248 ?_
  show zW _ _ _ _ _ _ _ _ _ _
  refine z_if_neT gi_251_4 zr_1 (by decide) ?_
  refine z_aload0 gi_251_9 ?_
  refine z_getR (r := 83) gi_251_10 gk_50 (hRr _ rm_50_58 (by decide)) ?_
  refine z_iload1 gi_251_13 ?_
  refine z_iald (v := (-1)) gi_251_14 gk_83 (by decide) (by decide) (e83) ?_
  refine z_pushJ gp_251_15 ?_
  refine z_icmp_neF gi_251_16 zrn_1 zrn_1 (by decide) ?_
  refine z_pushJ gp_251_19 ?_
  refine z_iret gi_251_21 gr_251 ?_
  show zW _ _ _ _ _ _ _ _ _ _
  refine z_istore (ls1 := [some (.ref 50), some (zi 3), some (zi i), some (zl v), none, some (zi (-11)), none]) gi_252_6 rfl ?_
  refine z_iload5 gi_252_8 ?_
  refine z_if_geF gi_252_10 zrn_11 (by decide) ?_
  refine z_iload5 gi_252_13 ?_
  refine z_iret gi_252_15 gr_252 ?_
  refine ⟨?_, ?_⟩
  · first | rfl | exact congrArg (fun v => some (zi v)) (by omega) | (exfalso; omega)
  · exact hr
theorem st_element_31 {X : Nat × (Nat → Int32)} {d : Nat} {J M : zA} {R : zR} {i : Int} (hr : Rel X J M R) (hi : -2147483648 ≤ i ∧ i < 2147483648) (hh : J 44 0 = 1) : zW X (d + 20) 139 0 (gEn 139 [(.ref 0), (zi 3), (zi i)]) [] J M R (stL X (d + 20) 253 [(zi 3), (zi i)]) := by
  have hr0 := hr
  obtain ⟨hR, hG, hY, hD, hP, hC, hAc, hS, hTp, hX, hW⟩ := hr0
  have hRr : zRoR R := zRoR_of hR
  have hA0 := hAc
  obtain ⟨a1, a2, a3, a4, a5, a6⟩ := hA0
  have e83 : J 83 3 = J 44 1 := (hS 3 (by decide) (by decide)).1.symm.trans (cH_1 hh)
  have s3 : 0 ≤ J 44 2 ∧ J 44 2 ≤ 4 := (hS 3 (by decide) (by decide)).2.2.1
  have s4 : 0 ≤ J 44 3 ∧ J 44 3 ≤ 60 := (hS 3 (by decide) (by decide)).2.2.2.1
  have s5 : 0 ≤ J 44 1 ∧ J 44 1 < J 34 1 := (hS 3 (by decide) (by decide)).2.2.2.2.1 hh
  show zW _ _ _ _ [some (.ref 0), some (zi 3), some (zi i)] _ _ _ _ _
  refine z_iload1 gi_139_0 ?_
  refine z_cS1 gi_139_1 (Nat.le_of_ble_eq_true rfl) gc_143_I ?_
  refine z_iload0 gi_143_0 ?_
  refine z_if_ltF gi_143_1 zr_3 (by decide) ?_
  refine z_iload0 gi_143_4 ?_
  refine z_pushJ gp_143_5 ?_
  refine z_icmp_geF gi_143_7 zr_3 zr_6 (by decide) ?_
  refine z_pushJ gp_143_10 ?_
  refine z_goto gi_143_11 ?_
  refine z_bret1 gi_143_15 gr_143 ?_
  show zW _ _ _ _ _ _ _ _ _ _
  refine z_if_eqF gi_139_4 zr_1 (by decide) ?_
  refine z_aload0 gi_139_7 ?_
  refine z_getR (r := 37) gi_139_8 gk_0 (hR _ rm_0_11) ?_
  refine z_iload1 gi_139_11 ?_
  refine z_aald (r := 44) gi_139_12 rfl (by decide) (by decide) (hR _ rm_37_3) ?_
  refine z_iload2 gi_139_13 ?_
  refine z_cV1 gi_139_14 gk_44 go_70 (Nat.le_of_ble_eq_true rfl) gc_70_RI ?_
  refine z_aload0 gi_70_0 ?_
  refine z_getI (v := 1) gi_70_1 gk_44 (hh) ?_
  refine z_if_neT gi_70_4 zr_1 (by decide) ?_
  refine z_aload0 gi_70_10 ?_
  refine z_getI (v := 1) gi_70_11 gk_44 (hh) ?_
  refine z_pushJ gp_70_14 ?_
  refine z_icmp_eqF gi_70_15 zr_1 zr_2 (by decide) ?_
  refine z_pushJ gp_70_18 ?_
  refine z_iret gi_70_20 gr_70 ?_
  show zW _ _ _ _ _ _ _ _ _ _
  refine z_if_geF gi_139_17 zrn_12 (by decide) ?_
  refine z_pushL (z := (-9223372036854775808)) gi_139_20 rfl ?_
  refine z_lret gi_139_23 gr_139 ?_
  refine ⟨_, rfl, ?_⟩
  show zW _ _ _ _ [some (.ref 50), some (zi 3), some (zi i)] _ _ _ _ _
  refine z_aload0 gi_253_0 ?_
  refine z_iload1 gi_253_1 ?_
  refine z_iload2 gi_253_2 ?_
  refine z_cV2 gi_253_3 gk_50 go_251 (Nat.le_of_ble_eq_true rfl) gc_251_RII ?_
  refine z_iload1 gi_251_0 ?_
  refine z_cS1 gi_251_1 (Nat.le_of_ble_eq_true rfl) gc_248_I ?_
  refine z_iload0 gi_248_0 ?_
  refine z_pushJ gp_248_1 ?_
  refine z_pushJ gp_248_2 ?_
  refine z_cS3 gi_248_3 (Nat.le_of_ble_eq_true rfl) gc_148_III ?_
  refine z_iload0 gi_148_0 ?_
  refine z_iload1 gi_148_1 ?_
  refine z_icmp_ltF gi_148_2 zr_3 zr_0 (by decide) ?_
  refine z_iload0 gi_148_5 ?_
  refine z_iload2 gi_148_6 ?_
  refine z_icmp_gtF gi_148_7 zr_3 zr_5 (by decide) ?_
  refine z_pushJ gp_148_10 ?_
  refine z_goto gi_148_11 ?_
  refine z_bret1 gi_148_15 gr_148 ?_
  show zW _ _ _ _ _ _ _ _ _ _
  refine z_bret1 gi_248_6 gr_248 ?_
  show zW _ _ _ _ _ _ _ _ _ _
  refine z_if_neT gi_251_4 zr_1 (by decide) ?_
  refine z_aload0 gi_251_9 ?_
  refine z_getR (r := 83) gi_251_10 gk_50 (hRr _ rm_50_58 (by decide)) ?_
  refine z_iload1 gi_251_13 ?_
  refine z_iald (v := J 44 1) gi_251_14 gk_83 (by decide) (by decide) (e83) ?_
  refine z_pushJ gp_251_15 ?_
  refine z_icmp_ne gi_251_16 (by omega) zrn_1 (fun h1 => ?_) (fun h1 => ?_)
  · refine z_aload0 gi_251_22 ?_
    refine z_getR (r := 83) gi_251_23 gk_50 (hRr _ rm_50_58 (by decide)) ?_
    refine z_iload1 gi_251_26 ?_
    refine z_iald (v := J 44 1) gi_251_27 gk_83 (by decide) (by decide) (e83) ?_
    refine z_if_lt gi_251_28 (by omega) (fun h2 => ?_) (fun h2 => ?_)
    · refine z_iload2 gi_251_34 ?_
      refine z_pushJ gp_251_35 ?_
      refine z_aload0 gi_251_36 ?_
      refine z_getR (r := 84) gi_251_37 gk_50 (hRr _ rm_50_59 (by decide)) ?_
      refine z_iload1 gi_251_40 ?_
      refine z_iald (v := J 84 3) gi_251_41 gk_84 (by decide) (by decide) (rfl) ?_
      refine z_pushJ gp_251_42 ?_
      refine z_isub (e := (J 84 3) - 1) gi_251_43 rfl ?_
      refine z_cS3 gi_251_44 (Nat.le_of_ble_eq_true rfl) gc_148_III ?_
      refine z_iload0 gi_148_0 ?_
      refine z_iload1 gi_148_1 ?_
      refine z_icmp_lt gi_148_2 (by omega) zr_0 (fun h3 => ?_) (fun h3 => ?_)
      · refine z_pushJ gp_148_14 ?_
        refine z_bret0 gi_148_15 gr_148 ?_
        show zW _ _ _ _ _ _ _ _ _ _
        refine z_if_eqT gi_251_47 zr_0 (by decide) ?_
        refine z_pushJ gp_251_54 ?_
        refine z_iret gi_251_56 gr_251 ?_
        show zW _ _ _ _ _ _ _ _ _ _
        refine z_if_geF gi_253_6 zrn_13 (by decide) ?_
        refine z_pushL (z := (-9223372036854775808)) gi_253_9 rfl ?_
        refine z_goto gi_253_12 ?_
        refine z_lret gi_253_26 gr_253 ?_
        refine ⟨?_, ?_⟩
        · first | rfl | exact congrArg (fun v => some (zl v)) (by omega) | (exfalso; omega)
        · exact hr
      · refine z_iload0 gi_148_5 ?_
        refine z_iload2 gi_148_6 ?_
        refine z_icmp_gt gi_148_7 (by omega) (by omega) (fun h4 => ?_) (fun h4 => ?_)
        · refine z_pushJ gp_148_14 ?_
          refine z_bret0 gi_148_15 gr_148 ?_
          show zW _ _ _ _ _ _ _ _ _ _
          refine z_if_eqT gi_251_47 zr_0 (by decide) ?_
          refine z_pushJ gp_251_54 ?_
          refine z_iret gi_251_56 gr_251 ?_
          show zW _ _ _ _ _ _ _ _ _ _
          refine z_if_geF gi_253_6 zrn_13 (by decide) ?_
          refine z_pushL (z := (-9223372036854775808)) gi_253_9 rfl ?_
          refine z_goto gi_253_12 ?_
          refine z_lret gi_253_26 gr_253 ?_
          refine ⟨?_, ?_⟩
          · first | rfl | exact congrArg (fun v => some (zl v)) (by omega) | (exfalso; omega)
          · exact hr
        · refine z_pushJ gp_148_10 ?_
          refine z_goto gi_148_11 ?_
          refine z_bret1 gi_148_15 gr_148 ?_
          show zW _ _ _ _ _ _ _ _ _ _
          refine z_if_eqF gi_251_47 zr_1 (by decide) ?_
          refine z_pushJ gp_251_50 ?_
          refine z_goto gi_251_51 ?_
          refine z_iret gi_251_56 gr_251 ?_
          show zW _ _ _ _ _ _ _ _ _ _
          refine z_if_geT gi_253_6 zr_0 (by decide) ?_
          refine z_aload0 gi_253_15 ?_
          refine z_getR (r := 85) gi_253_16 gk_50 (hRr _ rm_50_60 (by decide)) ?_
          refine z_pushJ gp_253_19 ?_
          refine z_iload1 gi_253_21 ?_
          refine z_imul (e := 180) gi_253_22 rfl ?_
          refine z_iload2 gi_253_23 ?_
          refine z_iadd (e := 180 + i) gi_253_24 rfl ?_
          refine z_lald (v := M 85 (180 + i)) gi_253_25 gk_85 (by decide) (by omega) (rfl) ?_
          refine z_lret gi_253_26 gr_253 ?_
          refine ⟨?_, ?_⟩
          · first | rfl | exact congrArg (fun v => some (zl v)) (by omega) | (exfalso; omega)
          · exact hr
    · refine z_pushJ gp_251_31 ?_
      refine z_iret gi_251_33 gr_251 ?_
      show zW _ _ _ _ _ _ _ _ _ _
      refine z_if_geF gi_253_6 zrn_12 (by decide) ?_
      refine z_pushL (z := (-9223372036854775808)) gi_253_9 rfl ?_
      refine z_goto gi_253_12 ?_
      refine z_lret gi_253_26 gr_253 ?_
      refine ⟨?_, ?_⟩
      · first | rfl | exact congrArg (fun v => some (zl v)) (by omega) | (exfalso; omega)
      · exact hr
  · refine z_pushJ gp_251_19 ?_
    refine z_iret gi_251_21 gr_251 ?_
    show zW _ _ _ _ _ _ _ _ _ _
    refine z_if_geF gi_253_6 zrn_11 (by decide) ?_
    refine z_pushL (z := (-9223372036854775808)) gi_253_9 rfl ?_
    refine z_goto gi_253_12 ?_
    refine z_lret gi_253_26 gr_253 ?_
    refine ⟨?_, ?_⟩
    · first | rfl | exact congrArg (fun v => some (zl v)) (by omega) | (exfalso; omega)
    · exact hr
theorem st_put_31 {X : Nat × (Nat → Int32)} {d : Nat} {J M : zA} {R : zR} {i v : Int} (hr : Rel X J M R) (hi : -2147483648 ≤ i ∧ i < 2147483648) (hv : -9223372036854775808 ≤ v ∧ v < 9223372036854775808) (hh : J 44 0 = 1) : zW X (d + 20) 138 0 (gEn 138 [(.ref 0), (zi 3), (zi i), (zl v)]) [] J M R (stP X (d + 20) 252 [(zi 3), (zi i), (zl v)]) := by
  have hr0 := hr
  obtain ⟨hR, hG, hY, hD, hP, hC, hAc, hS, hTp, hX, hW⟩ := hr0
  have hRr : zRoR R := zRoR_of hR
  have hA0 := hAc
  obtain ⟨a1, a2, a3, a4, a5, a6⟩ := hA0
  have e83 : J 83 3 = J 44 1 := (hS 3 (by decide) (by decide)).1.symm.trans (cH_1 hh)
  have s3 : 0 ≤ J 44 2 ∧ J 44 2 ≤ 4 := (hS 3 (by decide) (by decide)).2.2.1
  have s4 : 0 ≤ J 44 3 ∧ J 44 3 ≤ 60 := (hS 3 (by decide) (by decide)).2.2.2.1
  have s5 : 0 ≤ J 44 1 ∧ J 44 1 < J 34 1 := (hS 3 (by decide) (by decide)).2.2.2.2.1 hh
  show zW _ _ _ _ [some (.ref 0), some (zi 3), some (zi i), some (zl v), none, none] _ _ _ _ _
  refine z_iload1 gi_138_0 ?_
  refine z_cS1 gi_138_1 (Nat.le_of_ble_eq_true rfl) gc_143_I ?_
  refine z_iload0 gi_143_0 ?_
  refine z_if_ltF gi_143_1 zr_3 (by decide) ?_
  refine z_iload0 gi_143_4 ?_
  refine z_pushJ gp_143_5 ?_
  refine z_icmp_geF gi_143_7 zr_3 zr_6 (by decide) ?_
  refine z_pushJ gp_143_10 ?_
  refine z_goto gi_143_11 ?_
  refine z_bret1 gi_143_15 gr_143 ?_
  show zW _ _ _ _ _ _ _ _ _ _
  refine z_if_neT gi_138_4 zr_1 (by decide) ?_
  refine z_aload0 gi_138_9 ?_
  refine z_getR (r := 37) gi_138_10 gk_0 (hR _ rm_0_11) ?_
  refine z_iload1 gi_138_13 ?_
  refine z_aald (r := 44) gi_138_14 rfl (by decide) (by decide) (hR _ rm_37_3) ?_
  refine z_iload2 gi_138_15 ?_
  refine z_cV1 gi_138_16 gk_44 go_70 (Nat.le_of_ble_eq_true rfl) gc_70_RI ?_
  refine z_aload0 gi_70_0 ?_
  refine z_getI (v := 1) gi_70_1 gk_44 (hh) ?_
  refine z_if_neT gi_70_4 zr_1 (by decide) ?_
  refine z_aload0 gi_70_10 ?_
  refine z_getI (v := 1) gi_70_11 gk_44 (hh) ?_
  refine z_pushJ gp_70_14 ?_
  refine z_icmp_eqF gi_70_15 zr_1 zr_2 (by decide) ?_
  refine z_pushJ gp_70_18 ?_
  refine z_iret gi_70_20 gr_70 ?_
  show zW _ _ _ _ _ _ _ _ _ _
  refine z_istore (ls1 := [some (.ref 0), some (zi 3), some (zi i), some (zl v), none, some (zi (-12))]) gi_138_19 rfl ?_
  refine z_iload5 gi_138_21 ?_
  refine z_if_geF gi_138_23 zrn_12 (by decide) ?_
  refine z_iload5 gi_138_26 ?_
  refine z_iret gi_138_28 gr_138 ?_
  refine ⟨_, rfl, ?_⟩
  show zW _ _ _ _ [some (.ref 50), some (zi 3), some (zi i), some (zl v), none, none, none] _ _ _ _ _
  refine z_aload0 gi_252_0 ?_
  refine z_iload1 gi_252_1 ?_
  refine z_iload2 gi_252_2 ?_
  refine z_cV2 gi_252_3 gk_50 go_251 (Nat.le_of_ble_eq_true rfl) gc_251_RII ?_
  refine z_iload1 gi_251_0 ?_
  refine z_cS1 gi_251_1 (Nat.le_of_ble_eq_true rfl) gc_248_I ?_
  refine z_iload0 gi_248_0 ?_
  refine z_pushJ gp_248_1 ?_
  refine z_pushJ gp_248_2 ?_
  refine z_cS3 gi_248_3 (Nat.le_of_ble_eq_true rfl) gc_148_III ?_
  refine z_iload0 gi_148_0 ?_
  refine z_iload1 gi_148_1 ?_
  refine z_icmp_ltF gi_148_2 zr_3 zr_0 (by decide) ?_
  refine z_iload0 gi_148_5 ?_
  refine z_iload2 gi_148_6 ?_
  refine z_icmp_gtF gi_148_7 zr_3 zr_5 (by decide) ?_
  refine z_pushJ gp_148_10 ?_
  refine z_goto gi_148_11 ?_
  refine z_bret1 gi_148_15 gr_148 ?_
  show zW _ _ _ _ _ _ _ _ _ _
  refine z_bret1 gi_248_6 gr_248 ?_
  show zW _ _ _ _ _ _ _ _ _ _
  refine z_if_neT gi_251_4 zr_1 (by decide) ?_
  refine z_aload0 gi_251_9 ?_
  refine z_getR (r := 83) gi_251_10 gk_50 (hRr _ rm_50_58 (by decide)) ?_
  refine z_iload1 gi_251_13 ?_
  refine z_iald (v := J 44 1) gi_251_14 gk_83 (by decide) (by decide) (e83) ?_
  refine z_pushJ gp_251_15 ?_
  refine z_icmp_ne gi_251_16 (by omega) zrn_1 (fun h1 => ?_) (fun h1 => ?_)
  · refine z_aload0 gi_251_22 ?_
    refine z_getR (r := 83) gi_251_23 gk_50 (hRr _ rm_50_58 (by decide)) ?_
    refine z_iload1 gi_251_26 ?_
    refine z_iald (v := J 44 1) gi_251_27 gk_83 (by decide) (by decide) (e83) ?_
    refine z_if_lt gi_251_28 (by omega) (fun h2 => ?_) (fun h2 => ?_)
    · refine z_iload2 gi_251_34 ?_
      refine z_pushJ gp_251_35 ?_
      refine z_aload0 gi_251_36 ?_
      refine z_getR (r := 84) gi_251_37 gk_50 (hRr _ rm_50_59 (by decide)) ?_
      refine z_iload1 gi_251_40 ?_
      refine z_iald (v := J 84 3) gi_251_41 gk_84 (by decide) (by decide) (rfl) ?_
      refine z_pushJ gp_251_42 ?_
      refine z_isub (e := (J 84 3) - 1) gi_251_43 rfl ?_
      refine z_cS3 gi_251_44 (Nat.le_of_ble_eq_true rfl) gc_148_III ?_
      refine z_iload0 gi_148_0 ?_
      refine z_iload1 gi_148_1 ?_
      refine z_icmp_lt gi_148_2 (by omega) zr_0 (fun h3 => ?_) (fun h3 => ?_)
      · refine z_pushJ gp_148_14 ?_
        refine z_bret0 gi_148_15 gr_148 ?_
        show zW _ _ _ _ _ _ _ _ _ _
        refine z_if_eqT gi_251_47 zr_0 (by decide) ?_
        refine z_pushJ gp_251_54 ?_
        refine z_iret gi_251_56 gr_251 ?_
        show zW _ _ _ _ _ _ _ _ _ _
        refine z_istore (ls1 := [some (.ref 50), some (zi 3), some (zi i), some (zl v), none, some (zi (-13)), none]) gi_252_6 rfl ?_
        refine z_iload5 gi_252_8 ?_
        refine z_if_geF gi_252_10 zrn_13 (by decide) ?_
        refine z_iload5 gi_252_13 ?_
        refine z_iret gi_252_15 gr_252 ?_
        refine ⟨?_, ?_⟩
        · first | rfl | exact congrArg (fun v => some (zi v)) (by omega) | (exfalso; omega)
        · exact hr
      · refine z_iload0 gi_148_5 ?_
        refine z_iload2 gi_148_6 ?_
        refine z_icmp_gt gi_148_7 (by omega) (by omega) (fun h4 => ?_) (fun h4 => ?_)
        · refine z_pushJ gp_148_14 ?_
          refine z_bret0 gi_148_15 gr_148 ?_
          show zW _ _ _ _ _ _ _ _ _ _
          refine z_if_eqT gi_251_47 zr_0 (by decide) ?_
          refine z_pushJ gp_251_54 ?_
          refine z_iret gi_251_56 gr_251 ?_
          show zW _ _ _ _ _ _ _ _ _ _
          refine z_istore (ls1 := [some (.ref 50), some (zi 3), some (zi i), some (zl v), none, some (zi (-13)), none]) gi_252_6 rfl ?_
          refine z_iload5 gi_252_8 ?_
          refine z_if_geF gi_252_10 zrn_13 (by decide) ?_
          refine z_iload5 gi_252_13 ?_
          refine z_iret gi_252_15 gr_252 ?_
          refine ⟨?_, ?_⟩
          · first | rfl | exact congrArg (fun v => some (zi v)) (by omega) | (exfalso; omega)
          · exact hr
        · refine z_pushJ gp_148_10 ?_
          refine z_goto gi_148_11 ?_
          refine z_bret1 gi_148_15 gr_148 ?_
          show zW _ _ _ _ _ _ _ _ _ _
          refine z_if_eqF gi_251_47 zr_1 (by decide) ?_
          refine z_pushJ gp_251_50 ?_
          refine z_goto gi_251_51 ?_
          refine z_iret gi_251_56 gr_251 ?_
          show zW _ _ _ _ _ _ _ _ _ _
          refine z_istore (ls1 := [some (.ref 50), some (zi 3), some (zi i), some (zl v), none, some (zi 0), none]) gi_252_6 rfl ?_
          refine z_iload5 gi_252_8 ?_
          refine z_if_geT gi_252_10 zr_0 (by decide) ?_
          refine z_pushJ gp_252_16 ?_
          refine z_aload0 gi_252_18 ?_
          refine z_getR (r := 83) gi_252_19 gk_50 (hRr _ rm_50_58 (by decide)) ?_
          refine z_iload1 gi_252_22 ?_
          refine z_iald (v := J 44 1) gi_252_23 gk_83 (by decide) (by decide) (e83) ?_
          refine z_isub (e := (-2) - (J 44 1)) gi_252_24 rfl ?_
          refine z_istore (ls1 := [some (.ref 50), some (zi 3), some (zi i), some (zl v), none, some (zi 0), some (zi ((-2) - (J 44 1)))]) gi_252_25 rfl ?_
          refine z_aload0 gi_252_27 ?_
          refine z_getR (r := 85) gi_252_28 gk_50 (hRr _ rm_50_60 (by decide)) ?_
          refine z_pushJ gp_252_31 ?_
          refine z_iload1 gi_252_33 ?_
          refine z_imul (e := 180) gi_252_34 rfl ?_
          refine z_iload2 gi_252_35 ?_
          refine z_iadd (e := 180 + i) gi_252_36 rfl ?_
          refine z_iload6 gi_252_37 ?_
          refine z_if_ne gi_252_39 (by omega) (fun h5 => ?_) (fun h5 => ?_)
          · refine z_iload6 gi_252_49 ?_
            refine z_pushJ gp_252_51 ?_
            refine z_icmp_ne gi_252_52 (by omega) zr_1 (fun h6 => ?_) (fun h6 => ?_)
            · refine z_iload6 gi_252_62 ?_
              refine z_pushJ gp_252_64 ?_
              refine z_icmp_ne gi_252_65 (by omega) zr_2 (fun h7 => ?_) (fun h7 => ?_)
              · refine z_iload6 gi_252_74 ?_
                refine z_pushJ gp_252_76 ?_
                refine z_icmp_ne gi_252_77 (by omega) zr_3 (fun h8 => ?_) (fun h8 => ?_)
                · refine z_lload3 gi_252_84 ?_
                  refine z_pushL (z := 0) gi_252_85 rfl ?_
                  refine z_lcmp_eq gi_252_86 gi_252_87 (by omega) (by omega) (fun h9 => ?_) (fun h9 => ?_)
                  · refine z_pushL (z := 0) gi_252_94 rfl ?_
                    refine z_last (e := 0) gi_252_95 gk_85 (by decide) (by omega) rfl ?_
                    refine z_pushJ gp_252_96 ?_
                    refine z_iret gi_252_97 gr_252 ?_
                    refine ⟨?_, ?_⟩
                    · first | rfl | exact congrArg (fun v => some (zi v)) (by omega) | (exfalso; omega)
                    · exfalso
                      omega
                  · refine z_pushL (z := 1) gi_252_90 rfl ?_
                    refine z_goto gi_252_91 ?_
                    refine z_last (e := 1) gi_252_95 gk_85 (by decide) (by omega) rfl ?_
                    refine z_pushJ gp_252_96 ?_
                    refine z_iret gi_252_97 gr_252 ?_
                    refine ⟨?_, ?_⟩
                    · first | rfl | exact congrArg (fun v => some (zi v)) (by omega) | (exfalso; omega)
                    · exfalso
                      omega
                · refine z_lload3 gi_252_80 ?_
                  refine z_goto gi_252_81 ?_
                  refine z_last (e := v) gi_252_95 gk_85 (by decide) (by omega) rfl ?_
                  refine z_pushJ gp_252_96 ?_
                  refine z_iret gi_252_97 gr_252 ?_
                  refine ⟨?_, ?_⟩
                  · first | rfl | exact congrArg (fun v => some (zi v)) (by omega) | (exfalso; omega)
                  · exfalso
                    omega
              · refine z_lload3 gi_252_68 ?_
                refine z_l2i gi_252_69 ?_
                refine z_topn (e := zn v) rfl ?_
                have q10 := zn_r v
                refine z_i2l gi_252_70 (by omega) ?_
                refine z_goto gi_252_71 ?_
                refine z_last (e := zn v) gi_252_95 gk_85 (by decide) (by omega) rfl ?_
                refine z_pushJ gp_252_96 ?_
                refine z_iret gi_252_97 gr_252 ?_
                refine ⟨?_, ?_⟩
                · first | rfl | exact congrArg (fun v => some (zi v)) (by omega) | (exfalso; omega)
                · exfalso
                  omega
            · refine z_lload3 gi_252_55 ?_
              refine z_l2i gi_252_56 ?_
              refine z_i2s (e := zh v) gi_252_57 rfl ?_
              have q11 := zh_r v
              refine z_i2l gi_252_58 (by omega) ?_
              refine z_goto gi_252_59 ?_
              refine z_last (e := zh v) gi_252_95 gk_85 (by decide) (by omega) rfl ?_
              refine z_pushJ gp_252_96 ?_
              refine z_iret gi_252_97 gr_252 ?_
              refine ⟨?_, ?_⟩
              · first | rfl | exact congrArg (fun v => some (zi v)) (by omega) | (exfalso; omega)
              · exfalso
                omega
          · refine z_lload3 gi_252_42 ?_
            refine z_l2i gi_252_43 ?_
            refine z_i2b (e := zb v) gi_252_44 rfl ?_
            have q12 := zb_r v
            refine z_i2l gi_252_45 (by omega) ?_
            refine z_goto gi_252_46 ?_
            refine z_last (e := zb v) gi_252_95 gk_85 (by decide) (by omega) rfl ?_
            refine z_pushJ gp_252_96 ?_
            refine z_iret gi_252_97 gr_252 ?_
            refine ⟨?_, ?_⟩
            · first | rfl | exact congrArg (fun v => some (zi v)) (by omega) | (exfalso; omega)
            · exfalso
              omega
    · refine z_pushJ gp_251_31 ?_
      refine z_iret gi_251_33 gr_251 ?_
      show zW _ _ _ _ _ _ _ _ _ _
      refine z_istore (ls1 := [some (.ref 50), some (zi 3), some (zi i), some (zl v), none, some (zi (-12)), none]) gi_252_6 rfl ?_
      refine z_iload5 gi_252_8 ?_
      refine z_if_geF gi_252_10 zrn_12 (by decide) ?_
      refine z_iload5 gi_252_13 ?_
      refine z_iret gi_252_15 gr_252 ?_
      refine ⟨?_, ?_⟩
      · first | rfl | exact congrArg (fun v => some (zi v)) (by omega) | (exfalso; omega)
      · exact hr
  · refine z_pushJ gp_251_19 ?_
    refine z_iret gi_251_21 gr_251 ?_
    show zW _ _ _ _ _ _ _ _ _ _
    refine z_istore (ls1 := [some (.ref 50), some (zi 3), some (zi i), some (zl v), none, some (zi (-11)), none]) gi_252_6 rfl ?_
    refine z_iload5 gi_252_8 ?_
    refine z_if_geF gi_252_10 zrn_11 (by decide) ?_
    refine z_iload5 gi_252_13 ?_
    refine z_iret gi_252_15 gr_252 ?_
    refine ⟨?_, ?_⟩
    · first | rfl | exact congrArg (fun v => some (zi v)) (by omega) | (exfalso; omega)
    · exact hr
theorem st_element_32 {X : Nat × (Nat → Int32)} {d : Nat} {J M : zA} {R : zR} {i : Int} (hr : Rel X J M R) (hi : -2147483648 ≤ i ∧ i < 2147483648) (hh : J 44 0 = 2) : zW X (d + 20) 139 0 (gEn 139 [(.ref 0), (zi 3), (zi i)]) [] J M R (stL X (d + 20) 253 [(zi 3), (zi i)]) := by
  have hr0 := hr
  obtain ⟨hR, hG, hY, hD, hP, hC, hAc, hS, hTp, hX, hW⟩ := hr0
  have hRr : zRoR R := zRoR_of hR
  have hA0 := hAc
  obtain ⟨a1, a2, a3, a4, a5, a6⟩ := hA0
  have e83 : J 83 3 = -2 - J 44 2 := (hS 3 (by decide) (by decide)).1.symm.trans (cH_2 hh)
  have s3 : 0 ≤ J 44 2 ∧ J 44 2 ≤ 4 := (hS 3 (by decide) (by decide)).2.2.1
  have s4 : 0 ≤ J 44 3 ∧ J 44 3 ≤ 60 := (hS 3 (by decide) (by decide)).2.2.2.1
  have s6 := (hS 3 (by decide) (by decide)).2.2.2.2.2 hh
  have s7 : J 84 3 = J 44 3 := s6.1.symm
  have s8 : ∀ i, 0 ≤ i → i < J 44 3 → M 45 i = M 85 (180 + i) := s6.2.1
  show zW _ _ _ _ [some (.ref 0), some (zi 3), some (zi i)] _ _ _ _ _
  refine z_iload1 gi_139_0 ?_
  refine z_cS1 gi_139_1 (Nat.le_of_ble_eq_true rfl) gc_143_I ?_
  refine z_iload0 gi_143_0 ?_
  refine z_if_ltF gi_143_1 zr_3 (by decide) ?_
  refine z_iload0 gi_143_4 ?_
  refine z_pushJ gp_143_5 ?_
  refine z_icmp_geF gi_143_7 zr_3 zr_6 (by decide) ?_
  refine z_pushJ gp_143_10 ?_
  refine z_goto gi_143_11 ?_
  refine z_bret1 gi_143_15 gr_143 ?_
  show zW _ _ _ _ _ _ _ _ _ _
  refine z_if_eqF gi_139_4 zr_1 (by decide) ?_
  refine z_aload0 gi_139_7 ?_
  refine z_getR (r := 37) gi_139_8 gk_0 (hR _ rm_0_11) ?_
  refine z_iload1 gi_139_11 ?_
  refine z_aald (r := 44) gi_139_12 rfl (by decide) (by decide) (hR _ rm_37_3) ?_
  refine z_iload2 gi_139_13 ?_
  refine z_cV1 gi_139_14 gk_44 go_70 (Nat.le_of_ble_eq_true rfl) gc_70_RI ?_
  refine z_aload0 gi_70_0 ?_
  refine z_getI (v := 2) gi_70_1 gk_44 (hh) ?_
  refine z_if_neT gi_70_4 zr_2 (by decide) ?_
  refine z_aload0 gi_70_10 ?_
  refine z_getI (v := 2) gi_70_11 gk_44 (hh) ?_
  refine z_pushJ gp_70_14 ?_
  refine z_icmp_eqT gi_70_15 zr_2 zr_2 (by decide) ?_
  refine z_iload1 gi_70_21 ?_
  refine z_if_lt gi_70_22 (by omega) (fun h1 => ?_) (fun h1 => ?_)
  · refine z_pushJ gp_70_37 ?_
    refine z_iret gi_70_39 gr_70 ?_
    show zW _ _ _ _ _ _ _ _ _ _
    refine z_if_geF gi_139_17 zrn_13 (by decide) ?_
    refine z_pushL (z := (-9223372036854775808)) gi_139_20 rfl ?_
    refine z_lret gi_139_23 gr_139 ?_
    refine ⟨_, rfl, ?_⟩
    show zW _ _ _ _ [some (.ref 50), some (zi 3), some (zi i)] _ _ _ _ _
    refine z_aload0 gi_253_0 ?_
    refine z_iload1 gi_253_1 ?_
    refine z_iload2 gi_253_2 ?_
    refine z_cV2 gi_253_3 gk_50 go_251 (Nat.le_of_ble_eq_true rfl) gc_251_RII ?_
    refine z_iload1 gi_251_0 ?_
    refine z_cS1 gi_251_1 (Nat.le_of_ble_eq_true rfl) gc_248_I ?_
    refine z_iload0 gi_248_0 ?_
    refine z_pushJ gp_248_1 ?_
    refine z_pushJ gp_248_2 ?_
    refine z_cS3 gi_248_3 (Nat.le_of_ble_eq_true rfl) gc_148_III ?_
    refine z_iload0 gi_148_0 ?_
    refine z_iload1 gi_148_1 ?_
    refine z_icmp_ltF gi_148_2 zr_3 zr_0 (by decide) ?_
    refine z_iload0 gi_148_5 ?_
    refine z_iload2 gi_148_6 ?_
    refine z_icmp_gtF gi_148_7 zr_3 zr_5 (by decide) ?_
    refine z_pushJ gp_148_10 ?_
    refine z_goto gi_148_11 ?_
    refine z_bret1 gi_148_15 gr_148 ?_
    show zW _ _ _ _ _ _ _ _ _ _
    refine z_bret1 gi_248_6 gr_248 ?_
    show zW _ _ _ _ _ _ _ _ _ _
    refine z_if_neT gi_251_4 zr_1 (by decide) ?_
    refine z_aload0 gi_251_9 ?_
    refine z_getR (r := 83) gi_251_10 gk_50 (hRr _ rm_50_58 (by decide)) ?_
    refine z_iload1 gi_251_13 ?_
    refine z_iald (v := (-2) - (J 44 2)) gi_251_14 gk_83 (by decide) (by decide) (e83) ?_
    refine z_pushJ gp_251_15 ?_
    refine z_icmp_ne gi_251_16 (by omega) zrn_1 (fun h2 => ?_) (fun h2 => ?_)
    · refine z_aload0 gi_251_22 ?_
      refine z_getR (r := 83) gi_251_23 gk_50 (hRr _ rm_50_58 (by decide)) ?_
      refine z_iload1 gi_251_26 ?_
      refine z_iald (v := (-2) - (J 44 2)) gi_251_27 gk_83 (by decide) (by decide) (e83) ?_
      refine z_if_lt gi_251_28 (by omega) (fun h3 => ?_) (fun h3 => ?_)
      · refine z_iload2 gi_251_34 ?_
        refine z_pushJ gp_251_35 ?_
        refine z_aload0 gi_251_36 ?_
        refine z_getR (r := 84) gi_251_37 gk_50 (hRr _ rm_50_59 (by decide)) ?_
        refine z_iload1 gi_251_40 ?_
        refine z_iald (v := J 44 3) gi_251_41 gk_84 (by decide) (by decide) (s7) ?_
        refine z_pushJ gp_251_42 ?_
        refine z_isub (e := (J 44 3) - 1) gi_251_43 rfl ?_
        refine z_cS3 gi_251_44 (Nat.le_of_ble_eq_true rfl) gc_148_III ?_
        refine z_iload0 gi_148_0 ?_
        refine z_iload1 gi_148_1 ?_
        refine z_icmp_ltT gi_148_2 (by omega) zr_0 (by omega) ?_
        refine z_pushJ gp_148_14 ?_
        refine z_bret0 gi_148_15 gr_148 ?_
        show zW _ _ _ _ _ _ _ _ _ _
        refine z_if_eqT gi_251_47 zr_0 (by decide) ?_
        refine z_pushJ gp_251_54 ?_
        refine z_iret gi_251_56 gr_251 ?_
        show zW _ _ _ _ _ _ _ _ _ _
        refine z_if_geF gi_253_6 zrn_13 (by decide) ?_
        refine z_pushL (z := (-9223372036854775808)) gi_253_9 rfl ?_
        refine z_goto gi_253_12 ?_
        refine z_lret gi_253_26 gr_253 ?_
        refine ⟨?_, ?_⟩
        · first | rfl | exact congrArg (fun v => some (zl v)) (by omega) | (exfalso; omega)
        · exact hr
      · refine z_pushJ gp_251_31 ?_
        refine z_iret gi_251_33 gr_251 ?_
        show zW _ _ _ _ _ _ _ _ _ _
        refine z_if_geF gi_253_6 zrn_12 (by decide) ?_
        refine z_pushL (z := (-9223372036854775808)) gi_253_9 rfl ?_
        refine z_goto gi_253_12 ?_
        refine z_lret gi_253_26 gr_253 ?_
        refine ⟨?_, ?_⟩
        · first | rfl | exact congrArg (fun v => some (zl v)) (by omega) | (exfalso; omega)
        · exact hr
    · refine z_pushJ gp_251_19 ?_
      refine z_iret gi_251_21 gr_251 ?_
      show zW _ _ _ _ _ _ _ _ _ _
      refine z_if_geF gi_253_6 zrn_11 (by decide) ?_
      refine z_pushL (z := (-9223372036854775808)) gi_253_9 rfl ?_
      refine z_goto gi_253_12 ?_
      refine z_lret gi_253_26 gr_253 ?_
      refine ⟨?_, ?_⟩
      · first | rfl | exact congrArg (fun v => some (zl v)) (by omega) | (exfalso; omega)
      · exact hr
  · refine z_iload1 gi_70_25 ?_
    refine z_aload0 gi_70_26 ?_
    refine z_getI (v := J 44 3) gi_70_27 gk_44 (rfl) ?_
    refine z_icmp_ge gi_70_30 (by omega) (by omega) (fun h2 => ?_) (fun h2 => ?_)
    · refine z_pushJ gp_70_37 ?_
      refine z_iret gi_70_39 gr_70 ?_
      show zW _ _ _ _ _ _ _ _ _ _
      refine z_if_geF gi_139_17 zrn_13 (by decide) ?_
      refine z_pushL (z := (-9223372036854775808)) gi_139_20 rfl ?_
      refine z_lret gi_139_23 gr_139 ?_
      refine ⟨_, rfl, ?_⟩
      show zW _ _ _ _ [some (.ref 50), some (zi 3), some (zi i)] _ _ _ _ _
      refine z_aload0 gi_253_0 ?_
      refine z_iload1 gi_253_1 ?_
      refine z_iload2 gi_253_2 ?_
      refine z_cV2 gi_253_3 gk_50 go_251 (Nat.le_of_ble_eq_true rfl) gc_251_RII ?_
      refine z_iload1 gi_251_0 ?_
      refine z_cS1 gi_251_1 (Nat.le_of_ble_eq_true rfl) gc_248_I ?_
      refine z_iload0 gi_248_0 ?_
      refine z_pushJ gp_248_1 ?_
      refine z_pushJ gp_248_2 ?_
      refine z_cS3 gi_248_3 (Nat.le_of_ble_eq_true rfl) gc_148_III ?_
      refine z_iload0 gi_148_0 ?_
      refine z_iload1 gi_148_1 ?_
      refine z_icmp_ltF gi_148_2 zr_3 zr_0 (by decide) ?_
      refine z_iload0 gi_148_5 ?_
      refine z_iload2 gi_148_6 ?_
      refine z_icmp_gtF gi_148_7 zr_3 zr_5 (by decide) ?_
      refine z_pushJ gp_148_10 ?_
      refine z_goto gi_148_11 ?_
      refine z_bret1 gi_148_15 gr_148 ?_
      show zW _ _ _ _ _ _ _ _ _ _
      refine z_bret1 gi_248_6 gr_248 ?_
      show zW _ _ _ _ _ _ _ _ _ _
      refine z_if_neT gi_251_4 zr_1 (by decide) ?_
      refine z_aload0 gi_251_9 ?_
      refine z_getR (r := 83) gi_251_10 gk_50 (hRr _ rm_50_58 (by decide)) ?_
      refine z_iload1 gi_251_13 ?_
      refine z_iald (v := (-2) - (J 44 2)) gi_251_14 gk_83 (by decide) (by decide) (e83) ?_
      refine z_pushJ gp_251_15 ?_
      refine z_icmp_ne gi_251_16 (by omega) zrn_1 (fun h3 => ?_) (fun h3 => ?_)
      · refine z_aload0 gi_251_22 ?_
        refine z_getR (r := 83) gi_251_23 gk_50 (hRr _ rm_50_58 (by decide)) ?_
        refine z_iload1 gi_251_26 ?_
        refine z_iald (v := (-2) - (J 44 2)) gi_251_27 gk_83 (by decide) (by decide) (e83) ?_
        refine z_if_lt gi_251_28 (by omega) (fun h4 => ?_) (fun h4 => ?_)
        · refine z_iload2 gi_251_34 ?_
          refine z_pushJ gp_251_35 ?_
          refine z_aload0 gi_251_36 ?_
          refine z_getR (r := 84) gi_251_37 gk_50 (hRr _ rm_50_59 (by decide)) ?_
          refine z_iload1 gi_251_40 ?_
          refine z_iald (v := J 44 3) gi_251_41 gk_84 (by decide) (by decide) (s7) ?_
          refine z_pushJ gp_251_42 ?_
          refine z_isub (e := (J 44 3) - 1) gi_251_43 rfl ?_
          refine z_cS3 gi_251_44 (Nat.le_of_ble_eq_true rfl) gc_148_III ?_
          refine z_iload0 gi_148_0 ?_
          refine z_iload1 gi_148_1 ?_
          refine z_icmp_ltF gi_148_2 (by omega) zr_0 (by omega) ?_
          refine z_iload0 gi_148_5 ?_
          refine z_iload2 gi_148_6 ?_
          refine z_icmp_gtT gi_148_7 (by omega) (by omega) (by omega) ?_
          refine z_pushJ gp_148_14 ?_
          refine z_bret0 gi_148_15 gr_148 ?_
          show zW _ _ _ _ _ _ _ _ _ _
          refine z_if_eqT gi_251_47 zr_0 (by decide) ?_
          refine z_pushJ gp_251_54 ?_
          refine z_iret gi_251_56 gr_251 ?_
          show zW _ _ _ _ _ _ _ _ _ _
          refine z_if_geF gi_253_6 zrn_13 (by decide) ?_
          refine z_pushL (z := (-9223372036854775808)) gi_253_9 rfl ?_
          refine z_goto gi_253_12 ?_
          refine z_lret gi_253_26 gr_253 ?_
          refine ⟨?_, ?_⟩
          · first | rfl | exact congrArg (fun v => some (zl v)) (by omega) | (exfalso; omega)
          · exact hr
        · refine z_pushJ gp_251_31 ?_
          refine z_iret gi_251_33 gr_251 ?_
          show zW _ _ _ _ _ _ _ _ _ _
          refine z_if_geF gi_253_6 zrn_12 (by decide) ?_
          refine z_pushL (z := (-9223372036854775808)) gi_253_9 rfl ?_
          refine z_goto gi_253_12 ?_
          refine z_lret gi_253_26 gr_253 ?_
          refine ⟨?_, ?_⟩
          · first | rfl | exact congrArg (fun v => some (zl v)) (by omega) | (exfalso; omega)
          · exact hr
      · refine z_pushJ gp_251_19 ?_
        refine z_iret gi_251_21 gr_251 ?_
        show zW _ _ _ _ _ _ _ _ _ _
        refine z_if_geF gi_253_6 zrn_11 (by decide) ?_
        refine z_pushL (z := (-9223372036854775808)) gi_253_9 rfl ?_
        refine z_goto gi_253_12 ?_
        refine z_lret gi_253_26 gr_253 ?_
        refine ⟨?_, ?_⟩
        · first | rfl | exact congrArg (fun v => some (zl v)) (by omega) | (exfalso; omega)
        · exact hr
    · refine z_pushJ gp_70_33 ?_
      refine z_goto gi_70_34 ?_
      refine z_iret gi_70_39 gr_70 ?_
      show zW _ _ _ _ _ _ _ _ _ _
      refine z_if_geT gi_139_17 zr_0 (by decide) ?_
      refine z_aload0 gi_139_24 ?_
      refine z_getR (r := 37) gi_139_25 gk_0 (hR _ rm_0_11) ?_
      refine z_iload1 gi_139_28 ?_
      refine z_aald (r := 44) gi_139_29 rfl (by decide) (by decide) (hR _ rm_37_3) ?_
      refine z_iload2 gi_139_30 ?_
      refine z_cV1 gi_139_31 gk_44 go_72 (Nat.le_of_ble_eq_true rfl) gc_72_RI ?_
      refine z_iload1 gi_72_0 ?_
      refine z_if_ltF gi_72_1 (by omega) (by omega) ?_
      refine z_iload1 gi_72_4 ?_
      refine z_aload0 gi_72_5 ?_
      refine z_getI (v := J 44 3) gi_72_6 gk_44 (rfl) ?_
      refine z_icmp_geF gi_72_9 (by omega) (by omega) (by omega) ?_
      refine z_aload0 gi_72_12 ?_
      refine z_getR (r := 45) gi_72_13 gk_44 (hR _ rm_44_4) ?_
      refine z_iload1 gi_72_16 ?_
      refine z_lald (v := M 45 i) gi_72_17 gk_45 (by decide) (by omega) (rfl) ?_
      refine z_goto gi_72_18 ?_
      refine z_lret gi_72_22 gr_72 ?_
      show zW _ _ _ _ _ _ _ _ _ _
      refine z_lret gi_139_34 gr_139 ?_
      refine ⟨_, rfl, ?_⟩
      show zW _ _ _ _ [some (.ref 50), some (zi 3), some (zi i)] _ _ _ _ _
      refine z_aload0 gi_253_0 ?_
      refine z_iload1 gi_253_1 ?_
      refine z_iload2 gi_253_2 ?_
      refine z_cV2 gi_253_3 gk_50 go_251 (Nat.le_of_ble_eq_true rfl) gc_251_RII ?_
      refine z_iload1 gi_251_0 ?_
      refine z_cS1 gi_251_1 (Nat.le_of_ble_eq_true rfl) gc_248_I ?_
      refine z_iload0 gi_248_0 ?_
      refine z_pushJ gp_248_1 ?_
      refine z_pushJ gp_248_2 ?_
      refine z_cS3 gi_248_3 (Nat.le_of_ble_eq_true rfl) gc_148_III ?_
      refine z_iload0 gi_148_0 ?_
      refine z_iload1 gi_148_1 ?_
      refine z_icmp_ltF gi_148_2 zr_3 zr_0 (by decide) ?_
      refine z_iload0 gi_148_5 ?_
      refine z_iload2 gi_148_6 ?_
      refine z_icmp_gtF gi_148_7 zr_3 zr_5 (by decide) ?_
      refine z_pushJ gp_148_10 ?_
      refine z_goto gi_148_11 ?_
      refine z_bret1 gi_148_15 gr_148 ?_
      show zW _ _ _ _ _ _ _ _ _ _
      refine z_bret1 gi_248_6 gr_248 ?_
      show zW _ _ _ _ _ _ _ _ _ _
      refine z_if_neT gi_251_4 zr_1 (by decide) ?_
      refine z_aload0 gi_251_9 ?_
      refine z_getR (r := 83) gi_251_10 gk_50 (hRr _ rm_50_58 (by decide)) ?_
      refine z_iload1 gi_251_13 ?_
      refine z_iald (v := (-2) - (J 44 2)) gi_251_14 gk_83 (by decide) (by decide) (e83) ?_
      refine z_pushJ gp_251_15 ?_
      refine z_icmp_ne gi_251_16 (by omega) zrn_1 (fun h3 => ?_) (fun h3 => ?_)
      · refine z_aload0 gi_251_22 ?_
        refine z_getR (r := 83) gi_251_23 gk_50 (hRr _ rm_50_58 (by decide)) ?_
        refine z_iload1 gi_251_26 ?_
        refine z_iald (v := (-2) - (J 44 2)) gi_251_27 gk_83 (by decide) (by decide) (e83) ?_
        refine z_if_lt gi_251_28 (by omega) (fun h4 => ?_) (fun h4 => ?_)
        · refine z_iload2 gi_251_34 ?_
          refine z_pushJ gp_251_35 ?_
          refine z_aload0 gi_251_36 ?_
          refine z_getR (r := 84) gi_251_37 gk_50 (hRr _ rm_50_59 (by decide)) ?_
          refine z_iload1 gi_251_40 ?_
          refine z_iald (v := J 44 3) gi_251_41 gk_84 (by decide) (by decide) (s7) ?_
          refine z_pushJ gp_251_42 ?_
          refine z_isub (e := (J 44 3) - 1) gi_251_43 rfl ?_
          refine z_cS3 gi_251_44 (Nat.le_of_ble_eq_true rfl) gc_148_III ?_
          refine z_iload0 gi_148_0 ?_
          refine z_iload1 gi_148_1 ?_
          refine z_icmp_ltF gi_148_2 (by omega) zr_0 (by omega) ?_
          refine z_iload0 gi_148_5 ?_
          refine z_iload2 gi_148_6 ?_
          refine z_icmp_gtF gi_148_7 (by omega) (by omega) (by omega) ?_
          refine z_pushJ gp_148_10 ?_
          refine z_goto gi_148_11 ?_
          refine z_bret1 gi_148_15 gr_148 ?_
          show zW _ _ _ _ _ _ _ _ _ _
          refine z_if_eqF gi_251_47 zr_1 (by decide) ?_
          refine z_pushJ gp_251_50 ?_
          refine z_goto gi_251_51 ?_
          refine z_iret gi_251_56 gr_251 ?_
          show zW _ _ _ _ _ _ _ _ _ _
          refine z_if_geT gi_253_6 zr_0 (by decide) ?_
          refine z_aload0 gi_253_15 ?_
          refine z_getR (r := 85) gi_253_16 gk_50 (hRr _ rm_50_60 (by decide)) ?_
          refine z_pushJ gp_253_19 ?_
          refine z_iload1 gi_253_21 ?_
          refine z_imul (e := 180) gi_253_22 rfl ?_
          refine z_iload2 gi_253_23 ?_
          refine z_iadd (e := 180 + i) gi_253_24 rfl ?_
          refine z_lald (v := M 85 (180 + i)) gi_253_25 gk_85 (by decide) (by omega) (rfl) ?_
          refine z_lret gi_253_26 gr_253 ?_
          refine ⟨?_, ?_⟩
          · first | exact congrArg (fun v => some (zl v)) (s8 i (by omega) (by omega)).symm | (exfalso; omega)
          · exact hr
        · refine z_pushJ gp_251_31 ?_
          refine z_iret gi_251_33 gr_251 ?_
          show zW _ _ _ _ _ _ _ _ _ _
          refine z_if_geF gi_253_6 zrn_12 (by decide) ?_
          refine z_pushL (z := (-9223372036854775808)) gi_253_9 rfl ?_
          refine z_goto gi_253_12 ?_
          refine z_lret gi_253_26 gr_253 ?_
          refine ⟨?_, ?_⟩
          · first | exact congrArg (fun v => some (zl v)) (s8 i (by omega) (by omega)).symm | (exfalso; omega)
          · exact hr
      · refine z_pushJ gp_251_19 ?_
        refine z_iret gi_251_21 gr_251 ?_
        show zW _ _ _ _ _ _ _ _ _ _
        refine z_if_geF gi_253_6 zrn_11 (by decide) ?_
        refine z_pushL (z := (-9223372036854775808)) gi_253_9 rfl ?_
        refine z_goto gi_253_12 ?_
        refine z_lret gi_253_26 gr_253 ?_
        refine ⟨?_, ?_⟩
        · first | exact congrArg (fun v => some (zl v)) (s8 i (by omega) (by omega)).symm | (exfalso; omega)
        · exact hr
theorem st_put_320 {X : Nat × (Nat → Int32)} {d : Nat} {J M : zA} {R : zR} {i v : Int} (hr : Rel X J M R) (hi : -2147483648 ≤ i ∧ i < 2147483648) (hv : -9223372036854775808 ≤ v ∧ v < 9223372036854775808) (hh : J 44 0 = 2) (hso : J 44 2 = 0) : zW X (d + 20) 138 0 (gEn 138 [(.ref 0), (zi 3), (zi i), (zl v)]) [] J M R (stP X (d + 20) 252 [(zi 3), (zi i), (zl v)]) := by
  have hr0 := hr
  obtain ⟨hR, hG, hY, hD, hP, hC, hAc, hS, hTp, hX, hW⟩ := hr0
  have hRr : zRoR R := zRoR_of hR
  have e83 : J 83 3 = -2 - J 44 2 := (hS 3 (by decide) (by decide)).1.symm.trans (cH_2 hh)
  have s3 : 0 ≤ J 44 2 ∧ J 44 2 ≤ 4 := (hS 3 (by decide) (by decide)).2.2.1
  have s4 : 0 ≤ J 44 3 ∧ J 44 3 ≤ 60 := (hS 3 (by decide) (by decide)).2.2.2.1
  have s6 := (hS 3 (by decide) (by decide)).2.2.2.2.2 hh
  have s7 : J 84 3 = J 44 3 := s6.1.symm
  have s8 : ∀ i, 0 ≤ i → i < J 44 3 → M 45 i = M 85 (180 + i) := s6.2.1
  show zW _ _ _ _ [some (.ref 0), some (zi 3), some (zi i), some (zl v), none, none] _ _ _ _ _
  refine z_iload1 gi_138_0 ?_
  refine z_cS1 gi_138_1 (Nat.le_of_ble_eq_true rfl) gc_143_I ?_
  refine z_iload0 gi_143_0 ?_
  refine z_if_ltF gi_143_1 zr_3 (by decide) ?_
  refine z_iload0 gi_143_4 ?_
  refine z_pushJ gp_143_5 ?_
  refine z_icmp_geF gi_143_7 zr_3 zr_6 (by decide) ?_
  refine z_pushJ gp_143_10 ?_
  refine z_goto gi_143_11 ?_
  refine z_bret1 gi_143_15 gr_143 ?_
  show zW _ _ _ _ _ _ _ _ _ _
  refine z_if_neT gi_138_4 zr_1 (by decide) ?_
  refine z_aload0 gi_138_9 ?_
  refine z_getR (r := 37) gi_138_10 gk_0 (hR _ rm_0_11) ?_
  refine z_iload1 gi_138_13 ?_
  refine z_aald (r := 44) gi_138_14 rfl (by decide) (by decide) (hR _ rm_37_3) ?_
  refine z_iload2 gi_138_15 ?_
  refine z_cV1 gi_138_16 gk_44 go_70 (Nat.le_of_ble_eq_true rfl) gc_70_RI ?_
  refine z_aload0 gi_70_0 ?_
  refine z_getI (v := 2) gi_70_1 gk_44 (hh) ?_
  refine z_if_neT gi_70_4 zr_2 (by decide) ?_
  refine z_aload0 gi_70_10 ?_
  refine z_getI (v := 2) gi_70_11 gk_44 (hh) ?_
  refine z_pushJ gp_70_14 ?_
  refine z_icmp_eqT gi_70_15 zr_2 zr_2 (by decide) ?_
  refine z_iload1 gi_70_21 ?_
  refine z_if_lt gi_70_22 (by omega) (fun h1 => ?_) (fun h1 => ?_)
  · refine z_pushJ gp_70_37 ?_
    refine z_iret gi_70_39 gr_70 ?_
    show zW _ _ _ _ _ _ _ _ _ _
    refine z_istore (ls1 := [some (.ref 0), some (zi 3), some (zi i), some (zl v), none, some (zi (-13))]) gi_138_19 rfl ?_
    refine z_iload5 gi_138_21 ?_
    refine z_if_geF gi_138_23 zrn_13 (by decide) ?_
    refine z_iload5 gi_138_26 ?_
    refine z_iret gi_138_28 gr_138 ?_
    refine ⟨_, rfl, ?_⟩
    show zW _ _ _ _ [some (.ref 50), some (zi 3), some (zi i), some (zl v), none, none, none] _ _ _ _ _
    refine z_aload0 gi_252_0 ?_
    refine z_iload1 gi_252_1 ?_
    refine z_iload2 gi_252_2 ?_
    refine z_cV2 gi_252_3 gk_50 go_251 (Nat.le_of_ble_eq_true rfl) gc_251_RII ?_
    refine z_iload1 gi_251_0 ?_
    refine z_cS1 gi_251_1 (Nat.le_of_ble_eq_true rfl) gc_248_I ?_
    refine z_iload0 gi_248_0 ?_
    refine z_pushJ gp_248_1 ?_
    refine z_pushJ gp_248_2 ?_
    refine z_cS3 gi_248_3 (Nat.le_of_ble_eq_true rfl) gc_148_III ?_
    refine z_iload0 gi_148_0 ?_
    refine z_iload1 gi_148_1 ?_
    refine z_icmp_ltF gi_148_2 zr_3 zr_0 (by decide) ?_
    refine z_iload0 gi_148_5 ?_
    refine z_iload2 gi_148_6 ?_
    refine z_icmp_gtF gi_148_7 zr_3 zr_5 (by decide) ?_
    refine z_pushJ gp_148_10 ?_
    refine z_goto gi_148_11 ?_
    refine z_bret1 gi_148_15 gr_148 ?_
    show zW _ _ _ _ _ _ _ _ _ _
    refine z_bret1 gi_248_6 gr_248 ?_
    show zW _ _ _ _ _ _ _ _ _ _
    refine z_if_neT gi_251_4 zr_1 (by decide) ?_
    refine z_aload0 gi_251_9 ?_
    refine z_getR (r := 83) gi_251_10 gk_50 (hRr _ rm_50_58 (by decide)) ?_
    refine z_iload1 gi_251_13 ?_
    refine z_iald (v := (-2)) gi_251_14 gk_83 (by decide) (by decide) ((e83.trans (by rw [hso]; rfl))) ?_
    refine z_pushJ gp_251_15 ?_
    refine z_icmp_neT gi_251_16 zrn_2 zrn_1 (by decide) ?_
    refine z_aload0 gi_251_22 ?_
    refine z_getR (r := 83) gi_251_23 gk_50 (hRr _ rm_50_58 (by decide)) ?_
    refine z_iload1 gi_251_26 ?_
    refine z_iald (v := (-2)) gi_251_27 gk_83 (by decide) (by decide) ((e83.trans (by rw [hso]; rfl))) ?_
    refine z_if_ltT gi_251_28 zrn_2 (by decide) ?_
    refine z_iload2 gi_251_34 ?_
    refine z_pushJ gp_251_35 ?_
    refine z_aload0 gi_251_36 ?_
    refine z_getR (r := 84) gi_251_37 gk_50 (hRr _ rm_50_59 (by decide)) ?_
    refine z_iload1 gi_251_40 ?_
    refine z_iald (v := J 44 3) gi_251_41 gk_84 (by decide) (by decide) (s7) ?_
    refine z_pushJ gp_251_42 ?_
    refine z_isub (e := (J 44 3) - 1) gi_251_43 rfl ?_
    refine z_cS3 gi_251_44 (Nat.le_of_ble_eq_true rfl) gc_148_III ?_
    refine z_iload0 gi_148_0 ?_
    refine z_iload1 gi_148_1 ?_
    refine z_icmp_ltT gi_148_2 (by omega) zr_0 (by omega) ?_
    refine z_pushJ gp_148_14 ?_
    refine z_bret0 gi_148_15 gr_148 ?_
    show zW _ _ _ _ _ _ _ _ _ _
    refine z_if_eqT gi_251_47 zr_0 (by decide) ?_
    refine z_pushJ gp_251_54 ?_
    refine z_iret gi_251_56 gr_251 ?_
    show zW _ _ _ _ _ _ _ _ _ _
    refine z_istore (ls1 := [some (.ref 50), some (zi 3), some (zi i), some (zl v), none, some (zi (-13)), none]) gi_252_6 rfl ?_
    refine z_iload5 gi_252_8 ?_
    refine z_if_geF gi_252_10 zrn_13 (by decide) ?_
    refine z_iload5 gi_252_13 ?_
    refine z_iret gi_252_15 gr_252 ?_
    refine ⟨?_, ?_⟩
    · first | rfl | exact congrArg (fun v => some (zi v)) (by omega) | (exfalso; omega)
    · exact hr
  · refine z_iload1 gi_70_25 ?_
    refine z_aload0 gi_70_26 ?_
    refine z_getI (v := J 44 3) gi_70_27 gk_44 (rfl) ?_
    refine z_icmp_ge gi_70_30 (by omega) (by omega) (fun h2 => ?_) (fun h2 => ?_)
    · refine z_pushJ gp_70_37 ?_
      refine z_iret gi_70_39 gr_70 ?_
      show zW _ _ _ _ _ _ _ _ _ _
      refine z_istore (ls1 := [some (.ref 0), some (zi 3), some (zi i), some (zl v), none, some (zi (-13))]) gi_138_19 rfl ?_
      refine z_iload5 gi_138_21 ?_
      refine z_if_geF gi_138_23 zrn_13 (by decide) ?_
      refine z_iload5 gi_138_26 ?_
      refine z_iret gi_138_28 gr_138 ?_
      refine ⟨_, rfl, ?_⟩
      show zW _ _ _ _ [some (.ref 50), some (zi 3), some (zi i), some (zl v), none, none, none] _ _ _ _ _
      refine z_aload0 gi_252_0 ?_
      refine z_iload1 gi_252_1 ?_
      refine z_iload2 gi_252_2 ?_
      refine z_cV2 gi_252_3 gk_50 go_251 (Nat.le_of_ble_eq_true rfl) gc_251_RII ?_
      refine z_iload1 gi_251_0 ?_
      refine z_cS1 gi_251_1 (Nat.le_of_ble_eq_true rfl) gc_248_I ?_
      refine z_iload0 gi_248_0 ?_
      refine z_pushJ gp_248_1 ?_
      refine z_pushJ gp_248_2 ?_
      refine z_cS3 gi_248_3 (Nat.le_of_ble_eq_true rfl) gc_148_III ?_
      refine z_iload0 gi_148_0 ?_
      refine z_iload1 gi_148_1 ?_
      refine z_icmp_ltF gi_148_2 zr_3 zr_0 (by decide) ?_
      refine z_iload0 gi_148_5 ?_
      refine z_iload2 gi_148_6 ?_
      refine z_icmp_gtF gi_148_7 zr_3 zr_5 (by decide) ?_
      refine z_pushJ gp_148_10 ?_
      refine z_goto gi_148_11 ?_
      refine z_bret1 gi_148_15 gr_148 ?_
      show zW _ _ _ _ _ _ _ _ _ _
      refine z_bret1 gi_248_6 gr_248 ?_
      show zW _ _ _ _ _ _ _ _ _ _
      refine z_if_neT gi_251_4 zr_1 (by decide) ?_
      refine z_aload0 gi_251_9 ?_
      refine z_getR (r := 83) gi_251_10 gk_50 (hRr _ rm_50_58 (by decide)) ?_
      refine z_iload1 gi_251_13 ?_
      refine z_iald (v := (-2)) gi_251_14 gk_83 (by decide) (by decide) ((e83.trans (by rw [hso]; rfl))) ?_
      refine z_pushJ gp_251_15 ?_
      refine z_icmp_neT gi_251_16 zrn_2 zrn_1 (by decide) ?_
      refine z_aload0 gi_251_22 ?_
      refine z_getR (r := 83) gi_251_23 gk_50 (hRr _ rm_50_58 (by decide)) ?_
      refine z_iload1 gi_251_26 ?_
      refine z_iald (v := (-2)) gi_251_27 gk_83 (by decide) (by decide) ((e83.trans (by rw [hso]; rfl))) ?_
      refine z_if_ltT gi_251_28 zrn_2 (by decide) ?_
      refine z_iload2 gi_251_34 ?_
      refine z_pushJ gp_251_35 ?_
      refine z_aload0 gi_251_36 ?_
      refine z_getR (r := 84) gi_251_37 gk_50 (hRr _ rm_50_59 (by decide)) ?_
      refine z_iload1 gi_251_40 ?_
      refine z_iald (v := J 44 3) gi_251_41 gk_84 (by decide) (by decide) (s7) ?_
      refine z_pushJ gp_251_42 ?_
      refine z_isub (e := (J 44 3) - 1) gi_251_43 rfl ?_
      refine z_cS3 gi_251_44 (Nat.le_of_ble_eq_true rfl) gc_148_III ?_
      refine z_iload0 gi_148_0 ?_
      refine z_iload1 gi_148_1 ?_
      refine z_icmp_ltF gi_148_2 (by omega) zr_0 (by omega) ?_
      refine z_iload0 gi_148_5 ?_
      refine z_iload2 gi_148_6 ?_
      refine z_icmp_gtT gi_148_7 (by omega) (by omega) (by omega) ?_
      refine z_pushJ gp_148_14 ?_
      refine z_bret0 gi_148_15 gr_148 ?_
      show zW _ _ _ _ _ _ _ _ _ _
      refine z_if_eqT gi_251_47 zr_0 (by decide) ?_
      refine z_pushJ gp_251_54 ?_
      refine z_iret gi_251_56 gr_251 ?_
      show zW _ _ _ _ _ _ _ _ _ _
      refine z_istore (ls1 := [some (.ref 50), some (zi 3), some (zi i), some (zl v), none, some (zi (-13)), none]) gi_252_6 rfl ?_
      refine z_iload5 gi_252_8 ?_
      refine z_if_geF gi_252_10 zrn_13 (by decide) ?_
      refine z_iload5 gi_252_13 ?_
      refine z_iret gi_252_15 gr_252 ?_
      refine ⟨?_, ?_⟩
      · first | rfl | exact congrArg (fun v => some (zi v)) (by omega) | (exfalso; omega)
      · exact hr
    · refine z_pushJ gp_70_33 ?_
      refine z_goto gi_70_34 ?_
      refine z_iret gi_70_39 gr_70 ?_
      show zW _ _ _ _ _ _ _ _ _ _
      refine z_istore (ls1 := [some (.ref 0), some (zi 3), some (zi i), some (zl v), none, some (zi 0)]) gi_138_19 rfl ?_
      refine z_iload5 gi_138_21 ?_
      refine z_if_geT gi_138_23 zr_0 (by decide) ?_
      refine z_aload0 gi_138_29 ?_
      refine z_getR (r := 37) gi_138_30 gk_0 (hR _ rm_0_11) ?_
      refine z_iload1 gi_138_33 ?_
      refine z_aald (r := 44) gi_138_34 rfl (by decide) (by decide) (hR _ rm_37_3) ?_
      refine z_iload2 gi_138_35 ?_
      refine z_lload3 gi_138_36 ?_
      refine z_callVi (As := [_, _]) (le := [some _, some _, some _, none]) gi_138_37 rfl gk_44 (Nat.le_of_ble_eq_true rfl) (Nat.le_of_ble_eq_true rfl) rfl ?_
      refine z_iload1 gi_73_0 ?_
      refine z_if_ltF gi_73_1 (by omega) (by omega) ?_
      refine z_iload1 gi_73_4 ?_
      refine z_aload0 gi_73_5 ?_
      refine z_getI (v := J 44 3) gi_73_6 gk_44 (rfl) ?_
      refine z_icmp_geF gi_73_9 (by omega) (by omega) (by omega) ?_
      refine z_aload0 gi_73_12 ?_
      refine z_getR (r := 45) gi_73_13 gk_44 (hR _ rm_44_4) ?_
      refine z_iload1 gi_73_16 ?_
      refine z_aload0 gi_73_17 ?_
      refine z_lload2 gi_73_18 ?_
      refine z_callVi (As := [_]) (le := [some _, some _, none]) gi_73_19 rfl gk_44 (Nat.le_of_ble_eq_true rfl) (Nat.le_of_ble_eq_true rfl) rfl ?_
      refine z_aload0 gi_74_0 ?_
      refine z_getI (v := 0) gi_74_1 gk_44 (hso) ?_
      refine z_swI (tg := 40) gi_74_4 (by decide) (T := [((0 : Int), 40), ((1 : Int), 45), ((2 : Int), 50), ((3 : Int), 66), ((4 : Int), 54)]) rfl (by decide) ?_
      refine z_lload1 gi_74_40 ?_
      refine z_l2i gi_74_41 ?_
      refine z_i2b (e := zb v) gi_74_42 rfl ?_
      have q3 := zb_r v
      refine z_i2l gi_74_43 (by omega) ?_
      refine z_lret gi_74_44 gr_74 ?_
      show zW _ _ _ _ _ _ _ _ _ _
      refine z_last (e := zb v) gi_73_22 gk_45 (by decide) (by omega) rfl ?_
      refine z_vret gi_73_23 gr_73 ?_
      show zW _ _ _ _ _ _ _ _ _ _
      refine z_pushJ gp_138_40 ?_
      refine z_iret gi_138_41 gr_138 ?_
      refine ⟨_, rfl, ?_⟩
      show zW _ _ _ _ [some (.ref 50), some (zi 3), some (zi i), some (zl v), none, none, none] _ _ _ _ _
      refine z_aload0 gi_252_0 ?_
      refine z_iload1 gi_252_1 ?_
      refine z_iload2 gi_252_2 ?_
      refine z_cV2 gi_252_3 gk_50 go_251 (Nat.le_of_ble_eq_true rfl) gc_251_RII ?_
      refine z_iload1 gi_251_0 ?_
      refine z_cS1 gi_251_1 (Nat.le_of_ble_eq_true rfl) gc_248_I ?_
      refine z_iload0 gi_248_0 ?_
      refine z_pushJ gp_248_1 ?_
      refine z_pushJ gp_248_2 ?_
      refine z_cS3 gi_248_3 (Nat.le_of_ble_eq_true rfl) gc_148_III ?_
      refine z_iload0 gi_148_0 ?_
      refine z_iload1 gi_148_1 ?_
      refine z_icmp_ltF gi_148_2 zr_3 zr_0 (by decide) ?_
      refine z_iload0 gi_148_5 ?_
      refine z_iload2 gi_148_6 ?_
      refine z_icmp_gtF gi_148_7 zr_3 zr_5 (by decide) ?_
      refine z_pushJ gp_148_10 ?_
      refine z_goto gi_148_11 ?_
      refine z_bret1 gi_148_15 gr_148 ?_
      show zW _ _ _ _ _ _ _ _ _ _
      refine z_bret1 gi_248_6 gr_248 ?_
      show zW _ _ _ _ _ _ _ _ _ _
      refine z_if_neT gi_251_4 zr_1 (by decide) ?_
      refine z_aload0 gi_251_9 ?_
      refine z_getR (r := 83) gi_251_10 gk_50 (hRr _ rm_50_58 (by decide)) ?_
      refine z_iload1 gi_251_13 ?_
      refine z_iald (v := (-2)) gi_251_14 gk_83 (by decide) (by decide) ((e83.trans (by rw [hso]; rfl))) ?_
      refine z_pushJ gp_251_15 ?_
      refine z_icmp_neT gi_251_16 zrn_2 zrn_1 (by decide) ?_
      refine z_aload0 gi_251_22 ?_
      refine z_getR (r := 83) gi_251_23 gk_50 (hRr _ rm_50_58 (by decide)) ?_
      refine z_iload1 gi_251_26 ?_
      refine z_iald (v := (-2)) gi_251_27 gk_83 (by decide) (by decide) ((e83.trans (by rw [hso]; rfl))) ?_
      refine z_if_ltT gi_251_28 zrn_2 (by decide) ?_
      refine z_iload2 gi_251_34 ?_
      refine z_pushJ gp_251_35 ?_
      refine z_aload0 gi_251_36 ?_
      refine z_getR (r := 84) gi_251_37 gk_50 (hRr _ rm_50_59 (by decide)) ?_
      refine z_iload1 gi_251_40 ?_
      refine z_iald (v := J 44 3) gi_251_41 gk_84 (by decide) (by decide) (s7) ?_
      refine z_pushJ gp_251_42 ?_
      refine z_isub (e := (J 44 3) - 1) gi_251_43 rfl ?_
      refine z_cS3 gi_251_44 (Nat.le_of_ble_eq_true rfl) gc_148_III ?_
      refine z_iload0 gi_148_0 ?_
      refine z_iload1 gi_148_1 ?_
      refine z_icmp_ltF gi_148_2 (by omega) zr_0 (by omega) ?_
      refine z_iload0 gi_148_5 ?_
      refine z_iload2 gi_148_6 ?_
      refine z_icmp_gtF gi_148_7 (by omega) (by omega) (by omega) ?_
      refine z_pushJ gp_148_10 ?_
      refine z_goto gi_148_11 ?_
      refine z_bret1 gi_148_15 gr_148 ?_
      show zW _ _ _ _ _ _ _ _ _ _
      refine z_if_eqF gi_251_47 zr_1 (by decide) ?_
      refine z_pushJ gp_251_50 ?_
      refine z_goto gi_251_51 ?_
      refine z_iret gi_251_56 gr_251 ?_
      show zW _ _ _ _ _ _ _ _ _ _
      refine z_istore (ls1 := [some (.ref 50), some (zi 3), some (zi i), some (zl v), none, some (zi 0), none]) gi_252_6 rfl ?_
      refine z_iload5 gi_252_8 ?_
      refine z_if_geT gi_252_10 zr_0 (by decide) ?_
      refine z_pushJ gp_252_16 ?_
      refine z_aload0 gi_252_18 ?_
      refine z_getR (r := 83) gi_252_19 gk_50 (hRr _ rm_50_58 (by decide)) ?_
      refine z_iload1 gi_252_22 ?_
      refine z_iald (v := (-2)) gi_252_23 gk_83 (by decide) (by decide) ((e83.trans (by rw [hso]; rfl))) ?_
      refine z_isub (e := 0) gi_252_24 rfl ?_
      refine z_istore (ls1 := [some (.ref 50), some (zi 3), some (zi i), some (zl v), none, some (zi 0), some (zi 0)]) gi_252_25 rfl ?_
      refine z_aload0 gi_252_27 ?_
      refine z_getR (r := 85) gi_252_28 gk_50 (hRr _ rm_50_60 (by decide)) ?_
      refine z_pushJ gp_252_31 ?_
      refine z_iload1 gi_252_33 ?_
      refine z_imul (e := 180) gi_252_34 rfl ?_
      refine z_iload2 gi_252_35 ?_
      refine z_iadd (e := 180 + i) gi_252_36 rfl ?_
      refine z_iload6 gi_252_37 ?_
      refine z_if_neF gi_252_39 zr_0 (by decide) ?_
      refine z_lload3 gi_252_42 ?_
      refine z_l2i gi_252_43 ?_
      refine z_i2b (e := zb v) gi_252_44 rfl ?_
      have q4 := zb_r v
      refine z_i2l gi_252_45 (by omega) ?_
      refine z_goto gi_252_46 ?_
      refine z_last (e := zb v) gi_252_95 gk_85 (by decide) (by omega) rfl ?_
      refine z_pushJ gp_252_96 ?_
      refine z_iret gi_252_97 gr_252 ?_
      refine ⟨?_, ?_⟩
      · first | rfl | exact congrArg (fun v => some (zi v)) (by omega) | (exfalso; omega)
      · have hk := (zK_r (k := (kL [] [])) (A := J))
        have hkm := (zK_x (a := 85) (x := 180 + i) (v := zb v) (zK_x (a := 45) (x := i) (v := zb v) (zK_r (k := (kL [45, 85] [])) (A := M)) rfl) rfl)
        exact ⟨hR, hG, RelY_k hk (by repeat' constructor) (fun p => by repeat' constructor) hY, RelD_k hk (by repeat' constructor) (fun p => by repeat' constructor) hD, RelP_k hk (by repeat' constructor) (fun p => by repeat' constructor) hP, RelC_k hk (by repeat' constructor) (fun p => by repeat' constructor) hC, RelA_k hk (by repeat' constructor) (fun p => by repeat' constructor) hAc, (RelS_one (J := J) (M := M) (c := 3) (fun t t1 t2 te => by have q : t = 0 ∨ t = 1 ∨ t = 2 ∨ t = 3 ∨ t = 4 ∨ t = 5 := (by omega); rcases q with rfl | rfl | rfl | rfl | rfl | rfl <;> first | exact absurd rfl te | exact ⟨fun j => rfl, rfl, rfl⟩) (fun t t1 t2 te => by have q : t = 0 ∨ t = 1 ∨ t = 2 ∨ t = 3 ∨ t = 4 ∨ t = 5 := (by omega); rcases q with rfl | rfl | rfl | rfl | rfl | rfl <;> first | exact absurd rfl te | exact ⟨fun j => rfl, fun j j1 j2 => (zU_x (by omega)).trans (zU_n (by decide))⟩) rfl (show RelS1 _ _ _ from ⟨(hS 3 (by decide) (by decide)).1, (hS 3 (by decide) (by decide)).2.1, s3, s4, (hS 3 (by decide) (by decide)).2.2.2.2.1, fun _ => ⟨s7.symm, fun k k1 k2 => by show (if k = i then zb v else M 45 k) = (if 180 + k = 180 + i then zb v else M 85 (180 + k)); by_cases e : k = i; rw [if_pos e, if_pos (by omega)]; rw [if_neg e, if_neg (by omega)]; exact s8 k k1 k2, (fun hq k k1 k2 => by show -128 ≤ (if k = i then zb v else M 45 k) ∧ (if k = i then zb v else M 45 k) ≤ 127; split <;> first | (have := zb_r v; omega) | exact s6.2.2 hq k k1 k2)⟩⟩) hS), RelT_k hk (by repeat' constructor) (fun p => by repeat' constructor) hTp, RelX_k hk (by repeat' constructor) (fun p => by repeat' constructor) hX, RelW_k hk ⟨rfl, rfl⟩ trivial hW⟩
theorem st_put_321 {X : Nat × (Nat → Int32)} {d : Nat} {J M : zA} {R : zR} {i v : Int} (hr : Rel X J M R) (hi : -2147483648 ≤ i ∧ i < 2147483648) (hv : -9223372036854775808 ≤ v ∧ v < 9223372036854775808) (hh : J 44 0 = 2) (hso : J 44 2 = 1) : zW X (d + 20) 138 0 (gEn 138 [(.ref 0), (zi 3), (zi i), (zl v)]) [] J M R (stP X (d + 20) 252 [(zi 3), (zi i), (zl v)]) := by
  have hr0 := hr
  obtain ⟨hR, hG, hY, hD, hP, hC, hAc, hS, hTp, hX, hW⟩ := hr0
  have hRr : zRoR R := zRoR_of hR
  have e83 : J 83 3 = -2 - J 44 2 := (hS 3 (by decide) (by decide)).1.symm.trans (cH_2 hh)
  have s3 : 0 ≤ J 44 2 ∧ J 44 2 ≤ 4 := (hS 3 (by decide) (by decide)).2.2.1
  have s4 : 0 ≤ J 44 3 ∧ J 44 3 ≤ 60 := (hS 3 (by decide) (by decide)).2.2.2.1
  have s6 := (hS 3 (by decide) (by decide)).2.2.2.2.2 hh
  have s7 : J 84 3 = J 44 3 := s6.1.symm
  have s8 : ∀ i, 0 ≤ i → i < J 44 3 → M 45 i = M 85 (180 + i) := s6.2.1
  show zW _ _ _ _ [some (.ref 0), some (zi 3), some (zi i), some (zl v), none, none] _ _ _ _ _
  refine z_iload1 gi_138_0 ?_
  refine z_cS1 gi_138_1 (Nat.le_of_ble_eq_true rfl) gc_143_I ?_
  refine z_iload0 gi_143_0 ?_
  refine z_if_ltF gi_143_1 zr_3 (by decide) ?_
  refine z_iload0 gi_143_4 ?_
  refine z_pushJ gp_143_5 ?_
  refine z_icmp_geF gi_143_7 zr_3 zr_6 (by decide) ?_
  refine z_pushJ gp_143_10 ?_
  refine z_goto gi_143_11 ?_
  refine z_bret1 gi_143_15 gr_143 ?_
  show zW _ _ _ _ _ _ _ _ _ _
  refine z_if_neT gi_138_4 zr_1 (by decide) ?_
  refine z_aload0 gi_138_9 ?_
  refine z_getR (r := 37) gi_138_10 gk_0 (hR _ rm_0_11) ?_
  refine z_iload1 gi_138_13 ?_
  refine z_aald (r := 44) gi_138_14 rfl (by decide) (by decide) (hR _ rm_37_3) ?_
  refine z_iload2 gi_138_15 ?_
  refine z_cV1 gi_138_16 gk_44 go_70 (Nat.le_of_ble_eq_true rfl) gc_70_RI ?_
  refine z_aload0 gi_70_0 ?_
  refine z_getI (v := 2) gi_70_1 gk_44 (hh) ?_
  refine z_if_neT gi_70_4 zr_2 (by decide) ?_
  refine z_aload0 gi_70_10 ?_
  refine z_getI (v := 2) gi_70_11 gk_44 (hh) ?_
  refine z_pushJ gp_70_14 ?_
  refine z_icmp_eqT gi_70_15 zr_2 zr_2 (by decide) ?_
  refine z_iload1 gi_70_21 ?_
  refine z_if_lt gi_70_22 (by omega) (fun h1 => ?_) (fun h1 => ?_)
  · refine z_pushJ gp_70_37 ?_
    refine z_iret gi_70_39 gr_70 ?_
    show zW _ _ _ _ _ _ _ _ _ _
    refine z_istore (ls1 := [some (.ref 0), some (zi 3), some (zi i), some (zl v), none, some (zi (-13))]) gi_138_19 rfl ?_
    refine z_iload5 gi_138_21 ?_
    refine z_if_geF gi_138_23 zrn_13 (by decide) ?_
    refine z_iload5 gi_138_26 ?_
    refine z_iret gi_138_28 gr_138 ?_
    refine ⟨_, rfl, ?_⟩
    show zW _ _ _ _ [some (.ref 50), some (zi 3), some (zi i), some (zl v), none, none, none] _ _ _ _ _
    refine z_aload0 gi_252_0 ?_
    refine z_iload1 gi_252_1 ?_
    refine z_iload2 gi_252_2 ?_
    refine z_cV2 gi_252_3 gk_50 go_251 (Nat.le_of_ble_eq_true rfl) gc_251_RII ?_
    refine z_iload1 gi_251_0 ?_
    refine z_cS1 gi_251_1 (Nat.le_of_ble_eq_true rfl) gc_248_I ?_
    refine z_iload0 gi_248_0 ?_
    refine z_pushJ gp_248_1 ?_
    refine z_pushJ gp_248_2 ?_
    refine z_cS3 gi_248_3 (Nat.le_of_ble_eq_true rfl) gc_148_III ?_
    refine z_iload0 gi_148_0 ?_
    refine z_iload1 gi_148_1 ?_
    refine z_icmp_ltF gi_148_2 zr_3 zr_0 (by decide) ?_
    refine z_iload0 gi_148_5 ?_
    refine z_iload2 gi_148_6 ?_
    refine z_icmp_gtF gi_148_7 zr_3 zr_5 (by decide) ?_
    refine z_pushJ gp_148_10 ?_
    refine z_goto gi_148_11 ?_
    refine z_bret1 gi_148_15 gr_148 ?_
    show zW _ _ _ _ _ _ _ _ _ _
    refine z_bret1 gi_248_6 gr_248 ?_
    show zW _ _ _ _ _ _ _ _ _ _
    refine z_if_neT gi_251_4 zr_1 (by decide) ?_
    refine z_aload0 gi_251_9 ?_
    refine z_getR (r := 83) gi_251_10 gk_50 (hRr _ rm_50_58 (by decide)) ?_
    refine z_iload1 gi_251_13 ?_
    refine z_iald (v := (-3)) gi_251_14 gk_83 (by decide) (by decide) ((e83.trans (by rw [hso]; rfl))) ?_
    refine z_pushJ gp_251_15 ?_
    refine z_icmp_neT gi_251_16 zrn_3 zrn_1 (by decide) ?_
    refine z_aload0 gi_251_22 ?_
    refine z_getR (r := 83) gi_251_23 gk_50 (hRr _ rm_50_58 (by decide)) ?_
    refine z_iload1 gi_251_26 ?_
    refine z_iald (v := (-3)) gi_251_27 gk_83 (by decide) (by decide) ((e83.trans (by rw [hso]; rfl))) ?_
    refine z_if_ltT gi_251_28 zrn_3 (by decide) ?_
    refine z_iload2 gi_251_34 ?_
    refine z_pushJ gp_251_35 ?_
    refine z_aload0 gi_251_36 ?_
    refine z_getR (r := 84) gi_251_37 gk_50 (hRr _ rm_50_59 (by decide)) ?_
    refine z_iload1 gi_251_40 ?_
    refine z_iald (v := J 44 3) gi_251_41 gk_84 (by decide) (by decide) (s7) ?_
    refine z_pushJ gp_251_42 ?_
    refine z_isub (e := (J 44 3) - 1) gi_251_43 rfl ?_
    refine z_cS3 gi_251_44 (Nat.le_of_ble_eq_true rfl) gc_148_III ?_
    refine z_iload0 gi_148_0 ?_
    refine z_iload1 gi_148_1 ?_
    refine z_icmp_ltT gi_148_2 (by omega) zr_0 (by omega) ?_
    refine z_pushJ gp_148_14 ?_
    refine z_bret0 gi_148_15 gr_148 ?_
    show zW _ _ _ _ _ _ _ _ _ _
    refine z_if_eqT gi_251_47 zr_0 (by decide) ?_
    refine z_pushJ gp_251_54 ?_
    refine z_iret gi_251_56 gr_251 ?_
    show zW _ _ _ _ _ _ _ _ _ _
    refine z_istore (ls1 := [some (.ref 50), some (zi 3), some (zi i), some (zl v), none, some (zi (-13)), none]) gi_252_6 rfl ?_
    refine z_iload5 gi_252_8 ?_
    refine z_if_geF gi_252_10 zrn_13 (by decide) ?_
    refine z_iload5 gi_252_13 ?_
    refine z_iret gi_252_15 gr_252 ?_
    refine ⟨?_, ?_⟩
    · first | rfl | exact congrArg (fun v => some (zi v)) (by omega) | (exfalso; omega)
    · exact hr
  · refine z_iload1 gi_70_25 ?_
    refine z_aload0 gi_70_26 ?_
    refine z_getI (v := J 44 3) gi_70_27 gk_44 (rfl) ?_
    refine z_icmp_ge gi_70_30 (by omega) (by omega) (fun h2 => ?_) (fun h2 => ?_)
    · refine z_pushJ gp_70_37 ?_
      refine z_iret gi_70_39 gr_70 ?_
      show zW _ _ _ _ _ _ _ _ _ _
      refine z_istore (ls1 := [some (.ref 0), some (zi 3), some (zi i), some (zl v), none, some (zi (-13))]) gi_138_19 rfl ?_
      refine z_iload5 gi_138_21 ?_
      refine z_if_geF gi_138_23 zrn_13 (by decide) ?_
      refine z_iload5 gi_138_26 ?_
      refine z_iret gi_138_28 gr_138 ?_
      refine ⟨_, rfl, ?_⟩
      show zW _ _ _ _ [some (.ref 50), some (zi 3), some (zi i), some (zl v), none, none, none] _ _ _ _ _
      refine z_aload0 gi_252_0 ?_
      refine z_iload1 gi_252_1 ?_
      refine z_iload2 gi_252_2 ?_
      refine z_cV2 gi_252_3 gk_50 go_251 (Nat.le_of_ble_eq_true rfl) gc_251_RII ?_
      refine z_iload1 gi_251_0 ?_
      refine z_cS1 gi_251_1 (Nat.le_of_ble_eq_true rfl) gc_248_I ?_
      refine z_iload0 gi_248_0 ?_
      refine z_pushJ gp_248_1 ?_
      refine z_pushJ gp_248_2 ?_
      refine z_cS3 gi_248_3 (Nat.le_of_ble_eq_true rfl) gc_148_III ?_
      refine z_iload0 gi_148_0 ?_
      refine z_iload1 gi_148_1 ?_
      refine z_icmp_ltF gi_148_2 zr_3 zr_0 (by decide) ?_
      refine z_iload0 gi_148_5 ?_
      refine z_iload2 gi_148_6 ?_
      refine z_icmp_gtF gi_148_7 zr_3 zr_5 (by decide) ?_
      refine z_pushJ gp_148_10 ?_
      refine z_goto gi_148_11 ?_
      refine z_bret1 gi_148_15 gr_148 ?_
      show zW _ _ _ _ _ _ _ _ _ _
      refine z_bret1 gi_248_6 gr_248 ?_
      show zW _ _ _ _ _ _ _ _ _ _
      refine z_if_neT gi_251_4 zr_1 (by decide) ?_
      refine z_aload0 gi_251_9 ?_
      refine z_getR (r := 83) gi_251_10 gk_50 (hRr _ rm_50_58 (by decide)) ?_
      refine z_iload1 gi_251_13 ?_
      refine z_iald (v := (-3)) gi_251_14 gk_83 (by decide) (by decide) ((e83.trans (by rw [hso]; rfl))) ?_
      refine z_pushJ gp_251_15 ?_
      refine z_icmp_neT gi_251_16 zrn_3 zrn_1 (by decide) ?_
      refine z_aload0 gi_251_22 ?_
      refine z_getR (r := 83) gi_251_23 gk_50 (hRr _ rm_50_58 (by decide)) ?_
      refine z_iload1 gi_251_26 ?_
      refine z_iald (v := (-3)) gi_251_27 gk_83 (by decide) (by decide) ((e83.trans (by rw [hso]; rfl))) ?_
      refine z_if_ltT gi_251_28 zrn_3 (by decide) ?_
      refine z_iload2 gi_251_34 ?_
      refine z_pushJ gp_251_35 ?_
      refine z_aload0 gi_251_36 ?_
      refine z_getR (r := 84) gi_251_37 gk_50 (hRr _ rm_50_59 (by decide)) ?_
      refine z_iload1 gi_251_40 ?_
      refine z_iald (v := J 44 3) gi_251_41 gk_84 (by decide) (by decide) (s7) ?_
      refine z_pushJ gp_251_42 ?_
      refine z_isub (e := (J 44 3) - 1) gi_251_43 rfl ?_
      refine z_cS3 gi_251_44 (Nat.le_of_ble_eq_true rfl) gc_148_III ?_
      refine z_iload0 gi_148_0 ?_
      refine z_iload1 gi_148_1 ?_
      refine z_icmp_ltF gi_148_2 (by omega) zr_0 (by omega) ?_
      refine z_iload0 gi_148_5 ?_
      refine z_iload2 gi_148_6 ?_
      refine z_icmp_gtT gi_148_7 (by omega) (by omega) (by omega) ?_
      refine z_pushJ gp_148_14 ?_
      refine z_bret0 gi_148_15 gr_148 ?_
      show zW _ _ _ _ _ _ _ _ _ _
      refine z_if_eqT gi_251_47 zr_0 (by decide) ?_
      refine z_pushJ gp_251_54 ?_
      refine z_iret gi_251_56 gr_251 ?_
      show zW _ _ _ _ _ _ _ _ _ _
      refine z_istore (ls1 := [some (.ref 50), some (zi 3), some (zi i), some (zl v), none, some (zi (-13)), none]) gi_252_6 rfl ?_
      refine z_iload5 gi_252_8 ?_
      refine z_if_geF gi_252_10 zrn_13 (by decide) ?_
      refine z_iload5 gi_252_13 ?_
      refine z_iret gi_252_15 gr_252 ?_
      refine ⟨?_, ?_⟩
      · first | rfl | exact congrArg (fun v => some (zi v)) (by omega) | (exfalso; omega)
      · exact hr
    · refine z_pushJ gp_70_33 ?_
      refine z_goto gi_70_34 ?_
      refine z_iret gi_70_39 gr_70 ?_
      show zW _ _ _ _ _ _ _ _ _ _
      refine z_istore (ls1 := [some (.ref 0), some (zi 3), some (zi i), some (zl v), none, some (zi 0)]) gi_138_19 rfl ?_
      refine z_iload5 gi_138_21 ?_
      refine z_if_geT gi_138_23 zr_0 (by decide) ?_
      refine z_aload0 gi_138_29 ?_
      refine z_getR (r := 37) gi_138_30 gk_0 (hR _ rm_0_11) ?_
      refine z_iload1 gi_138_33 ?_
      refine z_aald (r := 44) gi_138_34 rfl (by decide) (by decide) (hR _ rm_37_3) ?_
      refine z_iload2 gi_138_35 ?_
      refine z_lload3 gi_138_36 ?_
      refine z_callVi (As := [_, _]) (le := [some _, some _, some _, none]) gi_138_37 rfl gk_44 (Nat.le_of_ble_eq_true rfl) (Nat.le_of_ble_eq_true rfl) rfl ?_
      refine z_iload1 gi_73_0 ?_
      refine z_if_ltF gi_73_1 (by omega) (by omega) ?_
      refine z_iload1 gi_73_4 ?_
      refine z_aload0 gi_73_5 ?_
      refine z_getI (v := J 44 3) gi_73_6 gk_44 (rfl) ?_
      refine z_icmp_geF gi_73_9 (by omega) (by omega) (by omega) ?_
      refine z_aload0 gi_73_12 ?_
      refine z_getR (r := 45) gi_73_13 gk_44 (hR _ rm_44_4) ?_
      refine z_iload1 gi_73_16 ?_
      refine z_aload0 gi_73_17 ?_
      refine z_lload2 gi_73_18 ?_
      refine z_callVi (As := [_]) (le := [some _, some _, none]) gi_73_19 rfl gk_44 (Nat.le_of_ble_eq_true rfl) (Nat.le_of_ble_eq_true rfl) rfl ?_
      refine z_aload0 gi_74_0 ?_
      refine z_getI (v := 1) gi_74_1 gk_44 (hso) ?_
      refine z_swI (tg := 45) gi_74_4 (by decide) (T := [((0 : Int), 40), ((1 : Int), 45), ((2 : Int), 50), ((3 : Int), 66), ((4 : Int), 54)]) rfl (by decide) ?_
      refine z_lload1 gi_74_45 ?_
      refine z_l2i gi_74_46 ?_
      refine z_i2s (e := zh v) gi_74_47 rfl ?_
      have q3 := zh_r v
      refine z_i2l gi_74_48 (by omega) ?_
      refine z_lret gi_74_49 gr_74 ?_
      show zW _ _ _ _ _ _ _ _ _ _
      refine z_last (e := zh v) gi_73_22 gk_45 (by decide) (by omega) rfl ?_
      refine z_vret gi_73_23 gr_73 ?_
      show zW _ _ _ _ _ _ _ _ _ _
      refine z_pushJ gp_138_40 ?_
      refine z_iret gi_138_41 gr_138 ?_
      refine ⟨_, rfl, ?_⟩
      show zW _ _ _ _ [some (.ref 50), some (zi 3), some (zi i), some (zl v), none, none, none] _ _ _ _ _
      refine z_aload0 gi_252_0 ?_
      refine z_iload1 gi_252_1 ?_
      refine z_iload2 gi_252_2 ?_
      refine z_cV2 gi_252_3 gk_50 go_251 (Nat.le_of_ble_eq_true rfl) gc_251_RII ?_
      refine z_iload1 gi_251_0 ?_
      refine z_cS1 gi_251_1 (Nat.le_of_ble_eq_true rfl) gc_248_I ?_
      refine z_iload0 gi_248_0 ?_
      refine z_pushJ gp_248_1 ?_
      refine z_pushJ gp_248_2 ?_
      refine z_cS3 gi_248_3 (Nat.le_of_ble_eq_true rfl) gc_148_III ?_
      refine z_iload0 gi_148_0 ?_
      refine z_iload1 gi_148_1 ?_
      refine z_icmp_ltF gi_148_2 zr_3 zr_0 (by decide) ?_
      refine z_iload0 gi_148_5 ?_
      refine z_iload2 gi_148_6 ?_
      refine z_icmp_gtF gi_148_7 zr_3 zr_5 (by decide) ?_
      refine z_pushJ gp_148_10 ?_
      refine z_goto gi_148_11 ?_
      refine z_bret1 gi_148_15 gr_148 ?_
      show zW _ _ _ _ _ _ _ _ _ _
      refine z_bret1 gi_248_6 gr_248 ?_
      show zW _ _ _ _ _ _ _ _ _ _
      refine z_if_neT gi_251_4 zr_1 (by decide) ?_
      refine z_aload0 gi_251_9 ?_
      refine z_getR (r := 83) gi_251_10 gk_50 (hRr _ rm_50_58 (by decide)) ?_
      refine z_iload1 gi_251_13 ?_
      refine z_iald (v := (-3)) gi_251_14 gk_83 (by decide) (by decide) ((e83.trans (by rw [hso]; rfl))) ?_
      refine z_pushJ gp_251_15 ?_
      refine z_icmp_neT gi_251_16 zrn_3 zrn_1 (by decide) ?_
      refine z_aload0 gi_251_22 ?_
      refine z_getR (r := 83) gi_251_23 gk_50 (hRr _ rm_50_58 (by decide)) ?_
      refine z_iload1 gi_251_26 ?_
      refine z_iald (v := (-3)) gi_251_27 gk_83 (by decide) (by decide) ((e83.trans (by rw [hso]; rfl))) ?_
      refine z_if_ltT gi_251_28 zrn_3 (by decide) ?_
      refine z_iload2 gi_251_34 ?_
      refine z_pushJ gp_251_35 ?_
      refine z_aload0 gi_251_36 ?_
      refine z_getR (r := 84) gi_251_37 gk_50 (hRr _ rm_50_59 (by decide)) ?_
      refine z_iload1 gi_251_40 ?_
      refine z_iald (v := J 44 3) gi_251_41 gk_84 (by decide) (by decide) (s7) ?_
      refine z_pushJ gp_251_42 ?_
      refine z_isub (e := (J 44 3) - 1) gi_251_43 rfl ?_
      refine z_cS3 gi_251_44 (Nat.le_of_ble_eq_true rfl) gc_148_III ?_
      refine z_iload0 gi_148_0 ?_
      refine z_iload1 gi_148_1 ?_
      refine z_icmp_ltF gi_148_2 (by omega) zr_0 (by omega) ?_
      refine z_iload0 gi_148_5 ?_
      refine z_iload2 gi_148_6 ?_
      refine z_icmp_gtF gi_148_7 (by omega) (by omega) (by omega) ?_
      refine z_pushJ gp_148_10 ?_
      refine z_goto gi_148_11 ?_
      refine z_bret1 gi_148_15 gr_148 ?_
      show zW _ _ _ _ _ _ _ _ _ _
      refine z_if_eqF gi_251_47 zr_1 (by decide) ?_
      refine z_pushJ gp_251_50 ?_
      refine z_goto gi_251_51 ?_
      refine z_iret gi_251_56 gr_251 ?_
      show zW _ _ _ _ _ _ _ _ _ _
      refine z_istore (ls1 := [some (.ref 50), some (zi 3), some (zi i), some (zl v), none, some (zi 0), none]) gi_252_6 rfl ?_
      refine z_iload5 gi_252_8 ?_
      refine z_if_geT gi_252_10 zr_0 (by decide) ?_
      refine z_pushJ gp_252_16 ?_
      refine z_aload0 gi_252_18 ?_
      refine z_getR (r := 83) gi_252_19 gk_50 (hRr _ rm_50_58 (by decide)) ?_
      refine z_iload1 gi_252_22 ?_
      refine z_iald (v := (-3)) gi_252_23 gk_83 (by decide) (by decide) ((e83.trans (by rw [hso]; rfl))) ?_
      refine z_isub (e := 1) gi_252_24 rfl ?_
      refine z_istore (ls1 := [some (.ref 50), some (zi 3), some (zi i), some (zl v), none, some (zi 0), some (zi 1)]) gi_252_25 rfl ?_
      refine z_aload0 gi_252_27 ?_
      refine z_getR (r := 85) gi_252_28 gk_50 (hRr _ rm_50_60 (by decide)) ?_
      refine z_pushJ gp_252_31 ?_
      refine z_iload1 gi_252_33 ?_
      refine z_imul (e := 180) gi_252_34 rfl ?_
      refine z_iload2 gi_252_35 ?_
      refine z_iadd (e := 180 + i) gi_252_36 rfl ?_
      refine z_iload6 gi_252_37 ?_
      refine z_if_neT gi_252_39 zr_1 (by decide) ?_
      refine z_iload6 gi_252_49 ?_
      refine z_pushJ gp_252_51 ?_
      refine z_icmp_neF gi_252_52 zr_1 zr_1 (by decide) ?_
      refine z_lload3 gi_252_55 ?_
      refine z_l2i gi_252_56 ?_
      refine z_i2s (e := zh v) gi_252_57 rfl ?_
      have q4 := zh_r v
      refine z_i2l gi_252_58 (by omega) ?_
      refine z_goto gi_252_59 ?_
      refine z_last (e := zh v) gi_252_95 gk_85 (by decide) (by omega) rfl ?_
      refine z_pushJ gp_252_96 ?_
      refine z_iret gi_252_97 gr_252 ?_
      refine ⟨?_, ?_⟩
      · first | rfl | exact congrArg (fun v => some (zi v)) (by omega) | (exfalso; omega)
      · have hk := (zK_r (k := (kL [] [])) (A := J))
        have hkm := (zK_x (a := 85) (x := 180 + i) (v := zh v) (zK_x (a := 45) (x := i) (v := zh v) (zK_r (k := (kL [45, 85] [])) (A := M)) rfl) rfl)
        exact ⟨hR, hG, RelY_k hk (by repeat' constructor) (fun p => by repeat' constructor) hY, RelD_k hk (by repeat' constructor) (fun p => by repeat' constructor) hD, RelP_k hk (by repeat' constructor) (fun p => by repeat' constructor) hP, RelC_k hk (by repeat' constructor) (fun p => by repeat' constructor) hC, RelA_k hk (by repeat' constructor) (fun p => by repeat' constructor) hAc, (RelS_one (J := J) (M := M) (c := 3) (fun t t1 t2 te => by have q : t = 0 ∨ t = 1 ∨ t = 2 ∨ t = 3 ∨ t = 4 ∨ t = 5 := (by omega); rcases q with rfl | rfl | rfl | rfl | rfl | rfl <;> first | exact absurd rfl te | exact ⟨fun j => rfl, rfl, rfl⟩) (fun t t1 t2 te => by have q : t = 0 ∨ t = 1 ∨ t = 2 ∨ t = 3 ∨ t = 4 ∨ t = 5 := (by omega); rcases q with rfl | rfl | rfl | rfl | rfl | rfl <;> first | exact absurd rfl te | exact ⟨fun j => rfl, fun j j1 j2 => (zU_x (by omega)).trans (zU_n (by decide))⟩) rfl (show RelS1 _ _ _ from ⟨(hS 3 (by decide) (by decide)).1, (hS 3 (by decide) (by decide)).2.1, s3, s4, (hS 3 (by decide) (by decide)).2.2.2.2.1, fun _ => ⟨s7.symm, fun k k1 k2 => by show (if k = i then zh v else M 45 k) = (if 180 + k = 180 + i then zh v else M 85 (180 + k)); by_cases e : k = i; rw [if_pos e, if_pos (by omega)]; rw [if_neg e, if_neg (by omega)]; exact s8 k k1 k2, (fun hq => absurd (Eq.trans (Eq.symm hq) hso) (by decide))⟩⟩) hS), RelT_k hk (by repeat' constructor) (fun p => by repeat' constructor) hTp, RelX_k hk (by repeat' constructor) (fun p => by repeat' constructor) hX, RelW_k hk ⟨rfl, rfl⟩ trivial hW⟩
theorem st_put_322 {X : Nat × (Nat → Int32)} {d : Nat} {J M : zA} {R : zR} {i v : Int} (hr : Rel X J M R) (hi : -2147483648 ≤ i ∧ i < 2147483648) (hv : -9223372036854775808 ≤ v ∧ v < 9223372036854775808) (hh : J 44 0 = 2) (hso : J 44 2 = 2) : zW X (d + 20) 138 0 (gEn 138 [(.ref 0), (zi 3), (zi i), (zl v)]) [] J M R (stP X (d + 20) 252 [(zi 3), (zi i), (zl v)]) := by
  have hr0 := hr
  obtain ⟨hR, hG, hY, hD, hP, hC, hAc, hS, hTp, hX, hW⟩ := hr0
  have hRr : zRoR R := zRoR_of hR
  have e83 : J 83 3 = -2 - J 44 2 := (hS 3 (by decide) (by decide)).1.symm.trans (cH_2 hh)
  have s3 : 0 ≤ J 44 2 ∧ J 44 2 ≤ 4 := (hS 3 (by decide) (by decide)).2.2.1
  have s4 : 0 ≤ J 44 3 ∧ J 44 3 ≤ 60 := (hS 3 (by decide) (by decide)).2.2.2.1
  have s6 := (hS 3 (by decide) (by decide)).2.2.2.2.2 hh
  have s7 : J 84 3 = J 44 3 := s6.1.symm
  have s8 : ∀ i, 0 ≤ i → i < J 44 3 → M 45 i = M 85 (180 + i) := s6.2.1
  show zW _ _ _ _ [some (.ref 0), some (zi 3), some (zi i), some (zl v), none, none] _ _ _ _ _
  refine z_iload1 gi_138_0 ?_
  refine z_cS1 gi_138_1 (Nat.le_of_ble_eq_true rfl) gc_143_I ?_
  refine z_iload0 gi_143_0 ?_
  refine z_if_ltF gi_143_1 zr_3 (by decide) ?_
  refine z_iload0 gi_143_4 ?_
  refine z_pushJ gp_143_5 ?_
  refine z_icmp_geF gi_143_7 zr_3 zr_6 (by decide) ?_
  refine z_pushJ gp_143_10 ?_
  refine z_goto gi_143_11 ?_
  refine z_bret1 gi_143_15 gr_143 ?_
  show zW _ _ _ _ _ _ _ _ _ _
  refine z_if_neT gi_138_4 zr_1 (by decide) ?_
  refine z_aload0 gi_138_9 ?_
  refine z_getR (r := 37) gi_138_10 gk_0 (hR _ rm_0_11) ?_
  refine z_iload1 gi_138_13 ?_
  refine z_aald (r := 44) gi_138_14 rfl (by decide) (by decide) (hR _ rm_37_3) ?_
  refine z_iload2 gi_138_15 ?_
  refine z_cV1 gi_138_16 gk_44 go_70 (Nat.le_of_ble_eq_true rfl) gc_70_RI ?_
  refine z_aload0 gi_70_0 ?_
  refine z_getI (v := 2) gi_70_1 gk_44 (hh) ?_
  refine z_if_neT gi_70_4 zr_2 (by decide) ?_
  refine z_aload0 gi_70_10 ?_
  refine z_getI (v := 2) gi_70_11 gk_44 (hh) ?_
  refine z_pushJ gp_70_14 ?_
  refine z_icmp_eqT gi_70_15 zr_2 zr_2 (by decide) ?_
  refine z_iload1 gi_70_21 ?_
  refine z_if_lt gi_70_22 (by omega) (fun h1 => ?_) (fun h1 => ?_)
  · refine z_pushJ gp_70_37 ?_
    refine z_iret gi_70_39 gr_70 ?_
    show zW _ _ _ _ _ _ _ _ _ _
    refine z_istore (ls1 := [some (.ref 0), some (zi 3), some (zi i), some (zl v), none, some (zi (-13))]) gi_138_19 rfl ?_
    refine z_iload5 gi_138_21 ?_
    refine z_if_geF gi_138_23 zrn_13 (by decide) ?_
    refine z_iload5 gi_138_26 ?_
    refine z_iret gi_138_28 gr_138 ?_
    refine ⟨_, rfl, ?_⟩
    show zW _ _ _ _ [some (.ref 50), some (zi 3), some (zi i), some (zl v), none, none, none] _ _ _ _ _
    refine z_aload0 gi_252_0 ?_
    refine z_iload1 gi_252_1 ?_
    refine z_iload2 gi_252_2 ?_
    refine z_cV2 gi_252_3 gk_50 go_251 (Nat.le_of_ble_eq_true rfl) gc_251_RII ?_
    refine z_iload1 gi_251_0 ?_
    refine z_cS1 gi_251_1 (Nat.le_of_ble_eq_true rfl) gc_248_I ?_
    refine z_iload0 gi_248_0 ?_
    refine z_pushJ gp_248_1 ?_
    refine z_pushJ gp_248_2 ?_
    refine z_cS3 gi_248_3 (Nat.le_of_ble_eq_true rfl) gc_148_III ?_
    refine z_iload0 gi_148_0 ?_
    refine z_iload1 gi_148_1 ?_
    refine z_icmp_ltF gi_148_2 zr_3 zr_0 (by decide) ?_
    refine z_iload0 gi_148_5 ?_
    refine z_iload2 gi_148_6 ?_
    refine z_icmp_gtF gi_148_7 zr_3 zr_5 (by decide) ?_
    refine z_pushJ gp_148_10 ?_
    refine z_goto gi_148_11 ?_
    refine z_bret1 gi_148_15 gr_148 ?_
    show zW _ _ _ _ _ _ _ _ _ _
    refine z_bret1 gi_248_6 gr_248 ?_
    show zW _ _ _ _ _ _ _ _ _ _
    refine z_if_neT gi_251_4 zr_1 (by decide) ?_
    refine z_aload0 gi_251_9 ?_
    refine z_getR (r := 83) gi_251_10 gk_50 (hRr _ rm_50_58 (by decide)) ?_
    refine z_iload1 gi_251_13 ?_
    refine z_iald (v := (-4)) gi_251_14 gk_83 (by decide) (by decide) ((e83.trans (by rw [hso]; rfl))) ?_
    refine z_pushJ gp_251_15 ?_
    refine z_icmp_neT gi_251_16 zrn_4 zrn_1 (by decide) ?_
    refine z_aload0 gi_251_22 ?_
    refine z_getR (r := 83) gi_251_23 gk_50 (hRr _ rm_50_58 (by decide)) ?_
    refine z_iload1 gi_251_26 ?_
    refine z_iald (v := (-4)) gi_251_27 gk_83 (by decide) (by decide) ((e83.trans (by rw [hso]; rfl))) ?_
    refine z_if_ltT gi_251_28 zrn_4 (by decide) ?_
    refine z_iload2 gi_251_34 ?_
    refine z_pushJ gp_251_35 ?_
    refine z_aload0 gi_251_36 ?_
    refine z_getR (r := 84) gi_251_37 gk_50 (hRr _ rm_50_59 (by decide)) ?_
    refine z_iload1 gi_251_40 ?_
    refine z_iald (v := J 44 3) gi_251_41 gk_84 (by decide) (by decide) (s7) ?_
    refine z_pushJ gp_251_42 ?_
    refine z_isub (e := (J 44 3) - 1) gi_251_43 rfl ?_
    refine z_cS3 gi_251_44 (Nat.le_of_ble_eq_true rfl) gc_148_III ?_
    refine z_iload0 gi_148_0 ?_
    refine z_iload1 gi_148_1 ?_
    refine z_icmp_ltT gi_148_2 (by omega) zr_0 (by omega) ?_
    refine z_pushJ gp_148_14 ?_
    refine z_bret0 gi_148_15 gr_148 ?_
    show zW _ _ _ _ _ _ _ _ _ _
    refine z_if_eqT gi_251_47 zr_0 (by decide) ?_
    refine z_pushJ gp_251_54 ?_
    refine z_iret gi_251_56 gr_251 ?_
    show zW _ _ _ _ _ _ _ _ _ _
    refine z_istore (ls1 := [some (.ref 50), some (zi 3), some (zi i), some (zl v), none, some (zi (-13)), none]) gi_252_6 rfl ?_
    refine z_iload5 gi_252_8 ?_
    refine z_if_geF gi_252_10 zrn_13 (by decide) ?_
    refine z_iload5 gi_252_13 ?_
    refine z_iret gi_252_15 gr_252 ?_
    refine ⟨?_, ?_⟩
    · first | rfl | exact congrArg (fun v => some (zi v)) (by omega) | (exfalso; omega)
    · exact hr
  · refine z_iload1 gi_70_25 ?_
    refine z_aload0 gi_70_26 ?_
    refine z_getI (v := J 44 3) gi_70_27 gk_44 (rfl) ?_
    refine z_icmp_ge gi_70_30 (by omega) (by omega) (fun h2 => ?_) (fun h2 => ?_)
    · refine z_pushJ gp_70_37 ?_
      refine z_iret gi_70_39 gr_70 ?_
      show zW _ _ _ _ _ _ _ _ _ _
      refine z_istore (ls1 := [some (.ref 0), some (zi 3), some (zi i), some (zl v), none, some (zi (-13))]) gi_138_19 rfl ?_
      refine z_iload5 gi_138_21 ?_
      refine z_if_geF gi_138_23 zrn_13 (by decide) ?_
      refine z_iload5 gi_138_26 ?_
      refine z_iret gi_138_28 gr_138 ?_
      refine ⟨_, rfl, ?_⟩
      show zW _ _ _ _ [some (.ref 50), some (zi 3), some (zi i), some (zl v), none, none, none] _ _ _ _ _
      refine z_aload0 gi_252_0 ?_
      refine z_iload1 gi_252_1 ?_
      refine z_iload2 gi_252_2 ?_
      refine z_cV2 gi_252_3 gk_50 go_251 (Nat.le_of_ble_eq_true rfl) gc_251_RII ?_
      refine z_iload1 gi_251_0 ?_
      refine z_cS1 gi_251_1 (Nat.le_of_ble_eq_true rfl) gc_248_I ?_
      refine z_iload0 gi_248_0 ?_
      refine z_pushJ gp_248_1 ?_
      refine z_pushJ gp_248_2 ?_
      refine z_cS3 gi_248_3 (Nat.le_of_ble_eq_true rfl) gc_148_III ?_
      refine z_iload0 gi_148_0 ?_
      refine z_iload1 gi_148_1 ?_
      refine z_icmp_ltF gi_148_2 zr_3 zr_0 (by decide) ?_
      refine z_iload0 gi_148_5 ?_
      refine z_iload2 gi_148_6 ?_
      refine z_icmp_gtF gi_148_7 zr_3 zr_5 (by decide) ?_
      refine z_pushJ gp_148_10 ?_
      refine z_goto gi_148_11 ?_
      refine z_bret1 gi_148_15 gr_148 ?_
      show zW _ _ _ _ _ _ _ _ _ _
      refine z_bret1 gi_248_6 gr_248 ?_
      show zW _ _ _ _ _ _ _ _ _ _
      refine z_if_neT gi_251_4 zr_1 (by decide) ?_
      refine z_aload0 gi_251_9 ?_
      refine z_getR (r := 83) gi_251_10 gk_50 (hRr _ rm_50_58 (by decide)) ?_
      refine z_iload1 gi_251_13 ?_
      refine z_iald (v := (-4)) gi_251_14 gk_83 (by decide) (by decide) ((e83.trans (by rw [hso]; rfl))) ?_
      refine z_pushJ gp_251_15 ?_
      refine z_icmp_neT gi_251_16 zrn_4 zrn_1 (by decide) ?_
      refine z_aload0 gi_251_22 ?_
      refine z_getR (r := 83) gi_251_23 gk_50 (hRr _ rm_50_58 (by decide)) ?_
      refine z_iload1 gi_251_26 ?_
      refine z_iald (v := (-4)) gi_251_27 gk_83 (by decide) (by decide) ((e83.trans (by rw [hso]; rfl))) ?_
      refine z_if_ltT gi_251_28 zrn_4 (by decide) ?_
      refine z_iload2 gi_251_34 ?_
      refine z_pushJ gp_251_35 ?_
      refine z_aload0 gi_251_36 ?_
      refine z_getR (r := 84) gi_251_37 gk_50 (hRr _ rm_50_59 (by decide)) ?_
      refine z_iload1 gi_251_40 ?_
      refine z_iald (v := J 44 3) gi_251_41 gk_84 (by decide) (by decide) (s7) ?_
      refine z_pushJ gp_251_42 ?_
      refine z_isub (e := (J 44 3) - 1) gi_251_43 rfl ?_
      refine z_cS3 gi_251_44 (Nat.le_of_ble_eq_true rfl) gc_148_III ?_
      refine z_iload0 gi_148_0 ?_
      refine z_iload1 gi_148_1 ?_
      refine z_icmp_ltF gi_148_2 (by omega) zr_0 (by omega) ?_
      refine z_iload0 gi_148_5 ?_
      refine z_iload2 gi_148_6 ?_
      refine z_icmp_gtT gi_148_7 (by omega) (by omega) (by omega) ?_
      refine z_pushJ gp_148_14 ?_
      refine z_bret0 gi_148_15 gr_148 ?_
      show zW _ _ _ _ _ _ _ _ _ _
      refine z_if_eqT gi_251_47 zr_0 (by decide) ?_
      refine z_pushJ gp_251_54 ?_
      refine z_iret gi_251_56 gr_251 ?_
      show zW _ _ _ _ _ _ _ _ _ _
      refine z_istore (ls1 := [some (.ref 50), some (zi 3), some (zi i), some (zl v), none, some (zi (-13)), none]) gi_252_6 rfl ?_
      refine z_iload5 gi_252_8 ?_
      refine z_if_geF gi_252_10 zrn_13 (by decide) ?_
      refine z_iload5 gi_252_13 ?_
      refine z_iret gi_252_15 gr_252 ?_
      refine ⟨?_, ?_⟩
      · first | rfl | exact congrArg (fun v => some (zi v)) (by omega) | (exfalso; omega)
      · exact hr
    · refine z_pushJ gp_70_33 ?_
      refine z_goto gi_70_34 ?_
      refine z_iret gi_70_39 gr_70 ?_
      show zW _ _ _ _ _ _ _ _ _ _
      refine z_istore (ls1 := [some (.ref 0), some (zi 3), some (zi i), some (zl v), none, some (zi 0)]) gi_138_19 rfl ?_
      refine z_iload5 gi_138_21 ?_
      refine z_if_geT gi_138_23 zr_0 (by decide) ?_
      refine z_aload0 gi_138_29 ?_
      refine z_getR (r := 37) gi_138_30 gk_0 (hR _ rm_0_11) ?_
      refine z_iload1 gi_138_33 ?_
      refine z_aald (r := 44) gi_138_34 rfl (by decide) (by decide) (hR _ rm_37_3) ?_
      refine z_iload2 gi_138_35 ?_
      refine z_lload3 gi_138_36 ?_
      refine z_callVi (As := [_, _]) (le := [some _, some _, some _, none]) gi_138_37 rfl gk_44 (Nat.le_of_ble_eq_true rfl) (Nat.le_of_ble_eq_true rfl) rfl ?_
      refine z_iload1 gi_73_0 ?_
      refine z_if_ltF gi_73_1 (by omega) (by omega) ?_
      refine z_iload1 gi_73_4 ?_
      refine z_aload0 gi_73_5 ?_
      refine z_getI (v := J 44 3) gi_73_6 gk_44 (rfl) ?_
      refine z_icmp_geF gi_73_9 (by omega) (by omega) (by omega) ?_
      refine z_aload0 gi_73_12 ?_
      refine z_getR (r := 45) gi_73_13 gk_44 (hR _ rm_44_4) ?_
      refine z_iload1 gi_73_16 ?_
      refine z_aload0 gi_73_17 ?_
      refine z_lload2 gi_73_18 ?_
      refine z_callVi (As := [_]) (le := [some _, some _, none]) gi_73_19 rfl gk_44 (Nat.le_of_ble_eq_true rfl) (Nat.le_of_ble_eq_true rfl) rfl ?_
      refine z_aload0 gi_74_0 ?_
      refine z_getI (v := 2) gi_74_1 gk_44 (hso) ?_
      refine z_swI (tg := 50) gi_74_4 (by decide) (T := [((0 : Int), 40), ((1 : Int), 45), ((2 : Int), 50), ((3 : Int), 66), ((4 : Int), 54)]) rfl (by decide) ?_
      refine z_lload1 gi_74_50 ?_
      refine z_l2i gi_74_51 ?_
      refine z_topn (e := zn v) rfl ?_
      have q3 := zn_r v
      refine z_i2l gi_74_52 (by omega) ?_
      refine z_lret gi_74_53 gr_74 ?_
      show zW _ _ _ _ _ _ _ _ _ _
      refine z_last (e := zn v) gi_73_22 gk_45 (by decide) (by omega) rfl ?_
      refine z_vret gi_73_23 gr_73 ?_
      show zW _ _ _ _ _ _ _ _ _ _
      refine z_pushJ gp_138_40 ?_
      refine z_iret gi_138_41 gr_138 ?_
      refine ⟨_, rfl, ?_⟩
      show zW _ _ _ _ [some (.ref 50), some (zi 3), some (zi i), some (zl v), none, none, none] _ _ _ _ _
      refine z_aload0 gi_252_0 ?_
      refine z_iload1 gi_252_1 ?_
      refine z_iload2 gi_252_2 ?_
      refine z_cV2 gi_252_3 gk_50 go_251 (Nat.le_of_ble_eq_true rfl) gc_251_RII ?_
      refine z_iload1 gi_251_0 ?_
      refine z_cS1 gi_251_1 (Nat.le_of_ble_eq_true rfl) gc_248_I ?_
      refine z_iload0 gi_248_0 ?_
      refine z_pushJ gp_248_1 ?_
      refine z_pushJ gp_248_2 ?_
      refine z_cS3 gi_248_3 (Nat.le_of_ble_eq_true rfl) gc_148_III ?_
      refine z_iload0 gi_148_0 ?_
      refine z_iload1 gi_148_1 ?_
      refine z_icmp_ltF gi_148_2 zr_3 zr_0 (by decide) ?_
      refine z_iload0 gi_148_5 ?_
      refine z_iload2 gi_148_6 ?_
      refine z_icmp_gtF gi_148_7 zr_3 zr_5 (by decide) ?_
      refine z_pushJ gp_148_10 ?_
      refine z_goto gi_148_11 ?_
      refine z_bret1 gi_148_15 gr_148 ?_
      show zW _ _ _ _ _ _ _ _ _ _
      refine z_bret1 gi_248_6 gr_248 ?_
      show zW _ _ _ _ _ _ _ _ _ _
      refine z_if_neT gi_251_4 zr_1 (by decide) ?_
      refine z_aload0 gi_251_9 ?_
      refine z_getR (r := 83) gi_251_10 gk_50 (hRr _ rm_50_58 (by decide)) ?_
      refine z_iload1 gi_251_13 ?_
      refine z_iald (v := (-4)) gi_251_14 gk_83 (by decide) (by decide) ((e83.trans (by rw [hso]; rfl))) ?_
      refine z_pushJ gp_251_15 ?_
      refine z_icmp_neT gi_251_16 zrn_4 zrn_1 (by decide) ?_
      refine z_aload0 gi_251_22 ?_
      refine z_getR (r := 83) gi_251_23 gk_50 (hRr _ rm_50_58 (by decide)) ?_
      refine z_iload1 gi_251_26 ?_
      refine z_iald (v := (-4)) gi_251_27 gk_83 (by decide) (by decide) ((e83.trans (by rw [hso]; rfl))) ?_
      refine z_if_ltT gi_251_28 zrn_4 (by decide) ?_
      refine z_iload2 gi_251_34 ?_
      refine z_pushJ gp_251_35 ?_
      refine z_aload0 gi_251_36 ?_
      refine z_getR (r := 84) gi_251_37 gk_50 (hRr _ rm_50_59 (by decide)) ?_
      refine z_iload1 gi_251_40 ?_
      refine z_iald (v := J 44 3) gi_251_41 gk_84 (by decide) (by decide) (s7) ?_
      refine z_pushJ gp_251_42 ?_
      refine z_isub (e := (J 44 3) - 1) gi_251_43 rfl ?_
      refine z_cS3 gi_251_44 (Nat.le_of_ble_eq_true rfl) gc_148_III ?_
      refine z_iload0 gi_148_0 ?_
      refine z_iload1 gi_148_1 ?_
      refine z_icmp_ltF gi_148_2 (by omega) zr_0 (by omega) ?_
      refine z_iload0 gi_148_5 ?_
      refine z_iload2 gi_148_6 ?_
      refine z_icmp_gtF gi_148_7 (by omega) (by omega) (by omega) ?_
      refine z_pushJ gp_148_10 ?_
      refine z_goto gi_148_11 ?_
      refine z_bret1 gi_148_15 gr_148 ?_
      show zW _ _ _ _ _ _ _ _ _ _
      refine z_if_eqF gi_251_47 zr_1 (by decide) ?_
      refine z_pushJ gp_251_50 ?_
      refine z_goto gi_251_51 ?_
      refine z_iret gi_251_56 gr_251 ?_
      show zW _ _ _ _ _ _ _ _ _ _
      refine z_istore (ls1 := [some (.ref 50), some (zi 3), some (zi i), some (zl v), none, some (zi 0), none]) gi_252_6 rfl ?_
      refine z_iload5 gi_252_8 ?_
      refine z_if_geT gi_252_10 zr_0 (by decide) ?_
      refine z_pushJ gp_252_16 ?_
      refine z_aload0 gi_252_18 ?_
      refine z_getR (r := 83) gi_252_19 gk_50 (hRr _ rm_50_58 (by decide)) ?_
      refine z_iload1 gi_252_22 ?_
      refine z_iald (v := (-4)) gi_252_23 gk_83 (by decide) (by decide) ((e83.trans (by rw [hso]; rfl))) ?_
      refine z_isub (e := 2) gi_252_24 rfl ?_
      refine z_istore (ls1 := [some (.ref 50), some (zi 3), some (zi i), some (zl v), none, some (zi 0), some (zi 2)]) gi_252_25 rfl ?_
      refine z_aload0 gi_252_27 ?_
      refine z_getR (r := 85) gi_252_28 gk_50 (hRr _ rm_50_60 (by decide)) ?_
      refine z_pushJ gp_252_31 ?_
      refine z_iload1 gi_252_33 ?_
      refine z_imul (e := 180) gi_252_34 rfl ?_
      refine z_iload2 gi_252_35 ?_
      refine z_iadd (e := 180 + i) gi_252_36 rfl ?_
      refine z_iload6 gi_252_37 ?_
      refine z_if_neT gi_252_39 zr_2 (by decide) ?_
      refine z_iload6 gi_252_49 ?_
      refine z_pushJ gp_252_51 ?_
      refine z_icmp_neT gi_252_52 zr_2 zr_1 (by decide) ?_
      refine z_iload6 gi_252_62 ?_
      refine z_pushJ gp_252_64 ?_
      refine z_icmp_neF gi_252_65 zr_2 zr_2 (by decide) ?_
      refine z_lload3 gi_252_68 ?_
      refine z_l2i gi_252_69 ?_
      refine z_topn (e := zn v) rfl ?_
      have q4 := zn_r v
      refine z_i2l gi_252_70 (by omega) ?_
      refine z_goto gi_252_71 ?_
      refine z_last (e := zn v) gi_252_95 gk_85 (by decide) (by omega) rfl ?_
      refine z_pushJ gp_252_96 ?_
      refine z_iret gi_252_97 gr_252 ?_
      refine ⟨?_, ?_⟩
      · first | rfl | exact congrArg (fun v => some (zi v)) (by omega) | (exfalso; omega)
      · have hk := (zK_r (k := (kL [] [])) (A := J))
        have hkm := (zK_x (a := 85) (x := 180 + i) (v := zn v) (zK_x (a := 45) (x := i) (v := zn v) (zK_r (k := (kL [45, 85] [])) (A := M)) rfl) rfl)
        exact ⟨hR, hG, RelY_k hk (by repeat' constructor) (fun p => by repeat' constructor) hY, RelD_k hk (by repeat' constructor) (fun p => by repeat' constructor) hD, RelP_k hk (by repeat' constructor) (fun p => by repeat' constructor) hP, RelC_k hk (by repeat' constructor) (fun p => by repeat' constructor) hC, RelA_k hk (by repeat' constructor) (fun p => by repeat' constructor) hAc, (RelS_one (J := J) (M := M) (c := 3) (fun t t1 t2 te => by have q : t = 0 ∨ t = 1 ∨ t = 2 ∨ t = 3 ∨ t = 4 ∨ t = 5 := (by omega); rcases q with rfl | rfl | rfl | rfl | rfl | rfl <;> first | exact absurd rfl te | exact ⟨fun j => rfl, rfl, rfl⟩) (fun t t1 t2 te => by have q : t = 0 ∨ t = 1 ∨ t = 2 ∨ t = 3 ∨ t = 4 ∨ t = 5 := (by omega); rcases q with rfl | rfl | rfl | rfl | rfl | rfl <;> first | exact absurd rfl te | exact ⟨fun j => rfl, fun j j1 j2 => (zU_x (by omega)).trans (zU_n (by decide))⟩) rfl (show RelS1 _ _ _ from ⟨(hS 3 (by decide) (by decide)).1, (hS 3 (by decide) (by decide)).2.1, s3, s4, (hS 3 (by decide) (by decide)).2.2.2.2.1, fun _ => ⟨s7.symm, fun k k1 k2 => by show (if k = i then zn v else M 45 k) = (if 180 + k = 180 + i then zn v else M 85 (180 + k)); by_cases e : k = i; rw [if_pos e, if_pos (by omega)]; rw [if_neg e, if_neg (by omega)]; exact s8 k k1 k2, (fun hq => absurd (Eq.trans (Eq.symm hq) hso) (by decide))⟩⟩) hS), RelT_k hk (by repeat' constructor) (fun p => by repeat' constructor) hTp, RelX_k hk (by repeat' constructor) (fun p => by repeat' constructor) hX, RelW_k hk ⟨rfl, rfl⟩ trivial hW⟩
theorem st_put_323 {X : Nat × (Nat → Int32)} {d : Nat} {J M : zA} {R : zR} {i v : Int} (hr : Rel X J M R) (hi : -2147483648 ≤ i ∧ i < 2147483648) (hv : -9223372036854775808 ≤ v ∧ v < 9223372036854775808) (hh : J 44 0 = 2) (hso : J 44 2 = 3) : zW X (d + 20) 138 0 (gEn 138 [(.ref 0), (zi 3), (zi i), (zl v)]) [] J M R (stP X (d + 20) 252 [(zi 3), (zi i), (zl v)]) := by
  have hr0 := hr
  obtain ⟨hR, hG, hY, hD, hP, hC, hAc, hS, hTp, hX, hW⟩ := hr0
  have hRr : zRoR R := zRoR_of hR
  have e83 : J 83 3 = -2 - J 44 2 := (hS 3 (by decide) (by decide)).1.symm.trans (cH_2 hh)
  have s3 : 0 ≤ J 44 2 ∧ J 44 2 ≤ 4 := (hS 3 (by decide) (by decide)).2.2.1
  have s4 : 0 ≤ J 44 3 ∧ J 44 3 ≤ 60 := (hS 3 (by decide) (by decide)).2.2.2.1
  have s6 := (hS 3 (by decide) (by decide)).2.2.2.2.2 hh
  have s7 : J 84 3 = J 44 3 := s6.1.symm
  have s8 : ∀ i, 0 ≤ i → i < J 44 3 → M 45 i = M 85 (180 + i) := s6.2.1
  show zW _ _ _ _ [some (.ref 0), some (zi 3), some (zi i), some (zl v), none, none] _ _ _ _ _
  refine z_iload1 gi_138_0 ?_
  refine z_cS1 gi_138_1 (Nat.le_of_ble_eq_true rfl) gc_143_I ?_
  refine z_iload0 gi_143_0 ?_
  refine z_if_ltF gi_143_1 zr_3 (by decide) ?_
  refine z_iload0 gi_143_4 ?_
  refine z_pushJ gp_143_5 ?_
  refine z_icmp_geF gi_143_7 zr_3 zr_6 (by decide) ?_
  refine z_pushJ gp_143_10 ?_
  refine z_goto gi_143_11 ?_
  refine z_bret1 gi_143_15 gr_143 ?_
  show zW _ _ _ _ _ _ _ _ _ _
  refine z_if_neT gi_138_4 zr_1 (by decide) ?_
  refine z_aload0 gi_138_9 ?_
  refine z_getR (r := 37) gi_138_10 gk_0 (hR _ rm_0_11) ?_
  refine z_iload1 gi_138_13 ?_
  refine z_aald (r := 44) gi_138_14 rfl (by decide) (by decide) (hR _ rm_37_3) ?_
  refine z_iload2 gi_138_15 ?_
  refine z_cV1 gi_138_16 gk_44 go_70 (Nat.le_of_ble_eq_true rfl) gc_70_RI ?_
  refine z_aload0 gi_70_0 ?_
  refine z_getI (v := 2) gi_70_1 gk_44 (hh) ?_
  refine z_if_neT gi_70_4 zr_2 (by decide) ?_
  refine z_aload0 gi_70_10 ?_
  refine z_getI (v := 2) gi_70_11 gk_44 (hh) ?_
  refine z_pushJ gp_70_14 ?_
  refine z_icmp_eqT gi_70_15 zr_2 zr_2 (by decide) ?_
  refine z_iload1 gi_70_21 ?_
  refine z_if_lt gi_70_22 (by omega) (fun h1 => ?_) (fun h1 => ?_)
  · refine z_pushJ gp_70_37 ?_
    refine z_iret gi_70_39 gr_70 ?_
    show zW _ _ _ _ _ _ _ _ _ _
    refine z_istore (ls1 := [some (.ref 0), some (zi 3), some (zi i), some (zl v), none, some (zi (-13))]) gi_138_19 rfl ?_
    refine z_iload5 gi_138_21 ?_
    refine z_if_geF gi_138_23 zrn_13 (by decide) ?_
    refine z_iload5 gi_138_26 ?_
    refine z_iret gi_138_28 gr_138 ?_
    refine ⟨_, rfl, ?_⟩
    show zW _ _ _ _ [some (.ref 50), some (zi 3), some (zi i), some (zl v), none, none, none] _ _ _ _ _
    refine z_aload0 gi_252_0 ?_
    refine z_iload1 gi_252_1 ?_
    refine z_iload2 gi_252_2 ?_
    refine z_cV2 gi_252_3 gk_50 go_251 (Nat.le_of_ble_eq_true rfl) gc_251_RII ?_
    refine z_iload1 gi_251_0 ?_
    refine z_cS1 gi_251_1 (Nat.le_of_ble_eq_true rfl) gc_248_I ?_
    refine z_iload0 gi_248_0 ?_
    refine z_pushJ gp_248_1 ?_
    refine z_pushJ gp_248_2 ?_
    refine z_cS3 gi_248_3 (Nat.le_of_ble_eq_true rfl) gc_148_III ?_
    refine z_iload0 gi_148_0 ?_
    refine z_iload1 gi_148_1 ?_
    refine z_icmp_ltF gi_148_2 zr_3 zr_0 (by decide) ?_
    refine z_iload0 gi_148_5 ?_
    refine z_iload2 gi_148_6 ?_
    refine z_icmp_gtF gi_148_7 zr_3 zr_5 (by decide) ?_
    refine z_pushJ gp_148_10 ?_
    refine z_goto gi_148_11 ?_
    refine z_bret1 gi_148_15 gr_148 ?_
    show zW _ _ _ _ _ _ _ _ _ _
    refine z_bret1 gi_248_6 gr_248 ?_
    show zW _ _ _ _ _ _ _ _ _ _
    refine z_if_neT gi_251_4 zr_1 (by decide) ?_
    refine z_aload0 gi_251_9 ?_
    refine z_getR (r := 83) gi_251_10 gk_50 (hRr _ rm_50_58 (by decide)) ?_
    refine z_iload1 gi_251_13 ?_
    refine z_iald (v := (-5)) gi_251_14 gk_83 (by decide) (by decide) ((e83.trans (by rw [hso]; rfl))) ?_
    refine z_pushJ gp_251_15 ?_
    refine z_icmp_neT gi_251_16 zrn_5 zrn_1 (by decide) ?_
    refine z_aload0 gi_251_22 ?_
    refine z_getR (r := 83) gi_251_23 gk_50 (hRr _ rm_50_58 (by decide)) ?_
    refine z_iload1 gi_251_26 ?_
    refine z_iald (v := (-5)) gi_251_27 gk_83 (by decide) (by decide) ((e83.trans (by rw [hso]; rfl))) ?_
    refine z_if_ltT gi_251_28 zrn_5 (by decide) ?_
    refine z_iload2 gi_251_34 ?_
    refine z_pushJ gp_251_35 ?_
    refine z_aload0 gi_251_36 ?_
    refine z_getR (r := 84) gi_251_37 gk_50 (hRr _ rm_50_59 (by decide)) ?_
    refine z_iload1 gi_251_40 ?_
    refine z_iald (v := J 44 3) gi_251_41 gk_84 (by decide) (by decide) (s7) ?_
    refine z_pushJ gp_251_42 ?_
    refine z_isub (e := (J 44 3) - 1) gi_251_43 rfl ?_
    refine z_cS3 gi_251_44 (Nat.le_of_ble_eq_true rfl) gc_148_III ?_
    refine z_iload0 gi_148_0 ?_
    refine z_iload1 gi_148_1 ?_
    refine z_icmp_ltT gi_148_2 (by omega) zr_0 (by omega) ?_
    refine z_pushJ gp_148_14 ?_
    refine z_bret0 gi_148_15 gr_148 ?_
    show zW _ _ _ _ _ _ _ _ _ _
    refine z_if_eqT gi_251_47 zr_0 (by decide) ?_
    refine z_pushJ gp_251_54 ?_
    refine z_iret gi_251_56 gr_251 ?_
    show zW _ _ _ _ _ _ _ _ _ _
    refine z_istore (ls1 := [some (.ref 50), some (zi 3), some (zi i), some (zl v), none, some (zi (-13)), none]) gi_252_6 rfl ?_
    refine z_iload5 gi_252_8 ?_
    refine z_if_geF gi_252_10 zrn_13 (by decide) ?_
    refine z_iload5 gi_252_13 ?_
    refine z_iret gi_252_15 gr_252 ?_
    refine ⟨?_, ?_⟩
    · first | rfl | exact congrArg (fun v => some (zi v)) (by omega) | (exfalso; omega)
    · exact hr
  · refine z_iload1 gi_70_25 ?_
    refine z_aload0 gi_70_26 ?_
    refine z_getI (v := J 44 3) gi_70_27 gk_44 (rfl) ?_
    refine z_icmp_ge gi_70_30 (by omega) (by omega) (fun h2 => ?_) (fun h2 => ?_)
    · refine z_pushJ gp_70_37 ?_
      refine z_iret gi_70_39 gr_70 ?_
      show zW _ _ _ _ _ _ _ _ _ _
      refine z_istore (ls1 := [some (.ref 0), some (zi 3), some (zi i), some (zl v), none, some (zi (-13))]) gi_138_19 rfl ?_
      refine z_iload5 gi_138_21 ?_
      refine z_if_geF gi_138_23 zrn_13 (by decide) ?_
      refine z_iload5 gi_138_26 ?_
      refine z_iret gi_138_28 gr_138 ?_
      refine ⟨_, rfl, ?_⟩
      show zW _ _ _ _ [some (.ref 50), some (zi 3), some (zi i), some (zl v), none, none, none] _ _ _ _ _
      refine z_aload0 gi_252_0 ?_
      refine z_iload1 gi_252_1 ?_
      refine z_iload2 gi_252_2 ?_
      refine z_cV2 gi_252_3 gk_50 go_251 (Nat.le_of_ble_eq_true rfl) gc_251_RII ?_
      refine z_iload1 gi_251_0 ?_
      refine z_cS1 gi_251_1 (Nat.le_of_ble_eq_true rfl) gc_248_I ?_
      refine z_iload0 gi_248_0 ?_
      refine z_pushJ gp_248_1 ?_
      refine z_pushJ gp_248_2 ?_
      refine z_cS3 gi_248_3 (Nat.le_of_ble_eq_true rfl) gc_148_III ?_
      refine z_iload0 gi_148_0 ?_
      refine z_iload1 gi_148_1 ?_
      refine z_icmp_ltF gi_148_2 zr_3 zr_0 (by decide) ?_
      refine z_iload0 gi_148_5 ?_
      refine z_iload2 gi_148_6 ?_
      refine z_icmp_gtF gi_148_7 zr_3 zr_5 (by decide) ?_
      refine z_pushJ gp_148_10 ?_
      refine z_goto gi_148_11 ?_
      refine z_bret1 gi_148_15 gr_148 ?_
      show zW _ _ _ _ _ _ _ _ _ _
      refine z_bret1 gi_248_6 gr_248 ?_
      show zW _ _ _ _ _ _ _ _ _ _
      refine z_if_neT gi_251_4 zr_1 (by decide) ?_
      refine z_aload0 gi_251_9 ?_
      refine z_getR (r := 83) gi_251_10 gk_50 (hRr _ rm_50_58 (by decide)) ?_
      refine z_iload1 gi_251_13 ?_
      refine z_iald (v := (-5)) gi_251_14 gk_83 (by decide) (by decide) ((e83.trans (by rw [hso]; rfl))) ?_
      refine z_pushJ gp_251_15 ?_
      refine z_icmp_neT gi_251_16 zrn_5 zrn_1 (by decide) ?_
      refine z_aload0 gi_251_22 ?_
      refine z_getR (r := 83) gi_251_23 gk_50 (hRr _ rm_50_58 (by decide)) ?_
      refine z_iload1 gi_251_26 ?_
      refine z_iald (v := (-5)) gi_251_27 gk_83 (by decide) (by decide) ((e83.trans (by rw [hso]; rfl))) ?_
      refine z_if_ltT gi_251_28 zrn_5 (by decide) ?_
      refine z_iload2 gi_251_34 ?_
      refine z_pushJ gp_251_35 ?_
      refine z_aload0 gi_251_36 ?_
      refine z_getR (r := 84) gi_251_37 gk_50 (hRr _ rm_50_59 (by decide)) ?_
      refine z_iload1 gi_251_40 ?_
      refine z_iald (v := J 44 3) gi_251_41 gk_84 (by decide) (by decide) (s7) ?_
      refine z_pushJ gp_251_42 ?_
      refine z_isub (e := (J 44 3) - 1) gi_251_43 rfl ?_
      refine z_cS3 gi_251_44 (Nat.le_of_ble_eq_true rfl) gc_148_III ?_
      refine z_iload0 gi_148_0 ?_
      refine z_iload1 gi_148_1 ?_
      refine z_icmp_ltF gi_148_2 (by omega) zr_0 (by omega) ?_
      refine z_iload0 gi_148_5 ?_
      refine z_iload2 gi_148_6 ?_
      refine z_icmp_gtT gi_148_7 (by omega) (by omega) (by omega) ?_
      refine z_pushJ gp_148_14 ?_
      refine z_bret0 gi_148_15 gr_148 ?_
      show zW _ _ _ _ _ _ _ _ _ _
      refine z_if_eqT gi_251_47 zr_0 (by decide) ?_
      refine z_pushJ gp_251_54 ?_
      refine z_iret gi_251_56 gr_251 ?_
      show zW _ _ _ _ _ _ _ _ _ _
      refine z_istore (ls1 := [some (.ref 50), some (zi 3), some (zi i), some (zl v), none, some (zi (-13)), none]) gi_252_6 rfl ?_
      refine z_iload5 gi_252_8 ?_
      refine z_if_geF gi_252_10 zrn_13 (by decide) ?_
      refine z_iload5 gi_252_13 ?_
      refine z_iret gi_252_15 gr_252 ?_
      refine ⟨?_, ?_⟩
      · first | rfl | exact congrArg (fun v => some (zi v)) (by omega) | (exfalso; omega)
      · exact hr
    · refine z_pushJ gp_70_33 ?_
      refine z_goto gi_70_34 ?_
      refine z_iret gi_70_39 gr_70 ?_
      show zW _ _ _ _ _ _ _ _ _ _
      refine z_istore (ls1 := [some (.ref 0), some (zi 3), some (zi i), some (zl v), none, some (zi 0)]) gi_138_19 rfl ?_
      refine z_iload5 gi_138_21 ?_
      refine z_if_geT gi_138_23 zr_0 (by decide) ?_
      refine z_aload0 gi_138_29 ?_
      refine z_getR (r := 37) gi_138_30 gk_0 (hR _ rm_0_11) ?_
      refine z_iload1 gi_138_33 ?_
      refine z_aald (r := 44) gi_138_34 rfl (by decide) (by decide) (hR _ rm_37_3) ?_
      refine z_iload2 gi_138_35 ?_
      refine z_lload3 gi_138_36 ?_
      refine z_callVi (As := [_, _]) (le := [some _, some _, some _, none]) gi_138_37 rfl gk_44 (Nat.le_of_ble_eq_true rfl) (Nat.le_of_ble_eq_true rfl) rfl ?_
      refine z_iload1 gi_73_0 ?_
      refine z_if_ltF gi_73_1 (by omega) (by omega) ?_
      refine z_iload1 gi_73_4 ?_
      refine z_aload0 gi_73_5 ?_
      refine z_getI (v := J 44 3) gi_73_6 gk_44 (rfl) ?_
      refine z_icmp_geF gi_73_9 (by omega) (by omega) (by omega) ?_
      refine z_aload0 gi_73_12 ?_
      refine z_getR (r := 45) gi_73_13 gk_44 (hR _ rm_44_4) ?_
      refine z_iload1 gi_73_16 ?_
      refine z_aload0 gi_73_17 ?_
      refine z_lload2 gi_73_18 ?_
      refine z_callVi (As := [_]) (le := [some _, some _, none]) gi_73_19 rfl gk_44 (Nat.le_of_ble_eq_true rfl) (Nat.le_of_ble_eq_true rfl) rfl ?_
      refine z_aload0 gi_74_0 ?_
      refine z_getI (v := 3) gi_74_1 gk_44 (hso) ?_
      refine z_swI (tg := 66) gi_74_4 (by decide) (T := [((0 : Int), 40), ((1 : Int), 45), ((2 : Int), 50), ((3 : Int), 66), ((4 : Int), 54)]) rfl (by decide) ?_
      refine z_lload1 gi_74_66 ?_
      refine z_lret gi_74_67 gr_74 ?_
      show zW _ _ _ _ _ _ _ _ _ _
      refine z_last (e := v) gi_73_22 gk_45 (by decide) (by omega) rfl ?_
      refine z_vret gi_73_23 gr_73 ?_
      show zW _ _ _ _ _ _ _ _ _ _
      refine z_pushJ gp_138_40 ?_
      refine z_iret gi_138_41 gr_138 ?_
      refine ⟨_, rfl, ?_⟩
      show zW _ _ _ _ [some (.ref 50), some (zi 3), some (zi i), some (zl v), none, none, none] _ _ _ _ _
      refine z_aload0 gi_252_0 ?_
      refine z_iload1 gi_252_1 ?_
      refine z_iload2 gi_252_2 ?_
      refine z_cV2 gi_252_3 gk_50 go_251 (Nat.le_of_ble_eq_true rfl) gc_251_RII ?_
      refine z_iload1 gi_251_0 ?_
      refine z_cS1 gi_251_1 (Nat.le_of_ble_eq_true rfl) gc_248_I ?_
      refine z_iload0 gi_248_0 ?_
      refine z_pushJ gp_248_1 ?_
      refine z_pushJ gp_248_2 ?_
      refine z_cS3 gi_248_3 (Nat.le_of_ble_eq_true rfl) gc_148_III ?_
      refine z_iload0 gi_148_0 ?_
      refine z_iload1 gi_148_1 ?_
      refine z_icmp_ltF gi_148_2 zr_3 zr_0 (by decide) ?_
      refine z_iload0 gi_148_5 ?_
      refine z_iload2 gi_148_6 ?_
      refine z_icmp_gtF gi_148_7 zr_3 zr_5 (by decide) ?_
      refine z_pushJ gp_148_10 ?_
      refine z_goto gi_148_11 ?_
      refine z_bret1 gi_148_15 gr_148 ?_
      show zW _ _ _ _ _ _ _ _ _ _
      refine z_bret1 gi_248_6 gr_248 ?_
      show zW _ _ _ _ _ _ _ _ _ _
      refine z_if_neT gi_251_4 zr_1 (by decide) ?_
      refine z_aload0 gi_251_9 ?_
      refine z_getR (r := 83) gi_251_10 gk_50 (hRr _ rm_50_58 (by decide)) ?_
      refine z_iload1 gi_251_13 ?_
      refine z_iald (v := (-5)) gi_251_14 gk_83 (by decide) (by decide) ((e83.trans (by rw [hso]; rfl))) ?_
      refine z_pushJ gp_251_15 ?_
      refine z_icmp_neT gi_251_16 zrn_5 zrn_1 (by decide) ?_
      refine z_aload0 gi_251_22 ?_
      refine z_getR (r := 83) gi_251_23 gk_50 (hRr _ rm_50_58 (by decide)) ?_
      refine z_iload1 gi_251_26 ?_
      refine z_iald (v := (-5)) gi_251_27 gk_83 (by decide) (by decide) ((e83.trans (by rw [hso]; rfl))) ?_
      refine z_if_ltT gi_251_28 zrn_5 (by decide) ?_
      refine z_iload2 gi_251_34 ?_
      refine z_pushJ gp_251_35 ?_
      refine z_aload0 gi_251_36 ?_
      refine z_getR (r := 84) gi_251_37 gk_50 (hRr _ rm_50_59 (by decide)) ?_
      refine z_iload1 gi_251_40 ?_
      refine z_iald (v := J 44 3) gi_251_41 gk_84 (by decide) (by decide) (s7) ?_
      refine z_pushJ gp_251_42 ?_
      refine z_isub (e := (J 44 3) - 1) gi_251_43 rfl ?_
      refine z_cS3 gi_251_44 (Nat.le_of_ble_eq_true rfl) gc_148_III ?_
      refine z_iload0 gi_148_0 ?_
      refine z_iload1 gi_148_1 ?_
      refine z_icmp_ltF gi_148_2 (by omega) zr_0 (by omega) ?_
      refine z_iload0 gi_148_5 ?_
      refine z_iload2 gi_148_6 ?_
      refine z_icmp_gtF gi_148_7 (by omega) (by omega) (by omega) ?_
      refine z_pushJ gp_148_10 ?_
      refine z_goto gi_148_11 ?_
      refine z_bret1 gi_148_15 gr_148 ?_
      show zW _ _ _ _ _ _ _ _ _ _
      refine z_if_eqF gi_251_47 zr_1 (by decide) ?_
      refine z_pushJ gp_251_50 ?_
      refine z_goto gi_251_51 ?_
      refine z_iret gi_251_56 gr_251 ?_
      show zW _ _ _ _ _ _ _ _ _ _
      refine z_istore (ls1 := [some (.ref 50), some (zi 3), some (zi i), some (zl v), none, some (zi 0), none]) gi_252_6 rfl ?_
      refine z_iload5 gi_252_8 ?_
      refine z_if_geT gi_252_10 zr_0 (by decide) ?_
      refine z_pushJ gp_252_16 ?_
      refine z_aload0 gi_252_18 ?_
      refine z_getR (r := 83) gi_252_19 gk_50 (hRr _ rm_50_58 (by decide)) ?_
      refine z_iload1 gi_252_22 ?_
      refine z_iald (v := (-5)) gi_252_23 gk_83 (by decide) (by decide) ((e83.trans (by rw [hso]; rfl))) ?_
      refine z_isub (e := 3) gi_252_24 rfl ?_
      refine z_istore (ls1 := [some (.ref 50), some (zi 3), some (zi i), some (zl v), none, some (zi 0), some (zi 3)]) gi_252_25 rfl ?_
      refine z_aload0 gi_252_27 ?_
      refine z_getR (r := 85) gi_252_28 gk_50 (hRr _ rm_50_60 (by decide)) ?_
      refine z_pushJ gp_252_31 ?_
      refine z_iload1 gi_252_33 ?_
      refine z_imul (e := 180) gi_252_34 rfl ?_
      refine z_iload2 gi_252_35 ?_
      refine z_iadd (e := 180 + i) gi_252_36 rfl ?_
      refine z_iload6 gi_252_37 ?_
      refine z_if_neT gi_252_39 zr_3 (by decide) ?_
      refine z_iload6 gi_252_49 ?_
      refine z_pushJ gp_252_51 ?_
      refine z_icmp_neT gi_252_52 zr_3 zr_1 (by decide) ?_
      refine z_iload6 gi_252_62 ?_
      refine z_pushJ gp_252_64 ?_
      refine z_icmp_neT gi_252_65 zr_3 zr_2 (by decide) ?_
      refine z_iload6 gi_252_74 ?_
      refine z_pushJ gp_252_76 ?_
      refine z_icmp_neF gi_252_77 zr_3 zr_3 (by decide) ?_
      refine z_lload3 gi_252_80 ?_
      refine z_goto gi_252_81 ?_
      refine z_last (e := v) gi_252_95 gk_85 (by decide) (by omega) rfl ?_
      refine z_pushJ gp_252_96 ?_
      refine z_iret gi_252_97 gr_252 ?_
      refine ⟨?_, ?_⟩
      · first | rfl | exact congrArg (fun v => some (zi v)) (by omega) | (exfalso; omega)
      · have hk := (zK_r (k := (kL [] [])) (A := J))
        have hkm := (zK_x (a := 85) (x := 180 + i) (v := v) (zK_x (a := 45) (x := i) (v := v) (zK_r (k := (kL [45, 85] [])) (A := M)) rfl) rfl)
        exact ⟨hR, hG, RelY_k hk (by repeat' constructor) (fun p => by repeat' constructor) hY, RelD_k hk (by repeat' constructor) (fun p => by repeat' constructor) hD, RelP_k hk (by repeat' constructor) (fun p => by repeat' constructor) hP, RelC_k hk (by repeat' constructor) (fun p => by repeat' constructor) hC, RelA_k hk (by repeat' constructor) (fun p => by repeat' constructor) hAc, (RelS_one (J := J) (M := M) (c := 3) (fun t t1 t2 te => by have q : t = 0 ∨ t = 1 ∨ t = 2 ∨ t = 3 ∨ t = 4 ∨ t = 5 := (by omega); rcases q with rfl | rfl | rfl | rfl | rfl | rfl <;> first | exact absurd rfl te | exact ⟨fun j => rfl, rfl, rfl⟩) (fun t t1 t2 te => by have q : t = 0 ∨ t = 1 ∨ t = 2 ∨ t = 3 ∨ t = 4 ∨ t = 5 := (by omega); rcases q with rfl | rfl | rfl | rfl | rfl | rfl <;> first | exact absurd rfl te | exact ⟨fun j => rfl, fun j j1 j2 => (zU_x (by omega)).trans (zU_n (by decide))⟩) rfl (show RelS1 _ _ _ from ⟨(hS 3 (by decide) (by decide)).1, (hS 3 (by decide) (by decide)).2.1, s3, s4, (hS 3 (by decide) (by decide)).2.2.2.2.1, fun _ => ⟨s7.symm, fun k k1 k2 => by show (if k = i then v else M 45 k) = (if 180 + k = 180 + i then v else M 85 (180 + k)); by_cases e : k = i; rw [if_pos e, if_pos (by omega)]; rw [if_neg e, if_neg (by omega)]; exact s8 k k1 k2, (fun hq => absurd (Eq.trans (Eq.symm hq) hso) (by decide))⟩⟩) hS), RelT_k hk (by repeat' constructor) (fun p => by repeat' constructor) hTp, RelX_k hk (by repeat' constructor) (fun p => by repeat' constructor) hX, RelW_k hk ⟨rfl, rfl⟩ trivial hW⟩
theorem st_put_324 {X : Nat × (Nat → Int32)} {d : Nat} {J M : zA} {R : zR} {i v : Int} (hr : Rel X J M R) (hi : -2147483648 ≤ i ∧ i < 2147483648) (hv : -9223372036854775808 ≤ v ∧ v < 9223372036854775808) (hh : J 44 0 = 2) (hso : J 44 2 = 4) : zW X (d + 20) 138 0 (gEn 138 [(.ref 0), (zi 3), (zi i), (zl v)]) [] J M R (stP X (d + 20) 252 [(zi 3), (zi i), (zl v)]) := by
  have hr0 := hr
  obtain ⟨hR, hG, hY, hD, hP, hC, hAc, hS, hTp, hX, hW⟩ := hr0
  have hRr : zRoR R := zRoR_of hR
  have e83 : J 83 3 = -2 - J 44 2 := (hS 3 (by decide) (by decide)).1.symm.trans (cH_2 hh)
  have s3 : 0 ≤ J 44 2 ∧ J 44 2 ≤ 4 := (hS 3 (by decide) (by decide)).2.2.1
  have s4 : 0 ≤ J 44 3 ∧ J 44 3 ≤ 60 := (hS 3 (by decide) (by decide)).2.2.2.1
  have s6 := (hS 3 (by decide) (by decide)).2.2.2.2.2 hh
  have s7 : J 84 3 = J 44 3 := s6.1.symm
  have s8 : ∀ i, 0 ≤ i → i < J 44 3 → M 45 i = M 85 (180 + i) := s6.2.1
  show zW _ _ _ _ [some (.ref 0), some (zi 3), some (zi i), some (zl v), none, none] _ _ _ _ _
  refine z_iload1 gi_138_0 ?_
  refine z_cS1 gi_138_1 (Nat.le_of_ble_eq_true rfl) gc_143_I ?_
  refine z_iload0 gi_143_0 ?_
  refine z_if_ltF gi_143_1 zr_3 (by decide) ?_
  refine z_iload0 gi_143_4 ?_
  refine z_pushJ gp_143_5 ?_
  refine z_icmp_geF gi_143_7 zr_3 zr_6 (by decide) ?_
  refine z_pushJ gp_143_10 ?_
  refine z_goto gi_143_11 ?_
  refine z_bret1 gi_143_15 gr_143 ?_
  show zW _ _ _ _ _ _ _ _ _ _
  refine z_if_neT gi_138_4 zr_1 (by decide) ?_
  refine z_aload0 gi_138_9 ?_
  refine z_getR (r := 37) gi_138_10 gk_0 (hR _ rm_0_11) ?_
  refine z_iload1 gi_138_13 ?_
  refine z_aald (r := 44) gi_138_14 rfl (by decide) (by decide) (hR _ rm_37_3) ?_
  refine z_iload2 gi_138_15 ?_
  refine z_cV1 gi_138_16 gk_44 go_70 (Nat.le_of_ble_eq_true rfl) gc_70_RI ?_
  refine z_aload0 gi_70_0 ?_
  refine z_getI (v := 2) gi_70_1 gk_44 (hh) ?_
  refine z_if_neT gi_70_4 zr_2 (by decide) ?_
  refine z_aload0 gi_70_10 ?_
  refine z_getI (v := 2) gi_70_11 gk_44 (hh) ?_
  refine z_pushJ gp_70_14 ?_
  refine z_icmp_eqT gi_70_15 zr_2 zr_2 (by decide) ?_
  refine z_iload1 gi_70_21 ?_
  refine z_if_lt gi_70_22 (by omega) (fun h1 => ?_) (fun h1 => ?_)
  · refine z_pushJ gp_70_37 ?_
    refine z_iret gi_70_39 gr_70 ?_
    show zW _ _ _ _ _ _ _ _ _ _
    refine z_istore (ls1 := [some (.ref 0), some (zi 3), some (zi i), some (zl v), none, some (zi (-13))]) gi_138_19 rfl ?_
    refine z_iload5 gi_138_21 ?_
    refine z_if_geF gi_138_23 zrn_13 (by decide) ?_
    refine z_iload5 gi_138_26 ?_
    refine z_iret gi_138_28 gr_138 ?_
    refine ⟨_, rfl, ?_⟩
    show zW _ _ _ _ [some (.ref 50), some (zi 3), some (zi i), some (zl v), none, none, none] _ _ _ _ _
    refine z_aload0 gi_252_0 ?_
    refine z_iload1 gi_252_1 ?_
    refine z_iload2 gi_252_2 ?_
    refine z_cV2 gi_252_3 gk_50 go_251 (Nat.le_of_ble_eq_true rfl) gc_251_RII ?_
    refine z_iload1 gi_251_0 ?_
    refine z_cS1 gi_251_1 (Nat.le_of_ble_eq_true rfl) gc_248_I ?_
    refine z_iload0 gi_248_0 ?_
    refine z_pushJ gp_248_1 ?_
    refine z_pushJ gp_248_2 ?_
    refine z_cS3 gi_248_3 (Nat.le_of_ble_eq_true rfl) gc_148_III ?_
    refine z_iload0 gi_148_0 ?_
    refine z_iload1 gi_148_1 ?_
    refine z_icmp_ltF gi_148_2 zr_3 zr_0 (by decide) ?_
    refine z_iload0 gi_148_5 ?_
    refine z_iload2 gi_148_6 ?_
    refine z_icmp_gtF gi_148_7 zr_3 zr_5 (by decide) ?_
    refine z_pushJ gp_148_10 ?_
    refine z_goto gi_148_11 ?_
    refine z_bret1 gi_148_15 gr_148 ?_
    show zW _ _ _ _ _ _ _ _ _ _
    refine z_bret1 gi_248_6 gr_248 ?_
    show zW _ _ _ _ _ _ _ _ _ _
    refine z_if_neT gi_251_4 zr_1 (by decide) ?_
    refine z_aload0 gi_251_9 ?_
    refine z_getR (r := 83) gi_251_10 gk_50 (hRr _ rm_50_58 (by decide)) ?_
    refine z_iload1 gi_251_13 ?_
    refine z_iald (v := (-6)) gi_251_14 gk_83 (by decide) (by decide) ((e83.trans (by rw [hso]; rfl))) ?_
    refine z_pushJ gp_251_15 ?_
    refine z_icmp_neT gi_251_16 zrn_6 zrn_1 (by decide) ?_
    refine z_aload0 gi_251_22 ?_
    refine z_getR (r := 83) gi_251_23 gk_50 (hRr _ rm_50_58 (by decide)) ?_
    refine z_iload1 gi_251_26 ?_
    refine z_iald (v := (-6)) gi_251_27 gk_83 (by decide) (by decide) ((e83.trans (by rw [hso]; rfl))) ?_
    refine z_if_ltT gi_251_28 zrn_6 (by decide) ?_
    refine z_iload2 gi_251_34 ?_
    refine z_pushJ gp_251_35 ?_
    refine z_aload0 gi_251_36 ?_
    refine z_getR (r := 84) gi_251_37 gk_50 (hRr _ rm_50_59 (by decide)) ?_
    refine z_iload1 gi_251_40 ?_
    refine z_iald (v := J 44 3) gi_251_41 gk_84 (by decide) (by decide) (s7) ?_
    refine z_pushJ gp_251_42 ?_
    refine z_isub (e := (J 44 3) - 1) gi_251_43 rfl ?_
    refine z_cS3 gi_251_44 (Nat.le_of_ble_eq_true rfl) gc_148_III ?_
    refine z_iload0 gi_148_0 ?_
    refine z_iload1 gi_148_1 ?_
    refine z_icmp_ltT gi_148_2 (by omega) zr_0 (by omega) ?_
    refine z_pushJ gp_148_14 ?_
    refine z_bret0 gi_148_15 gr_148 ?_
    show zW _ _ _ _ _ _ _ _ _ _
    refine z_if_eqT gi_251_47 zr_0 (by decide) ?_
    refine z_pushJ gp_251_54 ?_
    refine z_iret gi_251_56 gr_251 ?_
    show zW _ _ _ _ _ _ _ _ _ _
    refine z_istore (ls1 := [some (.ref 50), some (zi 3), some (zi i), some (zl v), none, some (zi (-13)), none]) gi_252_6 rfl ?_
    refine z_iload5 gi_252_8 ?_
    refine z_if_geF gi_252_10 zrn_13 (by decide) ?_
    refine z_iload5 gi_252_13 ?_
    refine z_iret gi_252_15 gr_252 ?_
    refine ⟨?_, ?_⟩
    · first | rfl | exact congrArg (fun v => some (zi v)) (by omega) | (exfalso; omega)
    · exact hr
  · refine z_iload1 gi_70_25 ?_
    refine z_aload0 gi_70_26 ?_
    refine z_getI (v := J 44 3) gi_70_27 gk_44 (rfl) ?_
    refine z_icmp_ge gi_70_30 (by omega) (by omega) (fun h2 => ?_) (fun h2 => ?_)
    · refine z_pushJ gp_70_37 ?_
      refine z_iret gi_70_39 gr_70 ?_
      show zW _ _ _ _ _ _ _ _ _ _
      refine z_istore (ls1 := [some (.ref 0), some (zi 3), some (zi i), some (zl v), none, some (zi (-13))]) gi_138_19 rfl ?_
      refine z_iload5 gi_138_21 ?_
      refine z_if_geF gi_138_23 zrn_13 (by decide) ?_
      refine z_iload5 gi_138_26 ?_
      refine z_iret gi_138_28 gr_138 ?_
      refine ⟨_, rfl, ?_⟩
      show zW _ _ _ _ [some (.ref 50), some (zi 3), some (zi i), some (zl v), none, none, none] _ _ _ _ _
      refine z_aload0 gi_252_0 ?_
      refine z_iload1 gi_252_1 ?_
      refine z_iload2 gi_252_2 ?_
      refine z_cV2 gi_252_3 gk_50 go_251 (Nat.le_of_ble_eq_true rfl) gc_251_RII ?_
      refine z_iload1 gi_251_0 ?_
      refine z_cS1 gi_251_1 (Nat.le_of_ble_eq_true rfl) gc_248_I ?_
      refine z_iload0 gi_248_0 ?_
      refine z_pushJ gp_248_1 ?_
      refine z_pushJ gp_248_2 ?_
      refine z_cS3 gi_248_3 (Nat.le_of_ble_eq_true rfl) gc_148_III ?_
      refine z_iload0 gi_148_0 ?_
      refine z_iload1 gi_148_1 ?_
      refine z_icmp_ltF gi_148_2 zr_3 zr_0 (by decide) ?_
      refine z_iload0 gi_148_5 ?_
      refine z_iload2 gi_148_6 ?_
      refine z_icmp_gtF gi_148_7 zr_3 zr_5 (by decide) ?_
      refine z_pushJ gp_148_10 ?_
      refine z_goto gi_148_11 ?_
      refine z_bret1 gi_148_15 gr_148 ?_
      show zW _ _ _ _ _ _ _ _ _ _
      refine z_bret1 gi_248_6 gr_248 ?_
      show zW _ _ _ _ _ _ _ _ _ _
      refine z_if_neT gi_251_4 zr_1 (by decide) ?_
      refine z_aload0 gi_251_9 ?_
      refine z_getR (r := 83) gi_251_10 gk_50 (hRr _ rm_50_58 (by decide)) ?_
      refine z_iload1 gi_251_13 ?_
      refine z_iald (v := (-6)) gi_251_14 gk_83 (by decide) (by decide) ((e83.trans (by rw [hso]; rfl))) ?_
      refine z_pushJ gp_251_15 ?_
      refine z_icmp_neT gi_251_16 zrn_6 zrn_1 (by decide) ?_
      refine z_aload0 gi_251_22 ?_
      refine z_getR (r := 83) gi_251_23 gk_50 (hRr _ rm_50_58 (by decide)) ?_
      refine z_iload1 gi_251_26 ?_
      refine z_iald (v := (-6)) gi_251_27 gk_83 (by decide) (by decide) ((e83.trans (by rw [hso]; rfl))) ?_
      refine z_if_ltT gi_251_28 zrn_6 (by decide) ?_
      refine z_iload2 gi_251_34 ?_
      refine z_pushJ gp_251_35 ?_
      refine z_aload0 gi_251_36 ?_
      refine z_getR (r := 84) gi_251_37 gk_50 (hRr _ rm_50_59 (by decide)) ?_
      refine z_iload1 gi_251_40 ?_
      refine z_iald (v := J 44 3) gi_251_41 gk_84 (by decide) (by decide) (s7) ?_
      refine z_pushJ gp_251_42 ?_
      refine z_isub (e := (J 44 3) - 1) gi_251_43 rfl ?_
      refine z_cS3 gi_251_44 (Nat.le_of_ble_eq_true rfl) gc_148_III ?_
      refine z_iload0 gi_148_0 ?_
      refine z_iload1 gi_148_1 ?_
      refine z_icmp_ltF gi_148_2 (by omega) zr_0 (by omega) ?_
      refine z_iload0 gi_148_5 ?_
      refine z_iload2 gi_148_6 ?_
      refine z_icmp_gtT gi_148_7 (by omega) (by omega) (by omega) ?_
      refine z_pushJ gp_148_14 ?_
      refine z_bret0 gi_148_15 gr_148 ?_
      show zW _ _ _ _ _ _ _ _ _ _
      refine z_if_eqT gi_251_47 zr_0 (by decide) ?_
      refine z_pushJ gp_251_54 ?_
      refine z_iret gi_251_56 gr_251 ?_
      show zW _ _ _ _ _ _ _ _ _ _
      refine z_istore (ls1 := [some (.ref 50), some (zi 3), some (zi i), some (zl v), none, some (zi (-13)), none]) gi_252_6 rfl ?_
      refine z_iload5 gi_252_8 ?_
      refine z_if_geF gi_252_10 zrn_13 (by decide) ?_
      refine z_iload5 gi_252_13 ?_
      refine z_iret gi_252_15 gr_252 ?_
      refine ⟨?_, ?_⟩
      · first | rfl | exact congrArg (fun v => some (zi v)) (by omega) | (exfalso; omega)
      · exact hr
    · refine z_pushJ gp_70_33 ?_
      refine z_goto gi_70_34 ?_
      refine z_iret gi_70_39 gr_70 ?_
      show zW _ _ _ _ _ _ _ _ _ _
      refine z_istore (ls1 := [some (.ref 0), some (zi 3), some (zi i), some (zl v), none, some (zi 0)]) gi_138_19 rfl ?_
      refine z_iload5 gi_138_21 ?_
      refine z_if_geT gi_138_23 zr_0 (by decide) ?_
      refine z_aload0 gi_138_29 ?_
      refine z_getR (r := 37) gi_138_30 gk_0 (hR _ rm_0_11) ?_
      refine z_iload1 gi_138_33 ?_
      refine z_aald (r := 44) gi_138_34 rfl (by decide) (by decide) (hR _ rm_37_3) ?_
      refine z_iload2 gi_138_35 ?_
      refine z_lload3 gi_138_36 ?_
      refine z_callVi (As := [_, _]) (le := [some _, some _, some _, none]) gi_138_37 rfl gk_44 (Nat.le_of_ble_eq_true rfl) (Nat.le_of_ble_eq_true rfl) rfl ?_
      refine z_iload1 gi_73_0 ?_
      refine z_if_ltF gi_73_1 (by omega) (by omega) ?_
      refine z_iload1 gi_73_4 ?_
      refine z_aload0 gi_73_5 ?_
      refine z_getI (v := J 44 3) gi_73_6 gk_44 (rfl) ?_
      refine z_icmp_geF gi_73_9 (by omega) (by omega) (by omega) ?_
      refine z_aload0 gi_73_12 ?_
      refine z_getR (r := 45) gi_73_13 gk_44 (hR _ rm_44_4) ?_
      refine z_iload1 gi_73_16 ?_
      refine z_aload0 gi_73_17 ?_
      refine z_lload2 gi_73_18 ?_
      refine z_callVi (As := [_]) (le := [some _, some _, none]) gi_73_19 rfl gk_44 (Nat.le_of_ble_eq_true rfl) (Nat.le_of_ble_eq_true rfl) rfl ?_
      refine z_aload0 gi_74_0 ?_
      refine z_getI (v := 4) gi_74_1 gk_44 (hso) ?_
      refine z_swI (tg := 54) gi_74_4 (by decide) (T := [((0 : Int), 40), ((1 : Int), 45), ((2 : Int), 50), ((3 : Int), 66), ((4 : Int), 54)]) rfl (by decide) ?_
      refine z_lload1 gi_74_54 ?_
      refine z_pushL (z := 0) gi_74_55 rfl ?_
      refine z_lcmp_eq gi_74_56 gi_74_57 (by omega) (by omega) (fun h3 => ?_) (fun h3 => ?_)
      · refine z_pushL (z := 0) gi_74_64 rfl ?_
        refine z_lret gi_74_65 gr_74 ?_
        show zW _ _ _ _ _ _ _ _ _ _
        refine z_last (e := 0) gi_73_22 gk_45 (by decide) (by omega) rfl ?_
        refine z_vret gi_73_23 gr_73 ?_
        show zW _ _ _ _ _ _ _ _ _ _
        refine z_pushJ gp_138_40 ?_
        refine z_iret gi_138_41 gr_138 ?_
        refine ⟨_, rfl, ?_⟩
        show zW _ _ _ _ [some (.ref 50), some (zi 3), some (zi i), some (zl v), none, none, none] _ _ _ _ _
        refine z_aload0 gi_252_0 ?_
        refine z_iload1 gi_252_1 ?_
        refine z_iload2 gi_252_2 ?_
        refine z_cV2 gi_252_3 gk_50 go_251 (Nat.le_of_ble_eq_true rfl) gc_251_RII ?_
        refine z_iload1 gi_251_0 ?_
        refine z_cS1 gi_251_1 (Nat.le_of_ble_eq_true rfl) gc_248_I ?_
        refine z_iload0 gi_248_0 ?_
        refine z_pushJ gp_248_1 ?_
        refine z_pushJ gp_248_2 ?_
        refine z_cS3 gi_248_3 (Nat.le_of_ble_eq_true rfl) gc_148_III ?_
        refine z_iload0 gi_148_0 ?_
        refine z_iload1 gi_148_1 ?_
        refine z_icmp_ltF gi_148_2 zr_3 zr_0 (by decide) ?_
        refine z_iload0 gi_148_5 ?_
        refine z_iload2 gi_148_6 ?_
        refine z_icmp_gtF gi_148_7 zr_3 zr_5 (by decide) ?_
        refine z_pushJ gp_148_10 ?_
        refine z_goto gi_148_11 ?_
        refine z_bret1 gi_148_15 gr_148 ?_
        show zW _ _ _ _ _ _ _ _ _ _
        refine z_bret1 gi_248_6 gr_248 ?_
        show zW _ _ _ _ _ _ _ _ _ _
        refine z_if_neT gi_251_4 zr_1 (by decide) ?_
        refine z_aload0 gi_251_9 ?_
        refine z_getR (r := 83) gi_251_10 gk_50 (hRr _ rm_50_58 (by decide)) ?_
        refine z_iload1 gi_251_13 ?_
        refine z_iald (v := (-6)) gi_251_14 gk_83 (by decide) (by decide) ((e83.trans (by rw [hso]; rfl))) ?_
        refine z_pushJ gp_251_15 ?_
        refine z_icmp_neT gi_251_16 zrn_6 zrn_1 (by decide) ?_
        refine z_aload0 gi_251_22 ?_
        refine z_getR (r := 83) gi_251_23 gk_50 (hRr _ rm_50_58 (by decide)) ?_
        refine z_iload1 gi_251_26 ?_
        refine z_iald (v := (-6)) gi_251_27 gk_83 (by decide) (by decide) ((e83.trans (by rw [hso]; rfl))) ?_
        refine z_if_ltT gi_251_28 zrn_6 (by decide) ?_
        refine z_iload2 gi_251_34 ?_
        refine z_pushJ gp_251_35 ?_
        refine z_aload0 gi_251_36 ?_
        refine z_getR (r := 84) gi_251_37 gk_50 (hRr _ rm_50_59 (by decide)) ?_
        refine z_iload1 gi_251_40 ?_
        refine z_iald (v := J 44 3) gi_251_41 gk_84 (by decide) (by decide) (s7) ?_
        refine z_pushJ gp_251_42 ?_
        refine z_isub (e := (J 44 3) - 1) gi_251_43 rfl ?_
        refine z_cS3 gi_251_44 (Nat.le_of_ble_eq_true rfl) gc_148_III ?_
        refine z_iload0 gi_148_0 ?_
        refine z_iload1 gi_148_1 ?_
        refine z_icmp_ltF gi_148_2 (by omega) zr_0 (by omega) ?_
        refine z_iload0 gi_148_5 ?_
        refine z_iload2 gi_148_6 ?_
        refine z_icmp_gtF gi_148_7 (by omega) (by omega) (by omega) ?_
        refine z_pushJ gp_148_10 ?_
        refine z_goto gi_148_11 ?_
        refine z_bret1 gi_148_15 gr_148 ?_
        show zW _ _ _ _ _ _ _ _ _ _
        refine z_if_eqF gi_251_47 zr_1 (by decide) ?_
        refine z_pushJ gp_251_50 ?_
        refine z_goto gi_251_51 ?_
        refine z_iret gi_251_56 gr_251 ?_
        show zW _ _ _ _ _ _ _ _ _ _
        refine z_istore (ls1 := [some (.ref 50), some (zi 3), some (zi i), some (zl v), none, some (zi 0), none]) gi_252_6 rfl ?_
        refine z_iload5 gi_252_8 ?_
        refine z_if_geT gi_252_10 zr_0 (by decide) ?_
        refine z_pushJ gp_252_16 ?_
        refine z_aload0 gi_252_18 ?_
        refine z_getR (r := 83) gi_252_19 gk_50 (hRr _ rm_50_58 (by decide)) ?_
        refine z_iload1 gi_252_22 ?_
        refine z_iald (v := (-6)) gi_252_23 gk_83 (by decide) (by decide) ((e83.trans (by rw [hso]; rfl))) ?_
        refine z_isub (e := 4) gi_252_24 rfl ?_
        refine z_istore (ls1 := [some (.ref 50), some (zi 3), some (zi i), some (zl v), none, some (zi 0), some (zi 4)]) gi_252_25 rfl ?_
        refine z_aload0 gi_252_27 ?_
        refine z_getR (r := 85) gi_252_28 gk_50 (hRr _ rm_50_60 (by decide)) ?_
        refine z_pushJ gp_252_31 ?_
        refine z_iload1 gi_252_33 ?_
        refine z_imul (e := 180) gi_252_34 rfl ?_
        refine z_iload2 gi_252_35 ?_
        refine z_iadd (e := 180 + i) gi_252_36 rfl ?_
        refine z_iload6 gi_252_37 ?_
        refine z_if_neT gi_252_39 zr_4 (by decide) ?_
        refine z_iload6 gi_252_49 ?_
        refine z_pushJ gp_252_51 ?_
        refine z_icmp_neT gi_252_52 zr_4 zr_1 (by decide) ?_
        refine z_iload6 gi_252_62 ?_
        refine z_pushJ gp_252_64 ?_
        refine z_icmp_neT gi_252_65 zr_4 zr_2 (by decide) ?_
        refine z_iload6 gi_252_74 ?_
        refine z_pushJ gp_252_76 ?_
        refine z_icmp_neT gi_252_77 zr_4 zr_3 (by decide) ?_
        refine z_lload3 gi_252_84 ?_
        refine z_pushL (z := 0) gi_252_85 rfl ?_
        refine z_lcmp_eq gi_252_86 gi_252_87 (by omega) (by omega) (fun h4 => ?_) (fun h4 => ?_)
        · refine z_pushL (z := 0) gi_252_94 rfl ?_
          refine z_last (e := 0) gi_252_95 gk_85 (by decide) (by omega) rfl ?_
          refine z_pushJ gp_252_96 ?_
          refine z_iret gi_252_97 gr_252 ?_
          refine ⟨?_, ?_⟩
          · first | rfl | exact congrArg (fun v => some (zi v)) (by omega) | (exfalso; omega)
          · have hk := (zK_r (k := (kL [] [])) (A := J))
            have hkm := (zK_x (a := 85) (x := 180 + i) (v := 0) (zK_x (a := 45) (x := i) (v := 0) (zK_r (k := (kL [45, 85] [])) (A := M)) rfl) rfl)
            exact ⟨hR, hG, RelY_k hk (by repeat' constructor) (fun p => by repeat' constructor) hY, RelD_k hk (by repeat' constructor) (fun p => by repeat' constructor) hD, RelP_k hk (by repeat' constructor) (fun p => by repeat' constructor) hP, RelC_k hk (by repeat' constructor) (fun p => by repeat' constructor) hC, RelA_k hk (by repeat' constructor) (fun p => by repeat' constructor) hAc, (RelS_one (J := J) (M := M) (c := 3) (fun t t1 t2 te => by have q : t = 0 ∨ t = 1 ∨ t = 2 ∨ t = 3 ∨ t = 4 ∨ t = 5 := (by omega); rcases q with rfl | rfl | rfl | rfl | rfl | rfl <;> first | exact absurd rfl te | exact ⟨fun j => rfl, rfl, rfl⟩) (fun t t1 t2 te => by have q : t = 0 ∨ t = 1 ∨ t = 2 ∨ t = 3 ∨ t = 4 ∨ t = 5 := (by omega); rcases q with rfl | rfl | rfl | rfl | rfl | rfl <;> first | exact absurd rfl te | exact ⟨fun j => rfl, fun j j1 j2 => (zU_x (by omega)).trans (zU_n (by decide))⟩) rfl (show RelS1 _ _ _ from ⟨(hS 3 (by decide) (by decide)).1, (hS 3 (by decide) (by decide)).2.1, s3, s4, (hS 3 (by decide) (by decide)).2.2.2.2.1, fun _ => ⟨s7.symm, fun k k1 k2 => by show (if k = i then 0 else M 45 k) = (if 180 + k = 180 + i then 0 else M 85 (180 + k)); by_cases e : k = i; rw [if_pos e, if_pos (by omega)]; rw [if_neg e, if_neg (by omega)]; exact s8 k k1 k2, (fun hq => absurd (Eq.trans (Eq.symm hq) hso) (by decide))⟩⟩) hS), RelT_k hk (by repeat' constructor) (fun p => by repeat' constructor) hTp, RelX_k hk (by repeat' constructor) (fun p => by repeat' constructor) hX, RelW_k hk ⟨rfl, rfl⟩ trivial hW⟩
        · refine z_pushL (z := 1) gi_252_90 rfl ?_
          refine z_goto gi_252_91 ?_
          refine z_last (e := 1) gi_252_95 gk_85 (by decide) (by omega) rfl ?_
          refine z_pushJ gp_252_96 ?_
          refine z_iret gi_252_97 gr_252 ?_
          refine ⟨?_, ?_⟩
          · first | rfl | exact congrArg (fun v => some (zi v)) (by omega) | (exfalso; omega)
          · exfalso
            omega
      · refine z_pushL (z := 1) gi_74_60 rfl ?_
        refine z_goto gi_74_61 ?_
        refine z_lret gi_74_65 gr_74 ?_
        show zW _ _ _ _ _ _ _ _ _ _
        refine z_last (e := 1) gi_73_22 gk_45 (by decide) (by omega) rfl ?_
        refine z_vret gi_73_23 gr_73 ?_
        show zW _ _ _ _ _ _ _ _ _ _
        refine z_pushJ gp_138_40 ?_
        refine z_iret gi_138_41 gr_138 ?_
        refine ⟨_, rfl, ?_⟩
        show zW _ _ _ _ [some (.ref 50), some (zi 3), some (zi i), some (zl v), none, none, none] _ _ _ _ _
        refine z_aload0 gi_252_0 ?_
        refine z_iload1 gi_252_1 ?_
        refine z_iload2 gi_252_2 ?_
        refine z_cV2 gi_252_3 gk_50 go_251 (Nat.le_of_ble_eq_true rfl) gc_251_RII ?_
        refine z_iload1 gi_251_0 ?_
        refine z_cS1 gi_251_1 (Nat.le_of_ble_eq_true rfl) gc_248_I ?_
        refine z_iload0 gi_248_0 ?_
        refine z_pushJ gp_248_1 ?_
        refine z_pushJ gp_248_2 ?_
        refine z_cS3 gi_248_3 (Nat.le_of_ble_eq_true rfl) gc_148_III ?_
        refine z_iload0 gi_148_0 ?_
        refine z_iload1 gi_148_1 ?_
        refine z_icmp_ltF gi_148_2 zr_3 zr_0 (by decide) ?_
        refine z_iload0 gi_148_5 ?_
        refine z_iload2 gi_148_6 ?_
        refine z_icmp_gtF gi_148_7 zr_3 zr_5 (by decide) ?_
        refine z_pushJ gp_148_10 ?_
        refine z_goto gi_148_11 ?_
        refine z_bret1 gi_148_15 gr_148 ?_
        show zW _ _ _ _ _ _ _ _ _ _
        refine z_bret1 gi_248_6 gr_248 ?_
        show zW _ _ _ _ _ _ _ _ _ _
        refine z_if_neT gi_251_4 zr_1 (by decide) ?_
        refine z_aload0 gi_251_9 ?_
        refine z_getR (r := 83) gi_251_10 gk_50 (hRr _ rm_50_58 (by decide)) ?_
        refine z_iload1 gi_251_13 ?_
        refine z_iald (v := (-6)) gi_251_14 gk_83 (by decide) (by decide) ((e83.trans (by rw [hso]; rfl))) ?_
        refine z_pushJ gp_251_15 ?_
        refine z_icmp_neT gi_251_16 zrn_6 zrn_1 (by decide) ?_
        refine z_aload0 gi_251_22 ?_
        refine z_getR (r := 83) gi_251_23 gk_50 (hRr _ rm_50_58 (by decide)) ?_
        refine z_iload1 gi_251_26 ?_
        refine z_iald (v := (-6)) gi_251_27 gk_83 (by decide) (by decide) ((e83.trans (by rw [hso]; rfl))) ?_
        refine z_if_ltT gi_251_28 zrn_6 (by decide) ?_
        refine z_iload2 gi_251_34 ?_
        refine z_pushJ gp_251_35 ?_
        refine z_aload0 gi_251_36 ?_
        refine z_getR (r := 84) gi_251_37 gk_50 (hRr _ rm_50_59 (by decide)) ?_
        refine z_iload1 gi_251_40 ?_
        refine z_iald (v := J 44 3) gi_251_41 gk_84 (by decide) (by decide) (s7) ?_
        refine z_pushJ gp_251_42 ?_
        refine z_isub (e := (J 44 3) - 1) gi_251_43 rfl ?_
        refine z_cS3 gi_251_44 (Nat.le_of_ble_eq_true rfl) gc_148_III ?_
        refine z_iload0 gi_148_0 ?_
        refine z_iload1 gi_148_1 ?_
        refine z_icmp_ltF gi_148_2 (by omega) zr_0 (by omega) ?_
        refine z_iload0 gi_148_5 ?_
        refine z_iload2 gi_148_6 ?_
        refine z_icmp_gtF gi_148_7 (by omega) (by omega) (by omega) ?_
        refine z_pushJ gp_148_10 ?_
        refine z_goto gi_148_11 ?_
        refine z_bret1 gi_148_15 gr_148 ?_
        show zW _ _ _ _ _ _ _ _ _ _
        refine z_if_eqF gi_251_47 zr_1 (by decide) ?_
        refine z_pushJ gp_251_50 ?_
        refine z_goto gi_251_51 ?_
        refine z_iret gi_251_56 gr_251 ?_
        show zW _ _ _ _ _ _ _ _ _ _
        refine z_istore (ls1 := [some (.ref 50), some (zi 3), some (zi i), some (zl v), none, some (zi 0), none]) gi_252_6 rfl ?_
        refine z_iload5 gi_252_8 ?_
        refine z_if_geT gi_252_10 zr_0 (by decide) ?_
        refine z_pushJ gp_252_16 ?_
        refine z_aload0 gi_252_18 ?_
        refine z_getR (r := 83) gi_252_19 gk_50 (hRr _ rm_50_58 (by decide)) ?_
        refine z_iload1 gi_252_22 ?_
        refine z_iald (v := (-6)) gi_252_23 gk_83 (by decide) (by decide) ((e83.trans (by rw [hso]; rfl))) ?_
        refine z_isub (e := 4) gi_252_24 rfl ?_
        refine z_istore (ls1 := [some (.ref 50), some (zi 3), some (zi i), some (zl v), none, some (zi 0), some (zi 4)]) gi_252_25 rfl ?_
        refine z_aload0 gi_252_27 ?_
        refine z_getR (r := 85) gi_252_28 gk_50 (hRr _ rm_50_60 (by decide)) ?_
        refine z_pushJ gp_252_31 ?_
        refine z_iload1 gi_252_33 ?_
        refine z_imul (e := 180) gi_252_34 rfl ?_
        refine z_iload2 gi_252_35 ?_
        refine z_iadd (e := 180 + i) gi_252_36 rfl ?_
        refine z_iload6 gi_252_37 ?_
        refine z_if_neT gi_252_39 zr_4 (by decide) ?_
        refine z_iload6 gi_252_49 ?_
        refine z_pushJ gp_252_51 ?_
        refine z_icmp_neT gi_252_52 zr_4 zr_1 (by decide) ?_
        refine z_iload6 gi_252_62 ?_
        refine z_pushJ gp_252_64 ?_
        refine z_icmp_neT gi_252_65 zr_4 zr_2 (by decide) ?_
        refine z_iload6 gi_252_74 ?_
        refine z_pushJ gp_252_76 ?_
        refine z_icmp_neT gi_252_77 zr_4 zr_3 (by decide) ?_
        refine z_lload3 gi_252_84 ?_
        refine z_pushL (z := 0) gi_252_85 rfl ?_
        refine z_lcmp_eq gi_252_86 gi_252_87 (by omega) (by omega) (fun h4 => ?_) (fun h4 => ?_)
        · refine z_pushL (z := 0) gi_252_94 rfl ?_
          refine z_last (e := 0) gi_252_95 gk_85 (by decide) (by omega) rfl ?_
          refine z_pushJ gp_252_96 ?_
          refine z_iret gi_252_97 gr_252 ?_
          refine ⟨?_, ?_⟩
          · first | rfl | exact congrArg (fun v => some (zi v)) (by omega) | (exfalso; omega)
          · exfalso
            omega
        · refine z_pushL (z := 1) gi_252_90 rfl ?_
          refine z_goto gi_252_91 ?_
          refine z_last (e := 1) gi_252_95 gk_85 (by decide) (by omega) rfl ?_
          refine z_pushJ gp_252_96 ?_
          refine z_iret gi_252_97 gr_252 ?_
          refine ⟨?_, ?_⟩
          · first | rfl | exact congrArg (fun v => some (zi v)) (by omega) | (exfalso; omega)
          · have hk := (zK_r (k := (kL [] [])) (A := J))
            have hkm := (zK_x (a := 85) (x := 180 + i) (v := 1) (zK_x (a := 45) (x := i) (v := 1) (zK_r (k := (kL [45, 85] [])) (A := M)) rfl) rfl)
            exact ⟨hR, hG, RelY_k hk (by repeat' constructor) (fun p => by repeat' constructor) hY, RelD_k hk (by repeat' constructor) (fun p => by repeat' constructor) hD, RelP_k hk (by repeat' constructor) (fun p => by repeat' constructor) hP, RelC_k hk (by repeat' constructor) (fun p => by repeat' constructor) hC, RelA_k hk (by repeat' constructor) (fun p => by repeat' constructor) hAc, (RelS_one (J := J) (M := M) (c := 3) (fun t t1 t2 te => by have q : t = 0 ∨ t = 1 ∨ t = 2 ∨ t = 3 ∨ t = 4 ∨ t = 5 := (by omega); rcases q with rfl | rfl | rfl | rfl | rfl | rfl <;> first | exact absurd rfl te | exact ⟨fun j => rfl, rfl, rfl⟩) (fun t t1 t2 te => by have q : t = 0 ∨ t = 1 ∨ t = 2 ∨ t = 3 ∨ t = 4 ∨ t = 5 := (by omega); rcases q with rfl | rfl | rfl | rfl | rfl | rfl <;> first | exact absurd rfl te | exact ⟨fun j => rfl, fun j j1 j2 => (zU_x (by omega)).trans (zU_n (by decide))⟩) rfl (show RelS1 _ _ _ from ⟨(hS 3 (by decide) (by decide)).1, (hS 3 (by decide) (by decide)).2.1, s3, s4, (hS 3 (by decide) (by decide)).2.2.2.2.1, fun _ => ⟨s7.symm, fun k k1 k2 => by show (if k = i then 1 else M 45 k) = (if 180 + k = 180 + i then 1 else M 85 (180 + k)); by_cases e : k = i; rw [if_pos e, if_pos (by omega)]; rw [if_neg e, if_neg (by omega)]; exact s8 k k1 k2, (fun hq => absurd (Eq.trans (Eq.symm hq) hso) (by decide))⟩⟩) hS), RelT_k hk (by repeat' constructor) (fun p => by repeat' constructor) hTp, RelX_k hk (by repeat' constructor) (fun p => by repeat' constructor) hX, RelW_k hk ⟨rfl, rfl⟩ trivial hW⟩
theorem st_element_40 {X : Nat × (Nat → Int32)} {d : Nat} {J M : zA} {R : zR} {i : Int} (hr : Rel X J M R) (hi : -2147483648 ≤ i ∧ i < 2147483648) (hh : J 46 0 = 0) : zW X (d + 20) 139 0 (gEn 139 [(.ref 0), (zi 4), (zi i)]) [] J M R (stL X (d + 20) 253 [(zi 4), (zi i)]) := by
  have hr0 := hr
  obtain ⟨hR, hG, hY, hD, hP, hC, hAc, hS, hTp, hX, hW⟩ := hr0
  have hRr : zRoR R := zRoR_of hR
  have hA0 := hAc
  obtain ⟨a1, a2, a3, a4, a5, a6⟩ := hA0
  have e83 : J 83 4 = -1 := (hS 4 (by decide) (by decide)).1.symm.trans (cH_0 hh)
  have s3 : 0 ≤ J 46 2 ∧ J 46 2 ≤ 4 := (hS 4 (by decide) (by decide)).2.2.1
  have s4 : 0 ≤ J 46 3 ∧ J 46 3 ≤ 60 := (hS 4 (by decide) (by decide)).2.2.2.1
  show zW _ _ _ _ [some (.ref 0), some (zi 4), some (zi i)] _ _ _ _ _
  refine z_iload1 gi_139_0 ?_
  refine z_cS1 gi_139_1 (Nat.le_of_ble_eq_true rfl) gc_143_I ?_
  refine z_iload0 gi_143_0 ?_
  refine z_if_ltF gi_143_1 zr_4 (by decide) ?_
  refine z_iload0 gi_143_4 ?_
  refine z_pushJ gp_143_5 ?_
  refine z_icmp_geF gi_143_7 zr_4 zr_6 (by decide) ?_
  refine z_pushJ gp_143_10 ?_
  refine z_goto gi_143_11 ?_
  refine z_bret1 gi_143_15 gr_143 ?_
  show zW _ _ _ _ _ _ _ _ _ _
  refine z_if_eqF gi_139_4 zr_1 (by decide) ?_
  refine z_aload0 gi_139_7 ?_
  refine z_getR (r := 37) gi_139_8 gk_0 (hR _ rm_0_11) ?_
  refine z_iload1 gi_139_11 ?_
  refine z_aald (r := 46) gi_139_12 rfl (by decide) (by decide) (hR _ rm_37_4) ?_
  refine z_iload2 gi_139_13 ?_
  refine z_cV1 gi_139_14 gk_46 go_70 (Nat.le_of_ble_eq_true rfl) gc_70_RI ?_
  refine z_aload0 gi_70_0 ?_
  refine z_getI (v := 0) gi_70_1 gk_46 (hh) ?_
  refine z_if_neF gi_70_4 zr_0 (by decide) ?_
  refine z_pushJ gp_70_7 ?_
  refine z_iret gi_70_9 gr_70 ?_
  show zW _ _ _ _ _ _ _ _ _ _
  refine z_if_geF gi_139_17 zrn_11 (by decide) ?_
  refine z_pushL (z := (-9223372036854775808)) gi_139_20 rfl ?_
  refine z_lret gi_139_23 gr_139 ?_
  refine ⟨_, rfl, ?_⟩
  show zW _ _ _ _ [some (.ref 50), some (zi 4), some (zi i)] _ _ _ _ _
  refine z_aload0 gi_253_0 ?_
  refine z_iload1 gi_253_1 ?_
  refine z_iload2 gi_253_2 ?_
  refine z_cV2 gi_253_3 gk_50 go_251 (Nat.le_of_ble_eq_true rfl) gc_251_RII ?_
  refine z_iload1 gi_251_0 ?_
  refine z_cS1 gi_251_1 (Nat.le_of_ble_eq_true rfl) gc_248_I ?_
  refine z_iload0 gi_248_0 ?_
  refine z_pushJ gp_248_1 ?_
  refine z_pushJ gp_248_2 ?_
  refine z_cS3 gi_248_3 (Nat.le_of_ble_eq_true rfl) gc_148_III ?_
  refine z_iload0 gi_148_0 ?_
  refine z_iload1 gi_148_1 ?_
  refine z_icmp_ltF gi_148_2 zr_4 zr_0 (by decide) ?_
  refine z_iload0 gi_148_5 ?_
  refine z_iload2 gi_148_6 ?_
  refine z_icmp_gtF gi_148_7 zr_4 zr_5 (by decide) ?_
  refine z_pushJ gp_148_10 ?_
  refine z_goto gi_148_11 ?_
  refine z_bret1 gi_148_15 gr_148 ?_
  show zW _ _ _ _ _ _ _ _ _ _
  refine z_bret1 gi_248_6 gr_248 ?_
  show zW _ _ _ _ _ _ _ _ _ _
  refine z_if_neT gi_251_4 zr_1 (by decide) ?_
  refine z_aload0 gi_251_9 ?_
  refine z_getR (r := 83) gi_251_10 gk_50 (hRr _ rm_50_58 (by decide)) ?_
  refine z_iload1 gi_251_13 ?_
  refine z_iald (v := (-1)) gi_251_14 gk_83 (by decide) (by decide) (e83) ?_
  refine z_pushJ gp_251_15 ?_
  refine z_icmp_neF gi_251_16 zrn_1 zrn_1 (by decide) ?_
  refine z_pushJ gp_251_19 ?_
  refine z_iret gi_251_21 gr_251 ?_
  show zW _ _ _ _ _ _ _ _ _ _
  refine z_if_geF gi_253_6 zrn_11 (by decide) ?_
  refine z_pushL (z := (-9223372036854775808)) gi_253_9 rfl ?_
  refine z_goto gi_253_12 ?_
  refine z_lret gi_253_26 gr_253 ?_
  refine ⟨?_, ?_⟩
  · first | rfl | exact congrArg (fun v => some (zl v)) (by omega) | (exfalso; omega)
  · exact hr
theorem st_put_40 {X : Nat × (Nat → Int32)} {d : Nat} {J M : zA} {R : zR} {i v : Int} (hr : Rel X J M R) (hi : -2147483648 ≤ i ∧ i < 2147483648) (hv : -9223372036854775808 ≤ v ∧ v < 9223372036854775808) (hh : J 46 0 = 0) : zW X (d + 20) 138 0 (gEn 138 [(.ref 0), (zi 4), (zi i), (zl v)]) [] J M R (stP X (d + 20) 252 [(zi 4), (zi i), (zl v)]) := by
  have hr0 := hr
  obtain ⟨hR, hG, hY, hD, hP, hC, hAc, hS, hTp, hX, hW⟩ := hr0
  have hRr : zRoR R := zRoR_of hR
  have hA0 := hAc
  obtain ⟨a1, a2, a3, a4, a5, a6⟩ := hA0
  have e83 : J 83 4 = -1 := (hS 4 (by decide) (by decide)).1.symm.trans (cH_0 hh)
  have s3 : 0 ≤ J 46 2 ∧ J 46 2 ≤ 4 := (hS 4 (by decide) (by decide)).2.2.1
  have s4 : 0 ≤ J 46 3 ∧ J 46 3 ≤ 60 := (hS 4 (by decide) (by decide)).2.2.2.1
  show zW _ _ _ _ [some (.ref 0), some (zi 4), some (zi i), some (zl v), none, none] _ _ _ _ _
  refine z_iload1 gi_138_0 ?_
  refine z_cS1 gi_138_1 (Nat.le_of_ble_eq_true rfl) gc_143_I ?_
  refine z_iload0 gi_143_0 ?_
  refine z_if_ltF gi_143_1 zr_4 (by decide) ?_
  refine z_iload0 gi_143_4 ?_
  refine z_pushJ gp_143_5 ?_
  refine z_icmp_geF gi_143_7 zr_4 zr_6 (by decide) ?_
  refine z_pushJ gp_143_10 ?_
  refine z_goto gi_143_11 ?_
  refine z_bret1 gi_143_15 gr_143 ?_
  show zW _ _ _ _ _ _ _ _ _ _
  refine z_if_neT gi_138_4 zr_1 (by decide) ?_
  refine z_aload0 gi_138_9 ?_
  refine z_getR (r := 37) gi_138_10 gk_0 (hR _ rm_0_11) ?_
  refine z_iload1 gi_138_13 ?_
  refine z_aald (r := 46) gi_138_14 rfl (by decide) (by decide) (hR _ rm_37_4) ?_
  refine z_iload2 gi_138_15 ?_
  refine z_cV1 gi_138_16 gk_46 go_70 (Nat.le_of_ble_eq_true rfl) gc_70_RI ?_
  refine z_aload0 gi_70_0 ?_
  refine z_getI (v := 0) gi_70_1 gk_46 (hh) ?_
  refine z_if_neF gi_70_4 zr_0 (by decide) ?_
  refine z_pushJ gp_70_7 ?_
  refine z_iret gi_70_9 gr_70 ?_
  show zW _ _ _ _ _ _ _ _ _ _
  refine z_istore (ls1 := [some (.ref 0), some (zi 4), some (zi i), some (zl v), none, some (zi (-11))]) gi_138_19 rfl ?_
  refine z_iload5 gi_138_21 ?_
  refine z_if_geF gi_138_23 zrn_11 (by decide) ?_
  refine z_iload5 gi_138_26 ?_
  refine z_iret gi_138_28 gr_138 ?_
  refine ⟨_, rfl, ?_⟩
  show zW _ _ _ _ [some (.ref 50), some (zi 4), some (zi i), some (zl v), none, none, none] _ _ _ _ _
  refine z_aload0 gi_252_0 ?_
  refine z_iload1 gi_252_1 ?_
  refine z_iload2 gi_252_2 ?_
  refine z_cV2 gi_252_3 gk_50 go_251 (Nat.le_of_ble_eq_true rfl) gc_251_RII ?_
  refine z_iload1 gi_251_0 ?_
  refine z_cS1 gi_251_1 (Nat.le_of_ble_eq_true rfl) gc_248_I ?_
  refine z_iload0 gi_248_0 ?_
  refine z_pushJ gp_248_1 ?_
  refine z_pushJ gp_248_2 ?_
  refine z_cS3 gi_248_3 (Nat.le_of_ble_eq_true rfl) gc_148_III ?_
  refine z_iload0 gi_148_0 ?_
  refine z_iload1 gi_148_1 ?_
  refine z_icmp_ltF gi_148_2 zr_4 zr_0 (by decide) ?_
  refine z_iload0 gi_148_5 ?_
  refine z_iload2 gi_148_6 ?_
  refine z_icmp_gtF gi_148_7 zr_4 zr_5 (by decide) ?_
  refine z_pushJ gp_148_10 ?_
  refine z_goto gi_148_11 ?_
  refine z_bret1 gi_148_15 gr_148 ?_
  show zW _ _ _ _ _ _ _ _ _ _
  refine z_bret1 gi_248_6 gr_248 ?_
  show zW _ _ _ _ _ _ _ _ _ _
  refine z_if_neT gi_251_4 zr_1 (by decide) ?_
  refine z_aload0 gi_251_9 ?_
  refine z_getR (r := 83) gi_251_10 gk_50 (hRr _ rm_50_58 (by decide)) ?_
  refine z_iload1 gi_251_13 ?_
  refine z_iald (v := (-1)) gi_251_14 gk_83 (by decide) (by decide) (e83) ?_
  refine z_pushJ gp_251_15 ?_
  refine z_icmp_neF gi_251_16 zrn_1 zrn_1 (by decide) ?_
  refine z_pushJ gp_251_19 ?_
  refine z_iret gi_251_21 gr_251 ?_
  show zW _ _ _ _ _ _ _ _ _ _
  refine z_istore (ls1 := [some (.ref 50), some (zi 4), some (zi i), some (zl v), none, some (zi (-11)), none]) gi_252_6 rfl ?_
  refine z_iload5 gi_252_8 ?_
  refine z_if_geF gi_252_10 zrn_11 (by decide) ?_
  refine z_iload5 gi_252_13 ?_
  refine z_iret gi_252_15 gr_252 ?_
  refine ⟨?_, ?_⟩
  · first | rfl | exact congrArg (fun v => some (zi v)) (by omega) | (exfalso; omega)
  · exact hr
theorem st_element_41 {X : Nat × (Nat → Int32)} {d : Nat} {J M : zA} {R : zR} {i : Int} (hr : Rel X J M R) (hi : -2147483648 ≤ i ∧ i < 2147483648) (hh : J 46 0 = 1) : zW X (d + 20) 139 0 (gEn 139 [(.ref 0), (zi 4), (zi i)]) [] J M R (stL X (d + 20) 253 [(zi 4), (zi i)]) := by
  have hr0 := hr
  obtain ⟨hR, hG, hY, hD, hP, hC, hAc, hS, hTp, hX, hW⟩ := hr0
  have hRr : zRoR R := zRoR_of hR
  have hA0 := hAc
  obtain ⟨a1, a2, a3, a4, a5, a6⟩ := hA0
  have e83 : J 83 4 = J 46 1 := (hS 4 (by decide) (by decide)).1.symm.trans (cH_1 hh)
  have s3 : 0 ≤ J 46 2 ∧ J 46 2 ≤ 4 := (hS 4 (by decide) (by decide)).2.2.1
  have s4 : 0 ≤ J 46 3 ∧ J 46 3 ≤ 60 := (hS 4 (by decide) (by decide)).2.2.2.1
  have s5 : 0 ≤ J 46 1 ∧ J 46 1 < J 34 1 := (hS 4 (by decide) (by decide)).2.2.2.2.1 hh
  show zW _ _ _ _ [some (.ref 0), some (zi 4), some (zi i)] _ _ _ _ _
  refine z_iload1 gi_139_0 ?_
  refine z_cS1 gi_139_1 (Nat.le_of_ble_eq_true rfl) gc_143_I ?_
  refine z_iload0 gi_143_0 ?_
  refine z_if_ltF gi_143_1 zr_4 (by decide) ?_
  refine z_iload0 gi_143_4 ?_
  refine z_pushJ gp_143_5 ?_
  refine z_icmp_geF gi_143_7 zr_4 zr_6 (by decide) ?_
  refine z_pushJ gp_143_10 ?_
  refine z_goto gi_143_11 ?_
  refine z_bret1 gi_143_15 gr_143 ?_
  show zW _ _ _ _ _ _ _ _ _ _
  refine z_if_eqF gi_139_4 zr_1 (by decide) ?_
  refine z_aload0 gi_139_7 ?_
  refine z_getR (r := 37) gi_139_8 gk_0 (hR _ rm_0_11) ?_
  refine z_iload1 gi_139_11 ?_
  refine z_aald (r := 46) gi_139_12 rfl (by decide) (by decide) (hR _ rm_37_4) ?_
  refine z_iload2 gi_139_13 ?_
  refine z_cV1 gi_139_14 gk_46 go_70 (Nat.le_of_ble_eq_true rfl) gc_70_RI ?_
  refine z_aload0 gi_70_0 ?_
  refine z_getI (v := 1) gi_70_1 gk_46 (hh) ?_
  refine z_if_neT gi_70_4 zr_1 (by decide) ?_
  refine z_aload0 gi_70_10 ?_
  refine z_getI (v := 1) gi_70_11 gk_46 (hh) ?_
  refine z_pushJ gp_70_14 ?_
  refine z_icmp_eqF gi_70_15 zr_1 zr_2 (by decide) ?_
  refine z_pushJ gp_70_18 ?_
  refine z_iret gi_70_20 gr_70 ?_
  show zW _ _ _ _ _ _ _ _ _ _
  refine z_if_geF gi_139_17 zrn_12 (by decide) ?_
  refine z_pushL (z := (-9223372036854775808)) gi_139_20 rfl ?_
  refine z_lret gi_139_23 gr_139 ?_
  refine ⟨_, rfl, ?_⟩
  show zW _ _ _ _ [some (.ref 50), some (zi 4), some (zi i)] _ _ _ _ _
  refine z_aload0 gi_253_0 ?_
  refine z_iload1 gi_253_1 ?_
  refine z_iload2 gi_253_2 ?_
  refine z_cV2 gi_253_3 gk_50 go_251 (Nat.le_of_ble_eq_true rfl) gc_251_RII ?_
  refine z_iload1 gi_251_0 ?_
  refine z_cS1 gi_251_1 (Nat.le_of_ble_eq_true rfl) gc_248_I ?_
  refine z_iload0 gi_248_0 ?_
  refine z_pushJ gp_248_1 ?_
  refine z_pushJ gp_248_2 ?_
  refine z_cS3 gi_248_3 (Nat.le_of_ble_eq_true rfl) gc_148_III ?_
  refine z_iload0 gi_148_0 ?_
  refine z_iload1 gi_148_1 ?_
  refine z_icmp_ltF gi_148_2 zr_4 zr_0 (by decide) ?_
  refine z_iload0 gi_148_5 ?_
  refine z_iload2 gi_148_6 ?_
  refine z_icmp_gtF gi_148_7 zr_4 zr_5 (by decide) ?_
  refine z_pushJ gp_148_10 ?_
  refine z_goto gi_148_11 ?_
  refine z_bret1 gi_148_15 gr_148 ?_
  show zW _ _ _ _ _ _ _ _ _ _
  refine z_bret1 gi_248_6 gr_248 ?_
  show zW _ _ _ _ _ _ _ _ _ _
  refine z_if_neT gi_251_4 zr_1 (by decide) ?_
  refine z_aload0 gi_251_9 ?_
  refine z_getR (r := 83) gi_251_10 gk_50 (hRr _ rm_50_58 (by decide)) ?_
  refine z_iload1 gi_251_13 ?_
  refine z_iald (v := J 46 1) gi_251_14 gk_83 (by decide) (by decide) (e83) ?_
  refine z_pushJ gp_251_15 ?_
  refine z_icmp_ne gi_251_16 (by omega) zrn_1 (fun h1 => ?_) (fun h1 => ?_)
  · refine z_aload0 gi_251_22 ?_
    refine z_getR (r := 83) gi_251_23 gk_50 (hRr _ rm_50_58 (by decide)) ?_
    refine z_iload1 gi_251_26 ?_
    refine z_iald (v := J 46 1) gi_251_27 gk_83 (by decide) (by decide) (e83) ?_
    refine z_if_lt gi_251_28 (by omega) (fun h2 => ?_) (fun h2 => ?_)
    · refine z_iload2 gi_251_34 ?_
      refine z_pushJ gp_251_35 ?_
      refine z_aload0 gi_251_36 ?_
      refine z_getR (r := 84) gi_251_37 gk_50 (hRr _ rm_50_59 (by decide)) ?_
      refine z_iload1 gi_251_40 ?_
      refine z_iald (v := J 84 4) gi_251_41 gk_84 (by decide) (by decide) (rfl) ?_
      refine z_pushJ gp_251_42 ?_
      refine z_isub (e := (J 84 4) - 1) gi_251_43 rfl ?_
      refine z_cS3 gi_251_44 (Nat.le_of_ble_eq_true rfl) gc_148_III ?_
      refine z_iload0 gi_148_0 ?_
      refine z_iload1 gi_148_1 ?_
      refine z_icmp_lt gi_148_2 (by omega) zr_0 (fun h3 => ?_) (fun h3 => ?_)
      · refine z_pushJ gp_148_14 ?_
        refine z_bret0 gi_148_15 gr_148 ?_
        show zW _ _ _ _ _ _ _ _ _ _
        refine z_if_eqT gi_251_47 zr_0 (by decide) ?_
        refine z_pushJ gp_251_54 ?_
        refine z_iret gi_251_56 gr_251 ?_
        show zW _ _ _ _ _ _ _ _ _ _
        refine z_if_geF gi_253_6 zrn_13 (by decide) ?_
        refine z_pushL (z := (-9223372036854775808)) gi_253_9 rfl ?_
        refine z_goto gi_253_12 ?_
        refine z_lret gi_253_26 gr_253 ?_
        refine ⟨?_, ?_⟩
        · first | rfl | exact congrArg (fun v => some (zl v)) (by omega) | (exfalso; omega)
        · exact hr
      · refine z_iload0 gi_148_5 ?_
        refine z_iload2 gi_148_6 ?_
        refine z_icmp_gt gi_148_7 (by omega) (by omega) (fun h4 => ?_) (fun h4 => ?_)
        · refine z_pushJ gp_148_14 ?_
          refine z_bret0 gi_148_15 gr_148 ?_
          show zW _ _ _ _ _ _ _ _ _ _
          refine z_if_eqT gi_251_47 zr_0 (by decide) ?_
          refine z_pushJ gp_251_54 ?_
          refine z_iret gi_251_56 gr_251 ?_
          show zW _ _ _ _ _ _ _ _ _ _
          refine z_if_geF gi_253_6 zrn_13 (by decide) ?_
          refine z_pushL (z := (-9223372036854775808)) gi_253_9 rfl ?_
          refine z_goto gi_253_12 ?_
          refine z_lret gi_253_26 gr_253 ?_
          refine ⟨?_, ?_⟩
          · first | rfl | exact congrArg (fun v => some (zl v)) (by omega) | (exfalso; omega)
          · exact hr
        · refine z_pushJ gp_148_10 ?_
          refine z_goto gi_148_11 ?_
          refine z_bret1 gi_148_15 gr_148 ?_
          show zW _ _ _ _ _ _ _ _ _ _
          refine z_if_eqF gi_251_47 zr_1 (by decide) ?_
          refine z_pushJ gp_251_50 ?_
          refine z_goto gi_251_51 ?_
          refine z_iret gi_251_56 gr_251 ?_
          show zW _ _ _ _ _ _ _ _ _ _
          refine z_if_geT gi_253_6 zr_0 (by decide) ?_
          refine z_aload0 gi_253_15 ?_
          refine z_getR (r := 85) gi_253_16 gk_50 (hRr _ rm_50_60 (by decide)) ?_
          refine z_pushJ gp_253_19 ?_
          refine z_iload1 gi_253_21 ?_
          refine z_imul (e := 240) gi_253_22 rfl ?_
          refine z_iload2 gi_253_23 ?_
          refine z_iadd (e := 240 + i) gi_253_24 rfl ?_
          refine z_lald (v := M 85 (240 + i)) gi_253_25 gk_85 (by decide) (by omega) (rfl) ?_
          refine z_lret gi_253_26 gr_253 ?_
          refine ⟨?_, ?_⟩
          · first | rfl | exact congrArg (fun v => some (zl v)) (by omega) | (exfalso; omega)
          · exact hr
    · refine z_pushJ gp_251_31 ?_
      refine z_iret gi_251_33 gr_251 ?_
      show zW _ _ _ _ _ _ _ _ _ _
      refine z_if_geF gi_253_6 zrn_12 (by decide) ?_
      refine z_pushL (z := (-9223372036854775808)) gi_253_9 rfl ?_
      refine z_goto gi_253_12 ?_
      refine z_lret gi_253_26 gr_253 ?_
      refine ⟨?_, ?_⟩
      · first | rfl | exact congrArg (fun v => some (zl v)) (by omega) | (exfalso; omega)
      · exact hr
  · refine z_pushJ gp_251_19 ?_
    refine z_iret gi_251_21 gr_251 ?_
    show zW _ _ _ _ _ _ _ _ _ _
    refine z_if_geF gi_253_6 zrn_11 (by decide) ?_
    refine z_pushL (z := (-9223372036854775808)) gi_253_9 rfl ?_
    refine z_goto gi_253_12 ?_
    refine z_lret gi_253_26 gr_253 ?_
    refine ⟨?_, ?_⟩
    · first | rfl | exact congrArg (fun v => some (zl v)) (by omega) | (exfalso; omega)
    · exact hr
theorem st_put_41 {X : Nat × (Nat → Int32)} {d : Nat} {J M : zA} {R : zR} {i v : Int} (hr : Rel X J M R) (hi : -2147483648 ≤ i ∧ i < 2147483648) (hv : -9223372036854775808 ≤ v ∧ v < 9223372036854775808) (hh : J 46 0 = 1) : zW X (d + 20) 138 0 (gEn 138 [(.ref 0), (zi 4), (zi i), (zl v)]) [] J M R (stP X (d + 20) 252 [(zi 4), (zi i), (zl v)]) := by
  have hr0 := hr
  obtain ⟨hR, hG, hY, hD, hP, hC, hAc, hS, hTp, hX, hW⟩ := hr0
  have hRr : zRoR R := zRoR_of hR
  have hA0 := hAc
  obtain ⟨a1, a2, a3, a4, a5, a6⟩ := hA0
  have e83 : J 83 4 = J 46 1 := (hS 4 (by decide) (by decide)).1.symm.trans (cH_1 hh)
  have s3 : 0 ≤ J 46 2 ∧ J 46 2 ≤ 4 := (hS 4 (by decide) (by decide)).2.2.1
  have s4 : 0 ≤ J 46 3 ∧ J 46 3 ≤ 60 := (hS 4 (by decide) (by decide)).2.2.2.1
  have s5 : 0 ≤ J 46 1 ∧ J 46 1 < J 34 1 := (hS 4 (by decide) (by decide)).2.2.2.2.1 hh
  show zW _ _ _ _ [some (.ref 0), some (zi 4), some (zi i), some (zl v), none, none] _ _ _ _ _
  refine z_iload1 gi_138_0 ?_
  refine z_cS1 gi_138_1 (Nat.le_of_ble_eq_true rfl) gc_143_I ?_
  refine z_iload0 gi_143_0 ?_
  refine z_if_ltF gi_143_1 zr_4 (by decide) ?_
  refine z_iload0 gi_143_4 ?_
  refine z_pushJ gp_143_5 ?_
  refine z_icmp_geF gi_143_7 zr_4 zr_6 (by decide) ?_
  refine z_pushJ gp_143_10 ?_
  refine z_goto gi_143_11 ?_
  refine z_bret1 gi_143_15 gr_143 ?_
  show zW _ _ _ _ _ _ _ _ _ _
  refine z_if_neT gi_138_4 zr_1 (by decide) ?_
  refine z_aload0 gi_138_9 ?_
  refine z_getR (r := 37) gi_138_10 gk_0 (hR _ rm_0_11) ?_
  refine z_iload1 gi_138_13 ?_
  refine z_aald (r := 46) gi_138_14 rfl (by decide) (by decide) (hR _ rm_37_4) ?_
  refine z_iload2 gi_138_15 ?_
  refine z_cV1 gi_138_16 gk_46 go_70 (Nat.le_of_ble_eq_true rfl) gc_70_RI ?_
  refine z_aload0 gi_70_0 ?_
  refine z_getI (v := 1) gi_70_1 gk_46 (hh) ?_
  refine z_if_neT gi_70_4 zr_1 (by decide) ?_
  refine z_aload0 gi_70_10 ?_
  refine z_getI (v := 1) gi_70_11 gk_46 (hh) ?_
  refine z_pushJ gp_70_14 ?_
  refine z_icmp_eqF gi_70_15 zr_1 zr_2 (by decide) ?_
  refine z_pushJ gp_70_18 ?_
  refine z_iret gi_70_20 gr_70 ?_
  show zW _ _ _ _ _ _ _ _ _ _
  refine z_istore (ls1 := [some (.ref 0), some (zi 4), some (zi i), some (zl v), none, some (zi (-12))]) gi_138_19 rfl ?_
  refine z_iload5 gi_138_21 ?_
  refine z_if_geF gi_138_23 zrn_12 (by decide) ?_
  refine z_iload5 gi_138_26 ?_
  refine z_iret gi_138_28 gr_138 ?_
  refine ⟨_, rfl, ?_⟩
  show zW _ _ _ _ [some (.ref 50), some (zi 4), some (zi i), some (zl v), none, none, none] _ _ _ _ _
  refine z_aload0 gi_252_0 ?_
  refine z_iload1 gi_252_1 ?_
  refine z_iload2 gi_252_2 ?_
  refine z_cV2 gi_252_3 gk_50 go_251 (Nat.le_of_ble_eq_true rfl) gc_251_RII ?_
  refine z_iload1 gi_251_0 ?_
  refine z_cS1 gi_251_1 (Nat.le_of_ble_eq_true rfl) gc_248_I ?_
  refine z_iload0 gi_248_0 ?_
  refine z_pushJ gp_248_1 ?_
  refine z_pushJ gp_248_2 ?_
  refine z_cS3 gi_248_3 (Nat.le_of_ble_eq_true rfl) gc_148_III ?_
  refine z_iload0 gi_148_0 ?_
  refine z_iload1 gi_148_1 ?_
  refine z_icmp_ltF gi_148_2 zr_4 zr_0 (by decide) ?_
  refine z_iload0 gi_148_5 ?_
  refine z_iload2 gi_148_6 ?_
  refine z_icmp_gtF gi_148_7 zr_4 zr_5 (by decide) ?_
  refine z_pushJ gp_148_10 ?_
  refine z_goto gi_148_11 ?_
  refine z_bret1 gi_148_15 gr_148 ?_
  show zW _ _ _ _ _ _ _ _ _ _
  refine z_bret1 gi_248_6 gr_248 ?_
  show zW _ _ _ _ _ _ _ _ _ _
  refine z_if_neT gi_251_4 zr_1 (by decide) ?_
  refine z_aload0 gi_251_9 ?_
  refine z_getR (r := 83) gi_251_10 gk_50 (hRr _ rm_50_58 (by decide)) ?_
  refine z_iload1 gi_251_13 ?_
  refine z_iald (v := J 46 1) gi_251_14 gk_83 (by decide) (by decide) (e83) ?_
  refine z_pushJ gp_251_15 ?_
  refine z_icmp_ne gi_251_16 (by omega) zrn_1 (fun h1 => ?_) (fun h1 => ?_)
  · refine z_aload0 gi_251_22 ?_
    refine z_getR (r := 83) gi_251_23 gk_50 (hRr _ rm_50_58 (by decide)) ?_
    refine z_iload1 gi_251_26 ?_
    refine z_iald (v := J 46 1) gi_251_27 gk_83 (by decide) (by decide) (e83) ?_
    refine z_if_lt gi_251_28 (by omega) (fun h2 => ?_) (fun h2 => ?_)
    · refine z_iload2 gi_251_34 ?_
      refine z_pushJ gp_251_35 ?_
      refine z_aload0 gi_251_36 ?_
      refine z_getR (r := 84) gi_251_37 gk_50 (hRr _ rm_50_59 (by decide)) ?_
      refine z_iload1 gi_251_40 ?_
      refine z_iald (v := J 84 4) gi_251_41 gk_84 (by decide) (by decide) (rfl) ?_
      refine z_pushJ gp_251_42 ?_
      refine z_isub (e := (J 84 4) - 1) gi_251_43 rfl ?_
      refine z_cS3 gi_251_44 (Nat.le_of_ble_eq_true rfl) gc_148_III ?_
      refine z_iload0 gi_148_0 ?_
      refine z_iload1 gi_148_1 ?_
      refine z_icmp_lt gi_148_2 (by omega) zr_0 (fun h3 => ?_) (fun h3 => ?_)
      · refine z_pushJ gp_148_14 ?_
        refine z_bret0 gi_148_15 gr_148 ?_
        show zW _ _ _ _ _ _ _ _ _ _
        refine z_if_eqT gi_251_47 zr_0 (by decide) ?_
        refine z_pushJ gp_251_54 ?_
        refine z_iret gi_251_56 gr_251 ?_
        show zW _ _ _ _ _ _ _ _ _ _
        refine z_istore (ls1 := [some (.ref 50), some (zi 4), some (zi i), some (zl v), none, some (zi (-13)), none]) gi_252_6 rfl ?_
        refine z_iload5 gi_252_8 ?_
        refine z_if_geF gi_252_10 zrn_13 (by decide) ?_
        refine z_iload5 gi_252_13 ?_
        refine z_iret gi_252_15 gr_252 ?_
        refine ⟨?_, ?_⟩
        · first | rfl | exact congrArg (fun v => some (zi v)) (by omega) | (exfalso; omega)
        · exact hr
      · refine z_iload0 gi_148_5 ?_
        refine z_iload2 gi_148_6 ?_
        refine z_icmp_gt gi_148_7 (by omega) (by omega) (fun h4 => ?_) (fun h4 => ?_)
        · refine z_pushJ gp_148_14 ?_
          refine z_bret0 gi_148_15 gr_148 ?_
          show zW _ _ _ _ _ _ _ _ _ _
          refine z_if_eqT gi_251_47 zr_0 (by decide) ?_
          refine z_pushJ gp_251_54 ?_
          refine z_iret gi_251_56 gr_251 ?_
          show zW _ _ _ _ _ _ _ _ _ _
          refine z_istore (ls1 := [some (.ref 50), some (zi 4), some (zi i), some (zl v), none, some (zi (-13)), none]) gi_252_6 rfl ?_
          refine z_iload5 gi_252_8 ?_
          refine z_if_geF gi_252_10 zrn_13 (by decide) ?_
          refine z_iload5 gi_252_13 ?_
          refine z_iret gi_252_15 gr_252 ?_
          refine ⟨?_, ?_⟩
          · first | rfl | exact congrArg (fun v => some (zi v)) (by omega) | (exfalso; omega)
          · exact hr
        · refine z_pushJ gp_148_10 ?_
          refine z_goto gi_148_11 ?_
          refine z_bret1 gi_148_15 gr_148 ?_
          show zW _ _ _ _ _ _ _ _ _ _
          refine z_if_eqF gi_251_47 zr_1 (by decide) ?_
          refine z_pushJ gp_251_50 ?_
          refine z_goto gi_251_51 ?_
          refine z_iret gi_251_56 gr_251 ?_
          show zW _ _ _ _ _ _ _ _ _ _
          refine z_istore (ls1 := [some (.ref 50), some (zi 4), some (zi i), some (zl v), none, some (zi 0), none]) gi_252_6 rfl ?_
          refine z_iload5 gi_252_8 ?_
          refine z_if_geT gi_252_10 zr_0 (by decide) ?_
          refine z_pushJ gp_252_16 ?_
          refine z_aload0 gi_252_18 ?_
          refine z_getR (r := 83) gi_252_19 gk_50 (hRr _ rm_50_58 (by decide)) ?_
          refine z_iload1 gi_252_22 ?_
          refine z_iald (v := J 46 1) gi_252_23 gk_83 (by decide) (by decide) (e83) ?_
          refine z_isub (e := (-2) - (J 46 1)) gi_252_24 rfl ?_
          refine z_istore (ls1 := [some (.ref 50), some (zi 4), some (zi i), some (zl v), none, some (zi 0), some (zi ((-2) - (J 46 1)))]) gi_252_25 rfl ?_
          refine z_aload0 gi_252_27 ?_
          refine z_getR (r := 85) gi_252_28 gk_50 (hRr _ rm_50_60 (by decide)) ?_
          refine z_pushJ gp_252_31 ?_
          refine z_iload1 gi_252_33 ?_
          refine z_imul (e := 240) gi_252_34 rfl ?_
          refine z_iload2 gi_252_35 ?_
          refine z_iadd (e := 240 + i) gi_252_36 rfl ?_
          refine z_iload6 gi_252_37 ?_
          refine z_if_ne gi_252_39 (by omega) (fun h5 => ?_) (fun h5 => ?_)
          · refine z_iload6 gi_252_49 ?_
            refine z_pushJ gp_252_51 ?_
            refine z_icmp_ne gi_252_52 (by omega) zr_1 (fun h6 => ?_) (fun h6 => ?_)
            · refine z_iload6 gi_252_62 ?_
              refine z_pushJ gp_252_64 ?_
              refine z_icmp_ne gi_252_65 (by omega) zr_2 (fun h7 => ?_) (fun h7 => ?_)
              · refine z_iload6 gi_252_74 ?_
                refine z_pushJ gp_252_76 ?_
                refine z_icmp_ne gi_252_77 (by omega) zr_3 (fun h8 => ?_) (fun h8 => ?_)
                · refine z_lload3 gi_252_84 ?_
                  refine z_pushL (z := 0) gi_252_85 rfl ?_
                  refine z_lcmp_eq gi_252_86 gi_252_87 (by omega) (by omega) (fun h9 => ?_) (fun h9 => ?_)
                  · refine z_pushL (z := 0) gi_252_94 rfl ?_
                    refine z_last (e := 0) gi_252_95 gk_85 (by decide) (by omega) rfl ?_
                    refine z_pushJ gp_252_96 ?_
                    refine z_iret gi_252_97 gr_252 ?_
                    refine ⟨?_, ?_⟩
                    · first | rfl | exact congrArg (fun v => some (zi v)) (by omega) | (exfalso; omega)
                    · exfalso
                      omega
                  · refine z_pushL (z := 1) gi_252_90 rfl ?_
                    refine z_goto gi_252_91 ?_
                    refine z_last (e := 1) gi_252_95 gk_85 (by decide) (by omega) rfl ?_
                    refine z_pushJ gp_252_96 ?_
                    refine z_iret gi_252_97 gr_252 ?_
                    refine ⟨?_, ?_⟩
                    · first | rfl | exact congrArg (fun v => some (zi v)) (by omega) | (exfalso; omega)
                    · exfalso
                      omega
                · refine z_lload3 gi_252_80 ?_
                  refine z_goto gi_252_81 ?_
                  refine z_last (e := v) gi_252_95 gk_85 (by decide) (by omega) rfl ?_
                  refine z_pushJ gp_252_96 ?_
                  refine z_iret gi_252_97 gr_252 ?_
                  refine ⟨?_, ?_⟩
                  · first | rfl | exact congrArg (fun v => some (zi v)) (by omega) | (exfalso; omega)
                  · exfalso
                    omega
              · refine z_lload3 gi_252_68 ?_
                refine z_l2i gi_252_69 ?_
                refine z_topn (e := zn v) rfl ?_
                have q10 := zn_r v
                refine z_i2l gi_252_70 (by omega) ?_
                refine z_goto gi_252_71 ?_
                refine z_last (e := zn v) gi_252_95 gk_85 (by decide) (by omega) rfl ?_
                refine z_pushJ gp_252_96 ?_
                refine z_iret gi_252_97 gr_252 ?_
                refine ⟨?_, ?_⟩
                · first | rfl | exact congrArg (fun v => some (zi v)) (by omega) | (exfalso; omega)
                · exfalso
                  omega
            · refine z_lload3 gi_252_55 ?_
              refine z_l2i gi_252_56 ?_
              refine z_i2s (e := zh v) gi_252_57 rfl ?_
              have q11 := zh_r v
              refine z_i2l gi_252_58 (by omega) ?_
              refine z_goto gi_252_59 ?_
              refine z_last (e := zh v) gi_252_95 gk_85 (by decide) (by omega) rfl ?_
              refine z_pushJ gp_252_96 ?_
              refine z_iret gi_252_97 gr_252 ?_
              refine ⟨?_, ?_⟩
              · first | rfl | exact congrArg (fun v => some (zi v)) (by omega) | (exfalso; omega)
              · exfalso
                omega
          · refine z_lload3 gi_252_42 ?_
            refine z_l2i gi_252_43 ?_
            refine z_i2b (e := zb v) gi_252_44 rfl ?_
            have q12 := zb_r v
            refine z_i2l gi_252_45 (by omega) ?_
            refine z_goto gi_252_46 ?_
            refine z_last (e := zb v) gi_252_95 gk_85 (by decide) (by omega) rfl ?_
            refine z_pushJ gp_252_96 ?_
            refine z_iret gi_252_97 gr_252 ?_
            refine ⟨?_, ?_⟩
            · first | rfl | exact congrArg (fun v => some (zi v)) (by omega) | (exfalso; omega)
            · exfalso
              omega
    · refine z_pushJ gp_251_31 ?_
      refine z_iret gi_251_33 gr_251 ?_
      show zW _ _ _ _ _ _ _ _ _ _
      refine z_istore (ls1 := [some (.ref 50), some (zi 4), some (zi i), some (zl v), none, some (zi (-12)), none]) gi_252_6 rfl ?_
      refine z_iload5 gi_252_8 ?_
      refine z_if_geF gi_252_10 zrn_12 (by decide) ?_
      refine z_iload5 gi_252_13 ?_
      refine z_iret gi_252_15 gr_252 ?_
      refine ⟨?_, ?_⟩
      · first | rfl | exact congrArg (fun v => some (zi v)) (by omega) | (exfalso; omega)
      · exact hr
  · refine z_pushJ gp_251_19 ?_
    refine z_iret gi_251_21 gr_251 ?_
    show zW _ _ _ _ _ _ _ _ _ _
    refine z_istore (ls1 := [some (.ref 50), some (zi 4), some (zi i), some (zl v), none, some (zi (-11)), none]) gi_252_6 rfl ?_
    refine z_iload5 gi_252_8 ?_
    refine z_if_geF gi_252_10 zrn_11 (by decide) ?_
    refine z_iload5 gi_252_13 ?_
    refine z_iret gi_252_15 gr_252 ?_
    refine ⟨?_, ?_⟩
    · first | rfl | exact congrArg (fun v => some (zi v)) (by omega) | (exfalso; omega)
    · exact hr
theorem st_element_42 {X : Nat × (Nat → Int32)} {d : Nat} {J M : zA} {R : zR} {i : Int} (hr : Rel X J M R) (hi : -2147483648 ≤ i ∧ i < 2147483648) (hh : J 46 0 = 2) : zW X (d + 20) 139 0 (gEn 139 [(.ref 0), (zi 4), (zi i)]) [] J M R (stL X (d + 20) 253 [(zi 4), (zi i)]) := by
  have hr0 := hr
  obtain ⟨hR, hG, hY, hD, hP, hC, hAc, hS, hTp, hX, hW⟩ := hr0
  have hRr : zRoR R := zRoR_of hR
  have hA0 := hAc
  obtain ⟨a1, a2, a3, a4, a5, a6⟩ := hA0
  have e83 : J 83 4 = -2 - J 46 2 := (hS 4 (by decide) (by decide)).1.symm.trans (cH_2 hh)
  have s3 : 0 ≤ J 46 2 ∧ J 46 2 ≤ 4 := (hS 4 (by decide) (by decide)).2.2.1
  have s4 : 0 ≤ J 46 3 ∧ J 46 3 ≤ 60 := (hS 4 (by decide) (by decide)).2.2.2.1
  have s6 := (hS 4 (by decide) (by decide)).2.2.2.2.2 hh
  have s7 : J 84 4 = J 46 3 := s6.1.symm
  have s8 : ∀ i, 0 ≤ i → i < J 46 3 → M 47 i = M 85 (240 + i) := s6.2.1
  show zW _ _ _ _ [some (.ref 0), some (zi 4), some (zi i)] _ _ _ _ _
  refine z_iload1 gi_139_0 ?_
  refine z_cS1 gi_139_1 (Nat.le_of_ble_eq_true rfl) gc_143_I ?_
  refine z_iload0 gi_143_0 ?_
  refine z_if_ltF gi_143_1 zr_4 (by decide) ?_
  refine z_iload0 gi_143_4 ?_
  refine z_pushJ gp_143_5 ?_
  refine z_icmp_geF gi_143_7 zr_4 zr_6 (by decide) ?_
  refine z_pushJ gp_143_10 ?_
  refine z_goto gi_143_11 ?_
  refine z_bret1 gi_143_15 gr_143 ?_
  show zW _ _ _ _ _ _ _ _ _ _
  refine z_if_eqF gi_139_4 zr_1 (by decide) ?_
  refine z_aload0 gi_139_7 ?_
  refine z_getR (r := 37) gi_139_8 gk_0 (hR _ rm_0_11) ?_
  refine z_iload1 gi_139_11 ?_
  refine z_aald (r := 46) gi_139_12 rfl (by decide) (by decide) (hR _ rm_37_4) ?_
  refine z_iload2 gi_139_13 ?_
  refine z_cV1 gi_139_14 gk_46 go_70 (Nat.le_of_ble_eq_true rfl) gc_70_RI ?_
  refine z_aload0 gi_70_0 ?_
  refine z_getI (v := 2) gi_70_1 gk_46 (hh) ?_
  refine z_if_neT gi_70_4 zr_2 (by decide) ?_
  refine z_aload0 gi_70_10 ?_
  refine z_getI (v := 2) gi_70_11 gk_46 (hh) ?_
  refine z_pushJ gp_70_14 ?_
  refine z_icmp_eqT gi_70_15 zr_2 zr_2 (by decide) ?_
  refine z_iload1 gi_70_21 ?_
  refine z_if_lt gi_70_22 (by omega) (fun h1 => ?_) (fun h1 => ?_)
  · refine z_pushJ gp_70_37 ?_
    refine z_iret gi_70_39 gr_70 ?_
    show zW _ _ _ _ _ _ _ _ _ _
    refine z_if_geF gi_139_17 zrn_13 (by decide) ?_
    refine z_pushL (z := (-9223372036854775808)) gi_139_20 rfl ?_
    refine z_lret gi_139_23 gr_139 ?_
    refine ⟨_, rfl, ?_⟩
    show zW _ _ _ _ [some (.ref 50), some (zi 4), some (zi i)] _ _ _ _ _
    refine z_aload0 gi_253_0 ?_
    refine z_iload1 gi_253_1 ?_
    refine z_iload2 gi_253_2 ?_
    refine z_cV2 gi_253_3 gk_50 go_251 (Nat.le_of_ble_eq_true rfl) gc_251_RII ?_
    refine z_iload1 gi_251_0 ?_
    refine z_cS1 gi_251_1 (Nat.le_of_ble_eq_true rfl) gc_248_I ?_
    refine z_iload0 gi_248_0 ?_
    refine z_pushJ gp_248_1 ?_
    refine z_pushJ gp_248_2 ?_
    refine z_cS3 gi_248_3 (Nat.le_of_ble_eq_true rfl) gc_148_III ?_
    refine z_iload0 gi_148_0 ?_
    refine z_iload1 gi_148_1 ?_
    refine z_icmp_ltF gi_148_2 zr_4 zr_0 (by decide) ?_
    refine z_iload0 gi_148_5 ?_
    refine z_iload2 gi_148_6 ?_
    refine z_icmp_gtF gi_148_7 zr_4 zr_5 (by decide) ?_
    refine z_pushJ gp_148_10 ?_
    refine z_goto gi_148_11 ?_
    refine z_bret1 gi_148_15 gr_148 ?_
    show zW _ _ _ _ _ _ _ _ _ _
    refine z_bret1 gi_248_6 gr_248 ?_
    show zW _ _ _ _ _ _ _ _ _ _
    refine z_if_neT gi_251_4 zr_1 (by decide) ?_
    refine z_aload0 gi_251_9 ?_
    refine z_getR (r := 83) gi_251_10 gk_50 (hRr _ rm_50_58 (by decide)) ?_
    refine z_iload1 gi_251_13 ?_
    refine z_iald (v := (-2) - (J 46 2)) gi_251_14 gk_83 (by decide) (by decide) (e83) ?_
    refine z_pushJ gp_251_15 ?_
    refine z_icmp_ne gi_251_16 (by omega) zrn_1 (fun h2 => ?_) (fun h2 => ?_)
    · refine z_aload0 gi_251_22 ?_
      refine z_getR (r := 83) gi_251_23 gk_50 (hRr _ rm_50_58 (by decide)) ?_
      refine z_iload1 gi_251_26 ?_
      refine z_iald (v := (-2) - (J 46 2)) gi_251_27 gk_83 (by decide) (by decide) (e83) ?_
      refine z_if_lt gi_251_28 (by omega) (fun h3 => ?_) (fun h3 => ?_)
      · refine z_iload2 gi_251_34 ?_
        refine z_pushJ gp_251_35 ?_
        refine z_aload0 gi_251_36 ?_
        refine z_getR (r := 84) gi_251_37 gk_50 (hRr _ rm_50_59 (by decide)) ?_
        refine z_iload1 gi_251_40 ?_
        refine z_iald (v := J 46 3) gi_251_41 gk_84 (by decide) (by decide) (s7) ?_
        refine z_pushJ gp_251_42 ?_
        refine z_isub (e := (J 46 3) - 1) gi_251_43 rfl ?_
        refine z_cS3 gi_251_44 (Nat.le_of_ble_eq_true rfl) gc_148_III ?_
        refine z_iload0 gi_148_0 ?_
        refine z_iload1 gi_148_1 ?_
        refine z_icmp_ltT gi_148_2 (by omega) zr_0 (by omega) ?_
        refine z_pushJ gp_148_14 ?_
        refine z_bret0 gi_148_15 gr_148 ?_
        show zW _ _ _ _ _ _ _ _ _ _
        refine z_if_eqT gi_251_47 zr_0 (by decide) ?_
        refine z_pushJ gp_251_54 ?_
        refine z_iret gi_251_56 gr_251 ?_
        show zW _ _ _ _ _ _ _ _ _ _
        refine z_if_geF gi_253_6 zrn_13 (by decide) ?_
        refine z_pushL (z := (-9223372036854775808)) gi_253_9 rfl ?_
        refine z_goto gi_253_12 ?_
        refine z_lret gi_253_26 gr_253 ?_
        refine ⟨?_, ?_⟩
        · first | rfl | exact congrArg (fun v => some (zl v)) (by omega) | (exfalso; omega)
        · exact hr
      · refine z_pushJ gp_251_31 ?_
        refine z_iret gi_251_33 gr_251 ?_
        show zW _ _ _ _ _ _ _ _ _ _
        refine z_if_geF gi_253_6 zrn_12 (by decide) ?_
        refine z_pushL (z := (-9223372036854775808)) gi_253_9 rfl ?_
        refine z_goto gi_253_12 ?_
        refine z_lret gi_253_26 gr_253 ?_
        refine ⟨?_, ?_⟩
        · first | rfl | exact congrArg (fun v => some (zl v)) (by omega) | (exfalso; omega)
        · exact hr
    · refine z_pushJ gp_251_19 ?_
      refine z_iret gi_251_21 gr_251 ?_
      show zW _ _ _ _ _ _ _ _ _ _
      refine z_if_geF gi_253_6 zrn_11 (by decide) ?_
      refine z_pushL (z := (-9223372036854775808)) gi_253_9 rfl ?_
      refine z_goto gi_253_12 ?_
      refine z_lret gi_253_26 gr_253 ?_
      refine ⟨?_, ?_⟩
      · first | rfl | exact congrArg (fun v => some (zl v)) (by omega) | (exfalso; omega)
      · exact hr
  · refine z_iload1 gi_70_25 ?_
    refine z_aload0 gi_70_26 ?_
    refine z_getI (v := J 46 3) gi_70_27 gk_46 (rfl) ?_
    refine z_icmp_ge gi_70_30 (by omega) (by omega) (fun h2 => ?_) (fun h2 => ?_)
    · refine z_pushJ gp_70_37 ?_
      refine z_iret gi_70_39 gr_70 ?_
      show zW _ _ _ _ _ _ _ _ _ _
      refine z_if_geF gi_139_17 zrn_13 (by decide) ?_
      refine z_pushL (z := (-9223372036854775808)) gi_139_20 rfl ?_
      refine z_lret gi_139_23 gr_139 ?_
      refine ⟨_, rfl, ?_⟩
      show zW _ _ _ _ [some (.ref 50), some (zi 4), some (zi i)] _ _ _ _ _
      refine z_aload0 gi_253_0 ?_
      refine z_iload1 gi_253_1 ?_
      refine z_iload2 gi_253_2 ?_
      refine z_cV2 gi_253_3 gk_50 go_251 (Nat.le_of_ble_eq_true rfl) gc_251_RII ?_
      refine z_iload1 gi_251_0 ?_
      refine z_cS1 gi_251_1 (Nat.le_of_ble_eq_true rfl) gc_248_I ?_
      refine z_iload0 gi_248_0 ?_
      refine z_pushJ gp_248_1 ?_
      refine z_pushJ gp_248_2 ?_
      refine z_cS3 gi_248_3 (Nat.le_of_ble_eq_true rfl) gc_148_III ?_
      refine z_iload0 gi_148_0 ?_
      refine z_iload1 gi_148_1 ?_
      refine z_icmp_ltF gi_148_2 zr_4 zr_0 (by decide) ?_
      refine z_iload0 gi_148_5 ?_
      refine z_iload2 gi_148_6 ?_
      refine z_icmp_gtF gi_148_7 zr_4 zr_5 (by decide) ?_
      refine z_pushJ gp_148_10 ?_
      refine z_goto gi_148_11 ?_
      refine z_bret1 gi_148_15 gr_148 ?_
      show zW _ _ _ _ _ _ _ _ _ _
      refine z_bret1 gi_248_6 gr_248 ?_
      show zW _ _ _ _ _ _ _ _ _ _
      refine z_if_neT gi_251_4 zr_1 (by decide) ?_
      refine z_aload0 gi_251_9 ?_
      refine z_getR (r := 83) gi_251_10 gk_50 (hRr _ rm_50_58 (by decide)) ?_
      refine z_iload1 gi_251_13 ?_
      refine z_iald (v := (-2) - (J 46 2)) gi_251_14 gk_83 (by decide) (by decide) (e83) ?_
      refine z_pushJ gp_251_15 ?_
      refine z_icmp_ne gi_251_16 (by omega) zrn_1 (fun h3 => ?_) (fun h3 => ?_)
      · refine z_aload0 gi_251_22 ?_
        refine z_getR (r := 83) gi_251_23 gk_50 (hRr _ rm_50_58 (by decide)) ?_
        refine z_iload1 gi_251_26 ?_
        refine z_iald (v := (-2) - (J 46 2)) gi_251_27 gk_83 (by decide) (by decide) (e83) ?_
        refine z_if_lt gi_251_28 (by omega) (fun h4 => ?_) (fun h4 => ?_)
        · refine z_iload2 gi_251_34 ?_
          refine z_pushJ gp_251_35 ?_
          refine z_aload0 gi_251_36 ?_
          refine z_getR (r := 84) gi_251_37 gk_50 (hRr _ rm_50_59 (by decide)) ?_
          refine z_iload1 gi_251_40 ?_
          refine z_iald (v := J 46 3) gi_251_41 gk_84 (by decide) (by decide) (s7) ?_
          refine z_pushJ gp_251_42 ?_
          refine z_isub (e := (J 46 3) - 1) gi_251_43 rfl ?_
          refine z_cS3 gi_251_44 (Nat.le_of_ble_eq_true rfl) gc_148_III ?_
          refine z_iload0 gi_148_0 ?_
          refine z_iload1 gi_148_1 ?_
          refine z_icmp_ltF gi_148_2 (by omega) zr_0 (by omega) ?_
          refine z_iload0 gi_148_5 ?_
          refine z_iload2 gi_148_6 ?_
          refine z_icmp_gtT gi_148_7 (by omega) (by omega) (by omega) ?_
          refine z_pushJ gp_148_14 ?_
          refine z_bret0 gi_148_15 gr_148 ?_
          show zW _ _ _ _ _ _ _ _ _ _
          refine z_if_eqT gi_251_47 zr_0 (by decide) ?_
          refine z_pushJ gp_251_54 ?_
          refine z_iret gi_251_56 gr_251 ?_
          show zW _ _ _ _ _ _ _ _ _ _
          refine z_if_geF gi_253_6 zrn_13 (by decide) ?_
          refine z_pushL (z := (-9223372036854775808)) gi_253_9 rfl ?_
          refine z_goto gi_253_12 ?_
          refine z_lret gi_253_26 gr_253 ?_
          refine ⟨?_, ?_⟩
          · first | rfl | exact congrArg (fun v => some (zl v)) (by omega) | (exfalso; omega)
          · exact hr
        · refine z_pushJ gp_251_31 ?_
          refine z_iret gi_251_33 gr_251 ?_
          show zW _ _ _ _ _ _ _ _ _ _
          refine z_if_geF gi_253_6 zrn_12 (by decide) ?_
          refine z_pushL (z := (-9223372036854775808)) gi_253_9 rfl ?_
          refine z_goto gi_253_12 ?_
          refine z_lret gi_253_26 gr_253 ?_
          refine ⟨?_, ?_⟩
          · first | rfl | exact congrArg (fun v => some (zl v)) (by omega) | (exfalso; omega)
          · exact hr
      · refine z_pushJ gp_251_19 ?_
        refine z_iret gi_251_21 gr_251 ?_
        show zW _ _ _ _ _ _ _ _ _ _
        refine z_if_geF gi_253_6 zrn_11 (by decide) ?_
        refine z_pushL (z := (-9223372036854775808)) gi_253_9 rfl ?_
        refine z_goto gi_253_12 ?_
        refine z_lret gi_253_26 gr_253 ?_
        refine ⟨?_, ?_⟩
        · first | rfl | exact congrArg (fun v => some (zl v)) (by omega) | (exfalso; omega)
        · exact hr
    · refine z_pushJ gp_70_33 ?_
      refine z_goto gi_70_34 ?_
      refine z_iret gi_70_39 gr_70 ?_
      show zW _ _ _ _ _ _ _ _ _ _
      refine z_if_geT gi_139_17 zr_0 (by decide) ?_
      refine z_aload0 gi_139_24 ?_
      refine z_getR (r := 37) gi_139_25 gk_0 (hR _ rm_0_11) ?_
      refine z_iload1 gi_139_28 ?_
      refine z_aald (r := 46) gi_139_29 rfl (by decide) (by decide) (hR _ rm_37_4) ?_
      refine z_iload2 gi_139_30 ?_
      refine z_cV1 gi_139_31 gk_46 go_72 (Nat.le_of_ble_eq_true rfl) gc_72_RI ?_
      refine z_iload1 gi_72_0 ?_
      refine z_if_ltF gi_72_1 (by omega) (by omega) ?_
      refine z_iload1 gi_72_4 ?_
      refine z_aload0 gi_72_5 ?_
      refine z_getI (v := J 46 3) gi_72_6 gk_46 (rfl) ?_
      refine z_icmp_geF gi_72_9 (by omega) (by omega) (by omega) ?_
      refine z_aload0 gi_72_12 ?_
      refine z_getR (r := 47) gi_72_13 gk_46 (hR _ rm_46_4) ?_
      refine z_iload1 gi_72_16 ?_
      refine z_lald (v := M 47 i) gi_72_17 gk_47 (by decide) (by omega) (rfl) ?_
      refine z_goto gi_72_18 ?_
      refine z_lret gi_72_22 gr_72 ?_
      show zW _ _ _ _ _ _ _ _ _ _
      refine z_lret gi_139_34 gr_139 ?_
      refine ⟨_, rfl, ?_⟩
      show zW _ _ _ _ [some (.ref 50), some (zi 4), some (zi i)] _ _ _ _ _
      refine z_aload0 gi_253_0 ?_
      refine z_iload1 gi_253_1 ?_
      refine z_iload2 gi_253_2 ?_
      refine z_cV2 gi_253_3 gk_50 go_251 (Nat.le_of_ble_eq_true rfl) gc_251_RII ?_
      refine z_iload1 gi_251_0 ?_
      refine z_cS1 gi_251_1 (Nat.le_of_ble_eq_true rfl) gc_248_I ?_
      refine z_iload0 gi_248_0 ?_
      refine z_pushJ gp_248_1 ?_
      refine z_pushJ gp_248_2 ?_
      refine z_cS3 gi_248_3 (Nat.le_of_ble_eq_true rfl) gc_148_III ?_
      refine z_iload0 gi_148_0 ?_
      refine z_iload1 gi_148_1 ?_
      refine z_icmp_ltF gi_148_2 zr_4 zr_0 (by decide) ?_
      refine z_iload0 gi_148_5 ?_
      refine z_iload2 gi_148_6 ?_
      refine z_icmp_gtF gi_148_7 zr_4 zr_5 (by decide) ?_
      refine z_pushJ gp_148_10 ?_
      refine z_goto gi_148_11 ?_
      refine z_bret1 gi_148_15 gr_148 ?_
      show zW _ _ _ _ _ _ _ _ _ _
      refine z_bret1 gi_248_6 gr_248 ?_
      show zW _ _ _ _ _ _ _ _ _ _
      refine z_if_neT gi_251_4 zr_1 (by decide) ?_
      refine z_aload0 gi_251_9 ?_
      refine z_getR (r := 83) gi_251_10 gk_50 (hRr _ rm_50_58 (by decide)) ?_
      refine z_iload1 gi_251_13 ?_
      refine z_iald (v := (-2) - (J 46 2)) gi_251_14 gk_83 (by decide) (by decide) (e83) ?_
      refine z_pushJ gp_251_15 ?_
      refine z_icmp_ne gi_251_16 (by omega) zrn_1 (fun h3 => ?_) (fun h3 => ?_)
      · refine z_aload0 gi_251_22 ?_
        refine z_getR (r := 83) gi_251_23 gk_50 (hRr _ rm_50_58 (by decide)) ?_
        refine z_iload1 gi_251_26 ?_
        refine z_iald (v := (-2) - (J 46 2)) gi_251_27 gk_83 (by decide) (by decide) (e83) ?_
        refine z_if_lt gi_251_28 (by omega) (fun h4 => ?_) (fun h4 => ?_)
        · refine z_iload2 gi_251_34 ?_
          refine z_pushJ gp_251_35 ?_
          refine z_aload0 gi_251_36 ?_
          refine z_getR (r := 84) gi_251_37 gk_50 (hRr _ rm_50_59 (by decide)) ?_
          refine z_iload1 gi_251_40 ?_
          refine z_iald (v := J 46 3) gi_251_41 gk_84 (by decide) (by decide) (s7) ?_
          refine z_pushJ gp_251_42 ?_
          refine z_isub (e := (J 46 3) - 1) gi_251_43 rfl ?_
          refine z_cS3 gi_251_44 (Nat.le_of_ble_eq_true rfl) gc_148_III ?_
          refine z_iload0 gi_148_0 ?_
          refine z_iload1 gi_148_1 ?_
          refine z_icmp_ltF gi_148_2 (by omega) zr_0 (by omega) ?_
          refine z_iload0 gi_148_5 ?_
          refine z_iload2 gi_148_6 ?_
          refine z_icmp_gtF gi_148_7 (by omega) (by omega) (by omega) ?_
          refine z_pushJ gp_148_10 ?_
          refine z_goto gi_148_11 ?_
          refine z_bret1 gi_148_15 gr_148 ?_
          show zW _ _ _ _ _ _ _ _ _ _
          refine z_if_eqF gi_251_47 zr_1 (by decide) ?_
          refine z_pushJ gp_251_50 ?_
          refine z_goto gi_251_51 ?_
          refine z_iret gi_251_56 gr_251 ?_
          show zW _ _ _ _ _ _ _ _ _ _
          refine z_if_geT gi_253_6 zr_0 (by decide) ?_
          refine z_aload0 gi_253_15 ?_
          refine z_getR (r := 85) gi_253_16 gk_50 (hRr _ rm_50_60 (by decide)) ?_
          refine z_pushJ gp_253_19 ?_
          refine z_iload1 gi_253_21 ?_
          refine z_imul (e := 240) gi_253_22 rfl ?_
          refine z_iload2 gi_253_23 ?_
          refine z_iadd (e := 240 + i) gi_253_24 rfl ?_
          refine z_lald (v := M 85 (240 + i)) gi_253_25 gk_85 (by decide) (by omega) (rfl) ?_
          refine z_lret gi_253_26 gr_253 ?_
          refine ⟨?_, ?_⟩
          · first | exact congrArg (fun v => some (zl v)) (s8 i (by omega) (by omega)).symm | (exfalso; omega)
          · exact hr
        · refine z_pushJ gp_251_31 ?_
          refine z_iret gi_251_33 gr_251 ?_
          show zW _ _ _ _ _ _ _ _ _ _
          refine z_if_geF gi_253_6 zrn_12 (by decide) ?_
          refine z_pushL (z := (-9223372036854775808)) gi_253_9 rfl ?_
          refine z_goto gi_253_12 ?_
          refine z_lret gi_253_26 gr_253 ?_
          refine ⟨?_, ?_⟩
          · first | exact congrArg (fun v => some (zl v)) (s8 i (by omega) (by omega)).symm | (exfalso; omega)
          · exact hr
      · refine z_pushJ gp_251_19 ?_
        refine z_iret gi_251_21 gr_251 ?_
        show zW _ _ _ _ _ _ _ _ _ _
        refine z_if_geF gi_253_6 zrn_11 (by decide) ?_
        refine z_pushL (z := (-9223372036854775808)) gi_253_9 rfl ?_
        refine z_goto gi_253_12 ?_
        refine z_lret gi_253_26 gr_253 ?_
        refine ⟨?_, ?_⟩
        · first | exact congrArg (fun v => some (zl v)) (s8 i (by omega) (by omega)).symm | (exfalso; omega)
        · exact hr
theorem st_put_420 {X : Nat × (Nat → Int32)} {d : Nat} {J M : zA} {R : zR} {i v : Int} (hr : Rel X J M R) (hi : -2147483648 ≤ i ∧ i < 2147483648) (hv : -9223372036854775808 ≤ v ∧ v < 9223372036854775808) (hh : J 46 0 = 2) (hso : J 46 2 = 0) : zW X (d + 20) 138 0 (gEn 138 [(.ref 0), (zi 4), (zi i), (zl v)]) [] J M R (stP X (d + 20) 252 [(zi 4), (zi i), (zl v)]) := by
  have hr0 := hr
  obtain ⟨hR, hG, hY, hD, hP, hC, hAc, hS, hTp, hX, hW⟩ := hr0
  have hRr : zRoR R := zRoR_of hR
  have e83 : J 83 4 = -2 - J 46 2 := (hS 4 (by decide) (by decide)).1.symm.trans (cH_2 hh)
  have s3 : 0 ≤ J 46 2 ∧ J 46 2 ≤ 4 := (hS 4 (by decide) (by decide)).2.2.1
  have s4 : 0 ≤ J 46 3 ∧ J 46 3 ≤ 60 := (hS 4 (by decide) (by decide)).2.2.2.1
  have s6 := (hS 4 (by decide) (by decide)).2.2.2.2.2 hh
  have s7 : J 84 4 = J 46 3 := s6.1.symm
  have s8 : ∀ i, 0 ≤ i → i < J 46 3 → M 47 i = M 85 (240 + i) := s6.2.1
  show zW _ _ _ _ [some (.ref 0), some (zi 4), some (zi i), some (zl v), none, none] _ _ _ _ _
  refine z_iload1 gi_138_0 ?_
  refine z_cS1 gi_138_1 (Nat.le_of_ble_eq_true rfl) gc_143_I ?_
  refine z_iload0 gi_143_0 ?_
  refine z_if_ltF gi_143_1 zr_4 (by decide) ?_
  refine z_iload0 gi_143_4 ?_
  refine z_pushJ gp_143_5 ?_
  refine z_icmp_geF gi_143_7 zr_4 zr_6 (by decide) ?_
  refine z_pushJ gp_143_10 ?_
  refine z_goto gi_143_11 ?_
  refine z_bret1 gi_143_15 gr_143 ?_
  show zW _ _ _ _ _ _ _ _ _ _
  refine z_if_neT gi_138_4 zr_1 (by decide) ?_
  refine z_aload0 gi_138_9 ?_
  refine z_getR (r := 37) gi_138_10 gk_0 (hR _ rm_0_11) ?_
  refine z_iload1 gi_138_13 ?_
  refine z_aald (r := 46) gi_138_14 rfl (by decide) (by decide) (hR _ rm_37_4) ?_
  refine z_iload2 gi_138_15 ?_
  refine z_cV1 gi_138_16 gk_46 go_70 (Nat.le_of_ble_eq_true rfl) gc_70_RI ?_
  refine z_aload0 gi_70_0 ?_
  refine z_getI (v := 2) gi_70_1 gk_46 (hh) ?_
  refine z_if_neT gi_70_4 zr_2 (by decide) ?_
  refine z_aload0 gi_70_10 ?_
  refine z_getI (v := 2) gi_70_11 gk_46 (hh) ?_
  refine z_pushJ gp_70_14 ?_
  refine z_icmp_eqT gi_70_15 zr_2 zr_2 (by decide) ?_
  refine z_iload1 gi_70_21 ?_
  refine z_if_lt gi_70_22 (by omega) (fun h1 => ?_) (fun h1 => ?_)
  · refine z_pushJ gp_70_37 ?_
    refine z_iret gi_70_39 gr_70 ?_
    show zW _ _ _ _ _ _ _ _ _ _
    refine z_istore (ls1 := [some (.ref 0), some (zi 4), some (zi i), some (zl v), none, some (zi (-13))]) gi_138_19 rfl ?_
    refine z_iload5 gi_138_21 ?_
    refine z_if_geF gi_138_23 zrn_13 (by decide) ?_
    refine z_iload5 gi_138_26 ?_
    refine z_iret gi_138_28 gr_138 ?_
    refine ⟨_, rfl, ?_⟩
    show zW _ _ _ _ [some (.ref 50), some (zi 4), some (zi i), some (zl v), none, none, none] _ _ _ _ _
    refine z_aload0 gi_252_0 ?_
    refine z_iload1 gi_252_1 ?_
    refine z_iload2 gi_252_2 ?_
    refine z_cV2 gi_252_3 gk_50 go_251 (Nat.le_of_ble_eq_true rfl) gc_251_RII ?_
    refine z_iload1 gi_251_0 ?_
    refine z_cS1 gi_251_1 (Nat.le_of_ble_eq_true rfl) gc_248_I ?_
    refine z_iload0 gi_248_0 ?_
    refine z_pushJ gp_248_1 ?_
    refine z_pushJ gp_248_2 ?_
    refine z_cS3 gi_248_3 (Nat.le_of_ble_eq_true rfl) gc_148_III ?_
    refine z_iload0 gi_148_0 ?_
    refine z_iload1 gi_148_1 ?_
    refine z_icmp_ltF gi_148_2 zr_4 zr_0 (by decide) ?_
    refine z_iload0 gi_148_5 ?_
    refine z_iload2 gi_148_6 ?_
    refine z_icmp_gtF gi_148_7 zr_4 zr_5 (by decide) ?_
    refine z_pushJ gp_148_10 ?_
    refine z_goto gi_148_11 ?_
    refine z_bret1 gi_148_15 gr_148 ?_
    show zW _ _ _ _ _ _ _ _ _ _
    refine z_bret1 gi_248_6 gr_248 ?_
    show zW _ _ _ _ _ _ _ _ _ _
    refine z_if_neT gi_251_4 zr_1 (by decide) ?_
    refine z_aload0 gi_251_9 ?_
    refine z_getR (r := 83) gi_251_10 gk_50 (hRr _ rm_50_58 (by decide)) ?_
    refine z_iload1 gi_251_13 ?_
    refine z_iald (v := (-2)) gi_251_14 gk_83 (by decide) (by decide) ((e83.trans (by rw [hso]; rfl))) ?_
    refine z_pushJ gp_251_15 ?_
    refine z_icmp_neT gi_251_16 zrn_2 zrn_1 (by decide) ?_
    refine z_aload0 gi_251_22 ?_
    refine z_getR (r := 83) gi_251_23 gk_50 (hRr _ rm_50_58 (by decide)) ?_
    refine z_iload1 gi_251_26 ?_
    refine z_iald (v := (-2)) gi_251_27 gk_83 (by decide) (by decide) ((e83.trans (by rw [hso]; rfl))) ?_
    refine z_if_ltT gi_251_28 zrn_2 (by decide) ?_
    refine z_iload2 gi_251_34 ?_
    refine z_pushJ gp_251_35 ?_
    refine z_aload0 gi_251_36 ?_
    refine z_getR (r := 84) gi_251_37 gk_50 (hRr _ rm_50_59 (by decide)) ?_
    refine z_iload1 gi_251_40 ?_
    refine z_iald (v := J 46 3) gi_251_41 gk_84 (by decide) (by decide) (s7) ?_
    refine z_pushJ gp_251_42 ?_
    refine z_isub (e := (J 46 3) - 1) gi_251_43 rfl ?_
    refine z_cS3 gi_251_44 (Nat.le_of_ble_eq_true rfl) gc_148_III ?_
    refine z_iload0 gi_148_0 ?_
    refine z_iload1 gi_148_1 ?_
    refine z_icmp_ltT gi_148_2 (by omega) zr_0 (by omega) ?_
    refine z_pushJ gp_148_14 ?_
    refine z_bret0 gi_148_15 gr_148 ?_
    show zW _ _ _ _ _ _ _ _ _ _
    refine z_if_eqT gi_251_47 zr_0 (by decide) ?_
    refine z_pushJ gp_251_54 ?_
    refine z_iret gi_251_56 gr_251 ?_
    show zW _ _ _ _ _ _ _ _ _ _
    refine z_istore (ls1 := [some (.ref 50), some (zi 4), some (zi i), some (zl v), none, some (zi (-13)), none]) gi_252_6 rfl ?_
    refine z_iload5 gi_252_8 ?_
    refine z_if_geF gi_252_10 zrn_13 (by decide) ?_
    refine z_iload5 gi_252_13 ?_
    refine z_iret gi_252_15 gr_252 ?_
    refine ⟨?_, ?_⟩
    · first | rfl | exact congrArg (fun v => some (zi v)) (by omega) | (exfalso; omega)
    · exact hr
  · refine z_iload1 gi_70_25 ?_
    refine z_aload0 gi_70_26 ?_
    refine z_getI (v := J 46 3) gi_70_27 gk_46 (rfl) ?_
    refine z_icmp_ge gi_70_30 (by omega) (by omega) (fun h2 => ?_) (fun h2 => ?_)
    · refine z_pushJ gp_70_37 ?_
      refine z_iret gi_70_39 gr_70 ?_
      show zW _ _ _ _ _ _ _ _ _ _
      refine z_istore (ls1 := [some (.ref 0), some (zi 4), some (zi i), some (zl v), none, some (zi (-13))]) gi_138_19 rfl ?_
      refine z_iload5 gi_138_21 ?_
      refine z_if_geF gi_138_23 zrn_13 (by decide) ?_
      refine z_iload5 gi_138_26 ?_
      refine z_iret gi_138_28 gr_138 ?_
      refine ⟨_, rfl, ?_⟩
      show zW _ _ _ _ [some (.ref 50), some (zi 4), some (zi i), some (zl v), none, none, none] _ _ _ _ _
      refine z_aload0 gi_252_0 ?_
      refine z_iload1 gi_252_1 ?_
      refine z_iload2 gi_252_2 ?_
      refine z_cV2 gi_252_3 gk_50 go_251 (Nat.le_of_ble_eq_true rfl) gc_251_RII ?_
      refine z_iload1 gi_251_0 ?_
      refine z_cS1 gi_251_1 (Nat.le_of_ble_eq_true rfl) gc_248_I ?_
      refine z_iload0 gi_248_0 ?_
      refine z_pushJ gp_248_1 ?_
      refine z_pushJ gp_248_2 ?_
      refine z_cS3 gi_248_3 (Nat.le_of_ble_eq_true rfl) gc_148_III ?_
      refine z_iload0 gi_148_0 ?_
      refine z_iload1 gi_148_1 ?_
      refine z_icmp_ltF gi_148_2 zr_4 zr_0 (by decide) ?_
      refine z_iload0 gi_148_5 ?_
      refine z_iload2 gi_148_6 ?_
      refine z_icmp_gtF gi_148_7 zr_4 zr_5 (by decide) ?_
      refine z_pushJ gp_148_10 ?_
      refine z_goto gi_148_11 ?_
      refine z_bret1 gi_148_15 gr_148 ?_
      show zW _ _ _ _ _ _ _ _ _ _
      refine z_bret1 gi_248_6 gr_248 ?_
      show zW _ _ _ _ _ _ _ _ _ _
      refine z_if_neT gi_251_4 zr_1 (by decide) ?_
      refine z_aload0 gi_251_9 ?_
      refine z_getR (r := 83) gi_251_10 gk_50 (hRr _ rm_50_58 (by decide)) ?_
      refine z_iload1 gi_251_13 ?_
      refine z_iald (v := (-2)) gi_251_14 gk_83 (by decide) (by decide) ((e83.trans (by rw [hso]; rfl))) ?_
      refine z_pushJ gp_251_15 ?_
      refine z_icmp_neT gi_251_16 zrn_2 zrn_1 (by decide) ?_
      refine z_aload0 gi_251_22 ?_
      refine z_getR (r := 83) gi_251_23 gk_50 (hRr _ rm_50_58 (by decide)) ?_
      refine z_iload1 gi_251_26 ?_
      refine z_iald (v := (-2)) gi_251_27 gk_83 (by decide) (by decide) ((e83.trans (by rw [hso]; rfl))) ?_
      refine z_if_ltT gi_251_28 zrn_2 (by decide) ?_
      refine z_iload2 gi_251_34 ?_
      refine z_pushJ gp_251_35 ?_
      refine z_aload0 gi_251_36 ?_
      refine z_getR (r := 84) gi_251_37 gk_50 (hRr _ rm_50_59 (by decide)) ?_
      refine z_iload1 gi_251_40 ?_
      refine z_iald (v := J 46 3) gi_251_41 gk_84 (by decide) (by decide) (s7) ?_
      refine z_pushJ gp_251_42 ?_
      refine z_isub (e := (J 46 3) - 1) gi_251_43 rfl ?_
      refine z_cS3 gi_251_44 (Nat.le_of_ble_eq_true rfl) gc_148_III ?_
      refine z_iload0 gi_148_0 ?_
      refine z_iload1 gi_148_1 ?_
      refine z_icmp_ltF gi_148_2 (by omega) zr_0 (by omega) ?_
      refine z_iload0 gi_148_5 ?_
      refine z_iload2 gi_148_6 ?_
      refine z_icmp_gtT gi_148_7 (by omega) (by omega) (by omega) ?_
      refine z_pushJ gp_148_14 ?_
      refine z_bret0 gi_148_15 gr_148 ?_
      show zW _ _ _ _ _ _ _ _ _ _
      refine z_if_eqT gi_251_47 zr_0 (by decide) ?_
      refine z_pushJ gp_251_54 ?_
      refine z_iret gi_251_56 gr_251 ?_
      show zW _ _ _ _ _ _ _ _ _ _
      refine z_istore (ls1 := [some (.ref 50), some (zi 4), some (zi i), some (zl v), none, some (zi (-13)), none]) gi_252_6 rfl ?_
      refine z_iload5 gi_252_8 ?_
      refine z_if_geF gi_252_10 zrn_13 (by decide) ?_
      refine z_iload5 gi_252_13 ?_
      refine z_iret gi_252_15 gr_252 ?_
      refine ⟨?_, ?_⟩
      · first | rfl | exact congrArg (fun v => some (zi v)) (by omega) | (exfalso; omega)
      · exact hr
    · refine z_pushJ gp_70_33 ?_
      refine z_goto gi_70_34 ?_
      refine z_iret gi_70_39 gr_70 ?_
      show zW _ _ _ _ _ _ _ _ _ _
      refine z_istore (ls1 := [some (.ref 0), some (zi 4), some (zi i), some (zl v), none, some (zi 0)]) gi_138_19 rfl ?_
      refine z_iload5 gi_138_21 ?_
      refine z_if_geT gi_138_23 zr_0 (by decide) ?_
      refine z_aload0 gi_138_29 ?_
      refine z_getR (r := 37) gi_138_30 gk_0 (hR _ rm_0_11) ?_
      refine z_iload1 gi_138_33 ?_
      refine z_aald (r := 46) gi_138_34 rfl (by decide) (by decide) (hR _ rm_37_4) ?_
      refine z_iload2 gi_138_35 ?_
      refine z_lload3 gi_138_36 ?_
      refine z_callVi (As := [_, _]) (le := [some _, some _, some _, none]) gi_138_37 rfl gk_46 (Nat.le_of_ble_eq_true rfl) (Nat.le_of_ble_eq_true rfl) rfl ?_
      refine z_iload1 gi_73_0 ?_
      refine z_if_ltF gi_73_1 (by omega) (by omega) ?_
      refine z_iload1 gi_73_4 ?_
      refine z_aload0 gi_73_5 ?_
      refine z_getI (v := J 46 3) gi_73_6 gk_46 (rfl) ?_
      refine z_icmp_geF gi_73_9 (by omega) (by omega) (by omega) ?_
      refine z_aload0 gi_73_12 ?_
      refine z_getR (r := 47) gi_73_13 gk_46 (hR _ rm_46_4) ?_
      refine z_iload1 gi_73_16 ?_
      refine z_aload0 gi_73_17 ?_
      refine z_lload2 gi_73_18 ?_
      refine z_callVi (As := [_]) (le := [some _, some _, none]) gi_73_19 rfl gk_46 (Nat.le_of_ble_eq_true rfl) (Nat.le_of_ble_eq_true rfl) rfl ?_
      refine z_aload0 gi_74_0 ?_
      refine z_getI (v := 0) gi_74_1 gk_46 (hso) ?_
      refine z_swI (tg := 40) gi_74_4 (by decide) (T := [((0 : Int), 40), ((1 : Int), 45), ((2 : Int), 50), ((3 : Int), 66), ((4 : Int), 54)]) rfl (by decide) ?_
      refine z_lload1 gi_74_40 ?_
      refine z_l2i gi_74_41 ?_
      refine z_i2b (e := zb v) gi_74_42 rfl ?_
      have q3 := zb_r v
      refine z_i2l gi_74_43 (by omega) ?_
      refine z_lret gi_74_44 gr_74 ?_
      show zW _ _ _ _ _ _ _ _ _ _
      refine z_last (e := zb v) gi_73_22 gk_47 (by decide) (by omega) rfl ?_
      refine z_vret gi_73_23 gr_73 ?_
      show zW _ _ _ _ _ _ _ _ _ _
      refine z_pushJ gp_138_40 ?_
      refine z_iret gi_138_41 gr_138 ?_
      refine ⟨_, rfl, ?_⟩
      show zW _ _ _ _ [some (.ref 50), some (zi 4), some (zi i), some (zl v), none, none, none] _ _ _ _ _
      refine z_aload0 gi_252_0 ?_
      refine z_iload1 gi_252_1 ?_
      refine z_iload2 gi_252_2 ?_
      refine z_cV2 gi_252_3 gk_50 go_251 (Nat.le_of_ble_eq_true rfl) gc_251_RII ?_
      refine z_iload1 gi_251_0 ?_
      refine z_cS1 gi_251_1 (Nat.le_of_ble_eq_true rfl) gc_248_I ?_
      refine z_iload0 gi_248_0 ?_
      refine z_pushJ gp_248_1 ?_
      refine z_pushJ gp_248_2 ?_
      refine z_cS3 gi_248_3 (Nat.le_of_ble_eq_true rfl) gc_148_III ?_
      refine z_iload0 gi_148_0 ?_
      refine z_iload1 gi_148_1 ?_
      refine z_icmp_ltF gi_148_2 zr_4 zr_0 (by decide) ?_
      refine z_iload0 gi_148_5 ?_
      refine z_iload2 gi_148_6 ?_
      refine z_icmp_gtF gi_148_7 zr_4 zr_5 (by decide) ?_
      refine z_pushJ gp_148_10 ?_
      refine z_goto gi_148_11 ?_
      refine z_bret1 gi_148_15 gr_148 ?_
      show zW _ _ _ _ _ _ _ _ _ _
      refine z_bret1 gi_248_6 gr_248 ?_
      show zW _ _ _ _ _ _ _ _ _ _
      refine z_if_neT gi_251_4 zr_1 (by decide) ?_
      refine z_aload0 gi_251_9 ?_
      refine z_getR (r := 83) gi_251_10 gk_50 (hRr _ rm_50_58 (by decide)) ?_
      refine z_iload1 gi_251_13 ?_
      refine z_iald (v := (-2)) gi_251_14 gk_83 (by decide) (by decide) ((e83.trans (by rw [hso]; rfl))) ?_
      refine z_pushJ gp_251_15 ?_
      refine z_icmp_neT gi_251_16 zrn_2 zrn_1 (by decide) ?_
      refine z_aload0 gi_251_22 ?_
      refine z_getR (r := 83) gi_251_23 gk_50 (hRr _ rm_50_58 (by decide)) ?_
      refine z_iload1 gi_251_26 ?_
      refine z_iald (v := (-2)) gi_251_27 gk_83 (by decide) (by decide) ((e83.trans (by rw [hso]; rfl))) ?_
      refine z_if_ltT gi_251_28 zrn_2 (by decide) ?_
      refine z_iload2 gi_251_34 ?_
      refine z_pushJ gp_251_35 ?_
      refine z_aload0 gi_251_36 ?_
      refine z_getR (r := 84) gi_251_37 gk_50 (hRr _ rm_50_59 (by decide)) ?_
      refine z_iload1 gi_251_40 ?_
      refine z_iald (v := J 46 3) gi_251_41 gk_84 (by decide) (by decide) (s7) ?_
      refine z_pushJ gp_251_42 ?_
      refine z_isub (e := (J 46 3) - 1) gi_251_43 rfl ?_
      refine z_cS3 gi_251_44 (Nat.le_of_ble_eq_true rfl) gc_148_III ?_
      refine z_iload0 gi_148_0 ?_
      refine z_iload1 gi_148_1 ?_
      refine z_icmp_ltF gi_148_2 (by omega) zr_0 (by omega) ?_
      refine z_iload0 gi_148_5 ?_
      refine z_iload2 gi_148_6 ?_
      refine z_icmp_gtF gi_148_7 (by omega) (by omega) (by omega) ?_
      refine z_pushJ gp_148_10 ?_
      refine z_goto gi_148_11 ?_
      refine z_bret1 gi_148_15 gr_148 ?_
      show zW _ _ _ _ _ _ _ _ _ _
      refine z_if_eqF gi_251_47 zr_1 (by decide) ?_
      refine z_pushJ gp_251_50 ?_
      refine z_goto gi_251_51 ?_
      refine z_iret gi_251_56 gr_251 ?_
      show zW _ _ _ _ _ _ _ _ _ _
      refine z_istore (ls1 := [some (.ref 50), some (zi 4), some (zi i), some (zl v), none, some (zi 0), none]) gi_252_6 rfl ?_
      refine z_iload5 gi_252_8 ?_
      refine z_if_geT gi_252_10 zr_0 (by decide) ?_
      refine z_pushJ gp_252_16 ?_
      refine z_aload0 gi_252_18 ?_
      refine z_getR (r := 83) gi_252_19 gk_50 (hRr _ rm_50_58 (by decide)) ?_
      refine z_iload1 gi_252_22 ?_
      refine z_iald (v := (-2)) gi_252_23 gk_83 (by decide) (by decide) ((e83.trans (by rw [hso]; rfl))) ?_
      refine z_isub (e := 0) gi_252_24 rfl ?_
      refine z_istore (ls1 := [some (.ref 50), some (zi 4), some (zi i), some (zl v), none, some (zi 0), some (zi 0)]) gi_252_25 rfl ?_
      refine z_aload0 gi_252_27 ?_
      refine z_getR (r := 85) gi_252_28 gk_50 (hRr _ rm_50_60 (by decide)) ?_
      refine z_pushJ gp_252_31 ?_
      refine z_iload1 gi_252_33 ?_
      refine z_imul (e := 240) gi_252_34 rfl ?_
      refine z_iload2 gi_252_35 ?_
      refine z_iadd (e := 240 + i) gi_252_36 rfl ?_
      refine z_iload6 gi_252_37 ?_
      refine z_if_neF gi_252_39 zr_0 (by decide) ?_
      refine z_lload3 gi_252_42 ?_
      refine z_l2i gi_252_43 ?_
      refine z_i2b (e := zb v) gi_252_44 rfl ?_
      have q4 := zb_r v
      refine z_i2l gi_252_45 (by omega) ?_
      refine z_goto gi_252_46 ?_
      refine z_last (e := zb v) gi_252_95 gk_85 (by decide) (by omega) rfl ?_
      refine z_pushJ gp_252_96 ?_
      refine z_iret gi_252_97 gr_252 ?_
      refine ⟨?_, ?_⟩
      · first | rfl | exact congrArg (fun v => some (zi v)) (by omega) | (exfalso; omega)
      · have hk := (zK_r (k := (kL [] [])) (A := J))
        have hkm := (zK_x (a := 85) (x := 240 + i) (v := zb v) (zK_x (a := 47) (x := i) (v := zb v) (zK_r (k := (kL [47, 85] [])) (A := M)) rfl) rfl)
        exact ⟨hR, hG, RelY_k hk (by repeat' constructor) (fun p => by repeat' constructor) hY, RelD_k hk (by repeat' constructor) (fun p => by repeat' constructor) hD, RelP_k hk (by repeat' constructor) (fun p => by repeat' constructor) hP, RelC_k hk (by repeat' constructor) (fun p => by repeat' constructor) hC, RelA_k hk (by repeat' constructor) (fun p => by repeat' constructor) hAc, (RelS_one (J := J) (M := M) (c := 4) (fun t t1 t2 te => by have q : t = 0 ∨ t = 1 ∨ t = 2 ∨ t = 3 ∨ t = 4 ∨ t = 5 := (by omega); rcases q with rfl | rfl | rfl | rfl | rfl | rfl <;> first | exact absurd rfl te | exact ⟨fun j => rfl, rfl, rfl⟩) (fun t t1 t2 te => by have q : t = 0 ∨ t = 1 ∨ t = 2 ∨ t = 3 ∨ t = 4 ∨ t = 5 := (by omega); rcases q with rfl | rfl | rfl | rfl | rfl | rfl <;> first | exact absurd rfl te | exact ⟨fun j => rfl, fun j j1 j2 => (zU_x (by omega)).trans (zU_n (by decide))⟩) rfl (show RelS1 _ _ _ from ⟨(hS 4 (by decide) (by decide)).1, (hS 4 (by decide) (by decide)).2.1, s3, s4, (hS 4 (by decide) (by decide)).2.2.2.2.1, fun _ => ⟨s7.symm, fun k k1 k2 => by show (if k = i then zb v else M 47 k) = (if 240 + k = 240 + i then zb v else M 85 (240 + k)); by_cases e : k = i; rw [if_pos e, if_pos (by omega)]; rw [if_neg e, if_neg (by omega)]; exact s8 k k1 k2, (fun hq k k1 k2 => by show -128 ≤ (if k = i then zb v else M 47 k) ∧ (if k = i then zb v else M 47 k) ≤ 127; split <;> first | (have := zb_r v; omega) | exact s6.2.2 hq k k1 k2)⟩⟩) hS), RelT_k hk (by repeat' constructor) (fun p => by repeat' constructor) hTp, RelX_k hk (by repeat' constructor) (fun p => by repeat' constructor) hX, RelW_k hk ⟨rfl, rfl⟩ trivial hW⟩
theorem st_put_421 {X : Nat × (Nat → Int32)} {d : Nat} {J M : zA} {R : zR} {i v : Int} (hr : Rel X J M R) (hi : -2147483648 ≤ i ∧ i < 2147483648) (hv : -9223372036854775808 ≤ v ∧ v < 9223372036854775808) (hh : J 46 0 = 2) (hso : J 46 2 = 1) : zW X (d + 20) 138 0 (gEn 138 [(.ref 0), (zi 4), (zi i), (zl v)]) [] J M R (stP X (d + 20) 252 [(zi 4), (zi i), (zl v)]) := by
  have hr0 := hr
  obtain ⟨hR, hG, hY, hD, hP, hC, hAc, hS, hTp, hX, hW⟩ := hr0
  have hRr : zRoR R := zRoR_of hR
  have e83 : J 83 4 = -2 - J 46 2 := (hS 4 (by decide) (by decide)).1.symm.trans (cH_2 hh)
  have s3 : 0 ≤ J 46 2 ∧ J 46 2 ≤ 4 := (hS 4 (by decide) (by decide)).2.2.1
  have s4 : 0 ≤ J 46 3 ∧ J 46 3 ≤ 60 := (hS 4 (by decide) (by decide)).2.2.2.1
  have s6 := (hS 4 (by decide) (by decide)).2.2.2.2.2 hh
  have s7 : J 84 4 = J 46 3 := s6.1.symm
  have s8 : ∀ i, 0 ≤ i → i < J 46 3 → M 47 i = M 85 (240 + i) := s6.2.1
  show zW _ _ _ _ [some (.ref 0), some (zi 4), some (zi i), some (zl v), none, none] _ _ _ _ _
  refine z_iload1 gi_138_0 ?_
  refine z_cS1 gi_138_1 (Nat.le_of_ble_eq_true rfl) gc_143_I ?_
  refine z_iload0 gi_143_0 ?_
  refine z_if_ltF gi_143_1 zr_4 (by decide) ?_
  refine z_iload0 gi_143_4 ?_
  refine z_pushJ gp_143_5 ?_
  refine z_icmp_geF gi_143_7 zr_4 zr_6 (by decide) ?_
  refine z_pushJ gp_143_10 ?_
  refine z_goto gi_143_11 ?_
  refine z_bret1 gi_143_15 gr_143 ?_
  show zW _ _ _ _ _ _ _ _ _ _
  refine z_if_neT gi_138_4 zr_1 (by decide) ?_
  refine z_aload0 gi_138_9 ?_
  refine z_getR (r := 37) gi_138_10 gk_0 (hR _ rm_0_11) ?_
  refine z_iload1 gi_138_13 ?_
  refine z_aald (r := 46) gi_138_14 rfl (by decide) (by decide) (hR _ rm_37_4) ?_
  refine z_iload2 gi_138_15 ?_
  refine z_cV1 gi_138_16 gk_46 go_70 (Nat.le_of_ble_eq_true rfl) gc_70_RI ?_
  refine z_aload0 gi_70_0 ?_
  refine z_getI (v := 2) gi_70_1 gk_46 (hh) ?_
  refine z_if_neT gi_70_4 zr_2 (by decide) ?_
  refine z_aload0 gi_70_10 ?_
  refine z_getI (v := 2) gi_70_11 gk_46 (hh) ?_
  refine z_pushJ gp_70_14 ?_
  refine z_icmp_eqT gi_70_15 zr_2 zr_2 (by decide) ?_
  refine z_iload1 gi_70_21 ?_
  refine z_if_lt gi_70_22 (by omega) (fun h1 => ?_) (fun h1 => ?_)
  · refine z_pushJ gp_70_37 ?_
    refine z_iret gi_70_39 gr_70 ?_
    show zW _ _ _ _ _ _ _ _ _ _
    refine z_istore (ls1 := [some (.ref 0), some (zi 4), some (zi i), some (zl v), none, some (zi (-13))]) gi_138_19 rfl ?_
    refine z_iload5 gi_138_21 ?_
    refine z_if_geF gi_138_23 zrn_13 (by decide) ?_
    refine z_iload5 gi_138_26 ?_
    refine z_iret gi_138_28 gr_138 ?_
    refine ⟨_, rfl, ?_⟩
    show zW _ _ _ _ [some (.ref 50), some (zi 4), some (zi i), some (zl v), none, none, none] _ _ _ _ _
    refine z_aload0 gi_252_0 ?_
    refine z_iload1 gi_252_1 ?_
    refine z_iload2 gi_252_2 ?_
    refine z_cV2 gi_252_3 gk_50 go_251 (Nat.le_of_ble_eq_true rfl) gc_251_RII ?_
    refine z_iload1 gi_251_0 ?_
    refine z_cS1 gi_251_1 (Nat.le_of_ble_eq_true rfl) gc_248_I ?_
    refine z_iload0 gi_248_0 ?_
    refine z_pushJ gp_248_1 ?_
    refine z_pushJ gp_248_2 ?_
    refine z_cS3 gi_248_3 (Nat.le_of_ble_eq_true rfl) gc_148_III ?_
    refine z_iload0 gi_148_0 ?_
    refine z_iload1 gi_148_1 ?_
    refine z_icmp_ltF gi_148_2 zr_4 zr_0 (by decide) ?_
    refine z_iload0 gi_148_5 ?_
    refine z_iload2 gi_148_6 ?_
    refine z_icmp_gtF gi_148_7 zr_4 zr_5 (by decide) ?_
    refine z_pushJ gp_148_10 ?_
    refine z_goto gi_148_11 ?_
    refine z_bret1 gi_148_15 gr_148 ?_
    show zW _ _ _ _ _ _ _ _ _ _
    refine z_bret1 gi_248_6 gr_248 ?_
    show zW _ _ _ _ _ _ _ _ _ _
    refine z_if_neT gi_251_4 zr_1 (by decide) ?_
    refine z_aload0 gi_251_9 ?_
    refine z_getR (r := 83) gi_251_10 gk_50 (hRr _ rm_50_58 (by decide)) ?_
    refine z_iload1 gi_251_13 ?_
    refine z_iald (v := (-3)) gi_251_14 gk_83 (by decide) (by decide) ((e83.trans (by rw [hso]; rfl))) ?_
    refine z_pushJ gp_251_15 ?_
    refine z_icmp_neT gi_251_16 zrn_3 zrn_1 (by decide) ?_
    refine z_aload0 gi_251_22 ?_
    refine z_getR (r := 83) gi_251_23 gk_50 (hRr _ rm_50_58 (by decide)) ?_
    refine z_iload1 gi_251_26 ?_
    refine z_iald (v := (-3)) gi_251_27 gk_83 (by decide) (by decide) ((e83.trans (by rw [hso]; rfl))) ?_
    refine z_if_ltT gi_251_28 zrn_3 (by decide) ?_
    refine z_iload2 gi_251_34 ?_
    refine z_pushJ gp_251_35 ?_
    refine z_aload0 gi_251_36 ?_
    refine z_getR (r := 84) gi_251_37 gk_50 (hRr _ rm_50_59 (by decide)) ?_
    refine z_iload1 gi_251_40 ?_
    refine z_iald (v := J 46 3) gi_251_41 gk_84 (by decide) (by decide) (s7) ?_
    refine z_pushJ gp_251_42 ?_
    refine z_isub (e := (J 46 3) - 1) gi_251_43 rfl ?_
    refine z_cS3 gi_251_44 (Nat.le_of_ble_eq_true rfl) gc_148_III ?_
    refine z_iload0 gi_148_0 ?_
    refine z_iload1 gi_148_1 ?_
    refine z_icmp_ltT gi_148_2 (by omega) zr_0 (by omega) ?_
    refine z_pushJ gp_148_14 ?_
    refine z_bret0 gi_148_15 gr_148 ?_
    show zW _ _ _ _ _ _ _ _ _ _
    refine z_if_eqT gi_251_47 zr_0 (by decide) ?_
    refine z_pushJ gp_251_54 ?_
    refine z_iret gi_251_56 gr_251 ?_
    show zW _ _ _ _ _ _ _ _ _ _
    refine z_istore (ls1 := [some (.ref 50), some (zi 4), some (zi i), some (zl v), none, some (zi (-13)), none]) gi_252_6 rfl ?_
    refine z_iload5 gi_252_8 ?_
    refine z_if_geF gi_252_10 zrn_13 (by decide) ?_
    refine z_iload5 gi_252_13 ?_
    refine z_iret gi_252_15 gr_252 ?_
    refine ⟨?_, ?_⟩
    · first | rfl | exact congrArg (fun v => some (zi v)) (by omega) | (exfalso; omega)
    · exact hr
  · refine z_iload1 gi_70_25 ?_
    refine z_aload0 gi_70_26 ?_
    refine z_getI (v := J 46 3) gi_70_27 gk_46 (rfl) ?_
    refine z_icmp_ge gi_70_30 (by omega) (by omega) (fun h2 => ?_) (fun h2 => ?_)
    · refine z_pushJ gp_70_37 ?_
      refine z_iret gi_70_39 gr_70 ?_
      show zW _ _ _ _ _ _ _ _ _ _
      refine z_istore (ls1 := [some (.ref 0), some (zi 4), some (zi i), some (zl v), none, some (zi (-13))]) gi_138_19 rfl ?_
      refine z_iload5 gi_138_21 ?_
      refine z_if_geF gi_138_23 zrn_13 (by decide) ?_
      refine z_iload5 gi_138_26 ?_
      refine z_iret gi_138_28 gr_138 ?_
      refine ⟨_, rfl, ?_⟩
      show zW _ _ _ _ [some (.ref 50), some (zi 4), some (zi i), some (zl v), none, none, none] _ _ _ _ _
      refine z_aload0 gi_252_0 ?_
      refine z_iload1 gi_252_1 ?_
      refine z_iload2 gi_252_2 ?_
      refine z_cV2 gi_252_3 gk_50 go_251 (Nat.le_of_ble_eq_true rfl) gc_251_RII ?_
      refine z_iload1 gi_251_0 ?_
      refine z_cS1 gi_251_1 (Nat.le_of_ble_eq_true rfl) gc_248_I ?_
      refine z_iload0 gi_248_0 ?_
      refine z_pushJ gp_248_1 ?_
      refine z_pushJ gp_248_2 ?_
      refine z_cS3 gi_248_3 (Nat.le_of_ble_eq_true rfl) gc_148_III ?_
      refine z_iload0 gi_148_0 ?_
      refine z_iload1 gi_148_1 ?_
      refine z_icmp_ltF gi_148_2 zr_4 zr_0 (by decide) ?_
      refine z_iload0 gi_148_5 ?_
      refine z_iload2 gi_148_6 ?_
      refine z_icmp_gtF gi_148_7 zr_4 zr_5 (by decide) ?_
      refine z_pushJ gp_148_10 ?_
      refine z_goto gi_148_11 ?_
      refine z_bret1 gi_148_15 gr_148 ?_
      show zW _ _ _ _ _ _ _ _ _ _
      refine z_bret1 gi_248_6 gr_248 ?_
      show zW _ _ _ _ _ _ _ _ _ _
      refine z_if_neT gi_251_4 zr_1 (by decide) ?_
      refine z_aload0 gi_251_9 ?_
      refine z_getR (r := 83) gi_251_10 gk_50 (hRr _ rm_50_58 (by decide)) ?_
      refine z_iload1 gi_251_13 ?_
      refine z_iald (v := (-3)) gi_251_14 gk_83 (by decide) (by decide) ((e83.trans (by rw [hso]; rfl))) ?_
      refine z_pushJ gp_251_15 ?_
      refine z_icmp_neT gi_251_16 zrn_3 zrn_1 (by decide) ?_
      refine z_aload0 gi_251_22 ?_
      refine z_getR (r := 83) gi_251_23 gk_50 (hRr _ rm_50_58 (by decide)) ?_
      refine z_iload1 gi_251_26 ?_
      refine z_iald (v := (-3)) gi_251_27 gk_83 (by decide) (by decide) ((e83.trans (by rw [hso]; rfl))) ?_
      refine z_if_ltT gi_251_28 zrn_3 (by decide) ?_
      refine z_iload2 gi_251_34 ?_
      refine z_pushJ gp_251_35 ?_
      refine z_aload0 gi_251_36 ?_
      refine z_getR (r := 84) gi_251_37 gk_50 (hRr _ rm_50_59 (by decide)) ?_
      refine z_iload1 gi_251_40 ?_
      refine z_iald (v := J 46 3) gi_251_41 gk_84 (by decide) (by decide) (s7) ?_
      refine z_pushJ gp_251_42 ?_
      refine z_isub (e := (J 46 3) - 1) gi_251_43 rfl ?_
      refine z_cS3 gi_251_44 (Nat.le_of_ble_eq_true rfl) gc_148_III ?_
      refine z_iload0 gi_148_0 ?_
      refine z_iload1 gi_148_1 ?_
      refine z_icmp_ltF gi_148_2 (by omega) zr_0 (by omega) ?_
      refine z_iload0 gi_148_5 ?_
      refine z_iload2 gi_148_6 ?_
      refine z_icmp_gtT gi_148_7 (by omega) (by omega) (by omega) ?_
      refine z_pushJ gp_148_14 ?_
      refine z_bret0 gi_148_15 gr_148 ?_
      show zW _ _ _ _ _ _ _ _ _ _
      refine z_if_eqT gi_251_47 zr_0 (by decide) ?_
      refine z_pushJ gp_251_54 ?_
      refine z_iret gi_251_56 gr_251 ?_
      show zW _ _ _ _ _ _ _ _ _ _
      refine z_istore (ls1 := [some (.ref 50), some (zi 4), some (zi i), some (zl v), none, some (zi (-13)), none]) gi_252_6 rfl ?_
      refine z_iload5 gi_252_8 ?_
      refine z_if_geF gi_252_10 zrn_13 (by decide) ?_
      refine z_iload5 gi_252_13 ?_
      refine z_iret gi_252_15 gr_252 ?_
      refine ⟨?_, ?_⟩
      · first | rfl | exact congrArg (fun v => some (zi v)) (by omega) | (exfalso; omega)
      · exact hr
    · refine z_pushJ gp_70_33 ?_
      refine z_goto gi_70_34 ?_
      refine z_iret gi_70_39 gr_70 ?_
      show zW _ _ _ _ _ _ _ _ _ _
      refine z_istore (ls1 := [some (.ref 0), some (zi 4), some (zi i), some (zl v), none, some (zi 0)]) gi_138_19 rfl ?_
      refine z_iload5 gi_138_21 ?_
      refine z_if_geT gi_138_23 zr_0 (by decide) ?_
      refine z_aload0 gi_138_29 ?_
      refine z_getR (r := 37) gi_138_30 gk_0 (hR _ rm_0_11) ?_
      refine z_iload1 gi_138_33 ?_
      refine z_aald (r := 46) gi_138_34 rfl (by decide) (by decide) (hR _ rm_37_4) ?_
      refine z_iload2 gi_138_35 ?_
      refine z_lload3 gi_138_36 ?_
      refine z_callVi (As := [_, _]) (le := [some _, some _, some _, none]) gi_138_37 rfl gk_46 (Nat.le_of_ble_eq_true rfl) (Nat.le_of_ble_eq_true rfl) rfl ?_
      refine z_iload1 gi_73_0 ?_
      refine z_if_ltF gi_73_1 (by omega) (by omega) ?_
      refine z_iload1 gi_73_4 ?_
      refine z_aload0 gi_73_5 ?_
      refine z_getI (v := J 46 3) gi_73_6 gk_46 (rfl) ?_
      refine z_icmp_geF gi_73_9 (by omega) (by omega) (by omega) ?_
      refine z_aload0 gi_73_12 ?_
      refine z_getR (r := 47) gi_73_13 gk_46 (hR _ rm_46_4) ?_
      refine z_iload1 gi_73_16 ?_
      refine z_aload0 gi_73_17 ?_
      refine z_lload2 gi_73_18 ?_
      refine z_callVi (As := [_]) (le := [some _, some _, none]) gi_73_19 rfl gk_46 (Nat.le_of_ble_eq_true rfl) (Nat.le_of_ble_eq_true rfl) rfl ?_
      refine z_aload0 gi_74_0 ?_
      refine z_getI (v := 1) gi_74_1 gk_46 (hso) ?_
      refine z_swI (tg := 45) gi_74_4 (by decide) (T := [((0 : Int), 40), ((1 : Int), 45), ((2 : Int), 50), ((3 : Int), 66), ((4 : Int), 54)]) rfl (by decide) ?_
      refine z_lload1 gi_74_45 ?_
      refine z_l2i gi_74_46 ?_
      refine z_i2s (e := zh v) gi_74_47 rfl ?_
      have q3 := zh_r v
      refine z_i2l gi_74_48 (by omega) ?_
      refine z_lret gi_74_49 gr_74 ?_
      show zW _ _ _ _ _ _ _ _ _ _
      refine z_last (e := zh v) gi_73_22 gk_47 (by decide) (by omega) rfl ?_
      refine z_vret gi_73_23 gr_73 ?_
      show zW _ _ _ _ _ _ _ _ _ _
      refine z_pushJ gp_138_40 ?_
      refine z_iret gi_138_41 gr_138 ?_
      refine ⟨_, rfl, ?_⟩
      show zW _ _ _ _ [some (.ref 50), some (zi 4), some (zi i), some (zl v), none, none, none] _ _ _ _ _
      refine z_aload0 gi_252_0 ?_
      refine z_iload1 gi_252_1 ?_
      refine z_iload2 gi_252_2 ?_
      refine z_cV2 gi_252_3 gk_50 go_251 (Nat.le_of_ble_eq_true rfl) gc_251_RII ?_
      refine z_iload1 gi_251_0 ?_
      refine z_cS1 gi_251_1 (Nat.le_of_ble_eq_true rfl) gc_248_I ?_
      refine z_iload0 gi_248_0 ?_
      refine z_pushJ gp_248_1 ?_
      refine z_pushJ gp_248_2 ?_
      refine z_cS3 gi_248_3 (Nat.le_of_ble_eq_true rfl) gc_148_III ?_
      refine z_iload0 gi_148_0 ?_
      refine z_iload1 gi_148_1 ?_
      refine z_icmp_ltF gi_148_2 zr_4 zr_0 (by decide) ?_
      refine z_iload0 gi_148_5 ?_
      refine z_iload2 gi_148_6 ?_
      refine z_icmp_gtF gi_148_7 zr_4 zr_5 (by decide) ?_
      refine z_pushJ gp_148_10 ?_
      refine z_goto gi_148_11 ?_
      refine z_bret1 gi_148_15 gr_148 ?_
      show zW _ _ _ _ _ _ _ _ _ _
      refine z_bret1 gi_248_6 gr_248 ?_
      show zW _ _ _ _ _ _ _ _ _ _
      refine z_if_neT gi_251_4 zr_1 (by decide) ?_
      refine z_aload0 gi_251_9 ?_
      refine z_getR (r := 83) gi_251_10 gk_50 (hRr _ rm_50_58 (by decide)) ?_
      refine z_iload1 gi_251_13 ?_
      refine z_iald (v := (-3)) gi_251_14 gk_83 (by decide) (by decide) ((e83.trans (by rw [hso]; rfl))) ?_
      refine z_pushJ gp_251_15 ?_
      refine z_icmp_neT gi_251_16 zrn_3 zrn_1 (by decide) ?_
      refine z_aload0 gi_251_22 ?_
      refine z_getR (r := 83) gi_251_23 gk_50 (hRr _ rm_50_58 (by decide)) ?_
      refine z_iload1 gi_251_26 ?_
      refine z_iald (v := (-3)) gi_251_27 gk_83 (by decide) (by decide) ((e83.trans (by rw [hso]; rfl))) ?_
      refine z_if_ltT gi_251_28 zrn_3 (by decide) ?_
      refine z_iload2 gi_251_34 ?_
      refine z_pushJ gp_251_35 ?_
      refine z_aload0 gi_251_36 ?_
      refine z_getR (r := 84) gi_251_37 gk_50 (hRr _ rm_50_59 (by decide)) ?_
      refine z_iload1 gi_251_40 ?_
      refine z_iald (v := J 46 3) gi_251_41 gk_84 (by decide) (by decide) (s7) ?_
      refine z_pushJ gp_251_42 ?_
      refine z_isub (e := (J 46 3) - 1) gi_251_43 rfl ?_
      refine z_cS3 gi_251_44 (Nat.le_of_ble_eq_true rfl) gc_148_III ?_
      refine z_iload0 gi_148_0 ?_
      refine z_iload1 gi_148_1 ?_
      refine z_icmp_ltF gi_148_2 (by omega) zr_0 (by omega) ?_
      refine z_iload0 gi_148_5 ?_
      refine z_iload2 gi_148_6 ?_
      refine z_icmp_gtF gi_148_7 (by omega) (by omega) (by omega) ?_
      refine z_pushJ gp_148_10 ?_
      refine z_goto gi_148_11 ?_
      refine z_bret1 gi_148_15 gr_148 ?_
      show zW _ _ _ _ _ _ _ _ _ _
      refine z_if_eqF gi_251_47 zr_1 (by decide) ?_
      refine z_pushJ gp_251_50 ?_
      refine z_goto gi_251_51 ?_
      refine z_iret gi_251_56 gr_251 ?_
      show zW _ _ _ _ _ _ _ _ _ _
      refine z_istore (ls1 := [some (.ref 50), some (zi 4), some (zi i), some (zl v), none, some (zi 0), none]) gi_252_6 rfl ?_
      refine z_iload5 gi_252_8 ?_
      refine z_if_geT gi_252_10 zr_0 (by decide) ?_
      refine z_pushJ gp_252_16 ?_
      refine z_aload0 gi_252_18 ?_
      refine z_getR (r := 83) gi_252_19 gk_50 (hRr _ rm_50_58 (by decide)) ?_
      refine z_iload1 gi_252_22 ?_
      refine z_iald (v := (-3)) gi_252_23 gk_83 (by decide) (by decide) ((e83.trans (by rw [hso]; rfl))) ?_
      refine z_isub (e := 1) gi_252_24 rfl ?_
      refine z_istore (ls1 := [some (.ref 50), some (zi 4), some (zi i), some (zl v), none, some (zi 0), some (zi 1)]) gi_252_25 rfl ?_
      refine z_aload0 gi_252_27 ?_
      refine z_getR (r := 85) gi_252_28 gk_50 (hRr _ rm_50_60 (by decide)) ?_
      refine z_pushJ gp_252_31 ?_
      refine z_iload1 gi_252_33 ?_
      refine z_imul (e := 240) gi_252_34 rfl ?_
      refine z_iload2 gi_252_35 ?_
      refine z_iadd (e := 240 + i) gi_252_36 rfl ?_
      refine z_iload6 gi_252_37 ?_
      refine z_if_neT gi_252_39 zr_1 (by decide) ?_
      refine z_iload6 gi_252_49 ?_
      refine z_pushJ gp_252_51 ?_
      refine z_icmp_neF gi_252_52 zr_1 zr_1 (by decide) ?_
      refine z_lload3 gi_252_55 ?_
      refine z_l2i gi_252_56 ?_
      refine z_i2s (e := zh v) gi_252_57 rfl ?_
      have q4 := zh_r v
      refine z_i2l gi_252_58 (by omega) ?_
      refine z_goto gi_252_59 ?_
      refine z_last (e := zh v) gi_252_95 gk_85 (by decide) (by omega) rfl ?_
      refine z_pushJ gp_252_96 ?_
      refine z_iret gi_252_97 gr_252 ?_
      refine ⟨?_, ?_⟩
      · first | rfl | exact congrArg (fun v => some (zi v)) (by omega) | (exfalso; omega)
      · have hk := (zK_r (k := (kL [] [])) (A := J))
        have hkm := (zK_x (a := 85) (x := 240 + i) (v := zh v) (zK_x (a := 47) (x := i) (v := zh v) (zK_r (k := (kL [47, 85] [])) (A := M)) rfl) rfl)
        exact ⟨hR, hG, RelY_k hk (by repeat' constructor) (fun p => by repeat' constructor) hY, RelD_k hk (by repeat' constructor) (fun p => by repeat' constructor) hD, RelP_k hk (by repeat' constructor) (fun p => by repeat' constructor) hP, RelC_k hk (by repeat' constructor) (fun p => by repeat' constructor) hC, RelA_k hk (by repeat' constructor) (fun p => by repeat' constructor) hAc, (RelS_one (J := J) (M := M) (c := 4) (fun t t1 t2 te => by have q : t = 0 ∨ t = 1 ∨ t = 2 ∨ t = 3 ∨ t = 4 ∨ t = 5 := (by omega); rcases q with rfl | rfl | rfl | rfl | rfl | rfl <;> first | exact absurd rfl te | exact ⟨fun j => rfl, rfl, rfl⟩) (fun t t1 t2 te => by have q : t = 0 ∨ t = 1 ∨ t = 2 ∨ t = 3 ∨ t = 4 ∨ t = 5 := (by omega); rcases q with rfl | rfl | rfl | rfl | rfl | rfl <;> first | exact absurd rfl te | exact ⟨fun j => rfl, fun j j1 j2 => (zU_x (by omega)).trans (zU_n (by decide))⟩) rfl (show RelS1 _ _ _ from ⟨(hS 4 (by decide) (by decide)).1, (hS 4 (by decide) (by decide)).2.1, s3, s4, (hS 4 (by decide) (by decide)).2.2.2.2.1, fun _ => ⟨s7.symm, fun k k1 k2 => by show (if k = i then zh v else M 47 k) = (if 240 + k = 240 + i then zh v else M 85 (240 + k)); by_cases e : k = i; rw [if_pos e, if_pos (by omega)]; rw [if_neg e, if_neg (by omega)]; exact s8 k k1 k2, (fun hq => absurd (Eq.trans (Eq.symm hq) hso) (by decide))⟩⟩) hS), RelT_k hk (by repeat' constructor) (fun p => by repeat' constructor) hTp, RelX_k hk (by repeat' constructor) (fun p => by repeat' constructor) hX, RelW_k hk ⟨rfl, rfl⟩ trivial hW⟩
theorem st_put_422 {X : Nat × (Nat → Int32)} {d : Nat} {J M : zA} {R : zR} {i v : Int} (hr : Rel X J M R) (hi : -2147483648 ≤ i ∧ i < 2147483648) (hv : -9223372036854775808 ≤ v ∧ v < 9223372036854775808) (hh : J 46 0 = 2) (hso : J 46 2 = 2) : zW X (d + 20) 138 0 (gEn 138 [(.ref 0), (zi 4), (zi i), (zl v)]) [] J M R (stP X (d + 20) 252 [(zi 4), (zi i), (zl v)]) := by
  have hr0 := hr
  obtain ⟨hR, hG, hY, hD, hP, hC, hAc, hS, hTp, hX, hW⟩ := hr0
  have hRr : zRoR R := zRoR_of hR
  have e83 : J 83 4 = -2 - J 46 2 := (hS 4 (by decide) (by decide)).1.symm.trans (cH_2 hh)
  have s3 : 0 ≤ J 46 2 ∧ J 46 2 ≤ 4 := (hS 4 (by decide) (by decide)).2.2.1
  have s4 : 0 ≤ J 46 3 ∧ J 46 3 ≤ 60 := (hS 4 (by decide) (by decide)).2.2.2.1
  have s6 := (hS 4 (by decide) (by decide)).2.2.2.2.2 hh
  have s7 : J 84 4 = J 46 3 := s6.1.symm
  have s8 : ∀ i, 0 ≤ i → i < J 46 3 → M 47 i = M 85 (240 + i) := s6.2.1
  show zW _ _ _ _ [some (.ref 0), some (zi 4), some (zi i), some (zl v), none, none] _ _ _ _ _
  refine z_iload1 gi_138_0 ?_
  refine z_cS1 gi_138_1 (Nat.le_of_ble_eq_true rfl) gc_143_I ?_
  refine z_iload0 gi_143_0 ?_
  refine z_if_ltF gi_143_1 zr_4 (by decide) ?_
  refine z_iload0 gi_143_4 ?_
  refine z_pushJ gp_143_5 ?_
  refine z_icmp_geF gi_143_7 zr_4 zr_6 (by decide) ?_
  refine z_pushJ gp_143_10 ?_
  refine z_goto gi_143_11 ?_
  refine z_bret1 gi_143_15 gr_143 ?_
  show zW _ _ _ _ _ _ _ _ _ _
  refine z_if_neT gi_138_4 zr_1 (by decide) ?_
  refine z_aload0 gi_138_9 ?_
  refine z_getR (r := 37) gi_138_10 gk_0 (hR _ rm_0_11) ?_
  refine z_iload1 gi_138_13 ?_
  refine z_aald (r := 46) gi_138_14 rfl (by decide) (by decide) (hR _ rm_37_4) ?_
  refine z_iload2 gi_138_15 ?_
  refine z_cV1 gi_138_16 gk_46 go_70 (Nat.le_of_ble_eq_true rfl) gc_70_RI ?_
  refine z_aload0 gi_70_0 ?_
  refine z_getI (v := 2) gi_70_1 gk_46 (hh) ?_
  refine z_if_neT gi_70_4 zr_2 (by decide) ?_
  refine z_aload0 gi_70_10 ?_
  refine z_getI (v := 2) gi_70_11 gk_46 (hh) ?_
  refine z_pushJ gp_70_14 ?_
  refine z_icmp_eqT gi_70_15 zr_2 zr_2 (by decide) ?_
  refine z_iload1 gi_70_21 ?_
  refine z_if_lt gi_70_22 (by omega) (fun h1 => ?_) (fun h1 => ?_)
  · refine z_pushJ gp_70_37 ?_
    refine z_iret gi_70_39 gr_70 ?_
    show zW _ _ _ _ _ _ _ _ _ _
    refine z_istore (ls1 := [some (.ref 0), some (zi 4), some (zi i), some (zl v), none, some (zi (-13))]) gi_138_19 rfl ?_
    refine z_iload5 gi_138_21 ?_
    refine z_if_geF gi_138_23 zrn_13 (by decide) ?_
    refine z_iload5 gi_138_26 ?_
    refine z_iret gi_138_28 gr_138 ?_
    refine ⟨_, rfl, ?_⟩
    show zW _ _ _ _ [some (.ref 50), some (zi 4), some (zi i), some (zl v), none, none, none] _ _ _ _ _
    refine z_aload0 gi_252_0 ?_
    refine z_iload1 gi_252_1 ?_
    refine z_iload2 gi_252_2 ?_
    refine z_cV2 gi_252_3 gk_50 go_251 (Nat.le_of_ble_eq_true rfl) gc_251_RII ?_
    refine z_iload1 gi_251_0 ?_
    refine z_cS1 gi_251_1 (Nat.le_of_ble_eq_true rfl) gc_248_I ?_
    refine z_iload0 gi_248_0 ?_
    refine z_pushJ gp_248_1 ?_
    refine z_pushJ gp_248_2 ?_
    refine z_cS3 gi_248_3 (Nat.le_of_ble_eq_true rfl) gc_148_III ?_
    refine z_iload0 gi_148_0 ?_
    refine z_iload1 gi_148_1 ?_
    refine z_icmp_ltF gi_148_2 zr_4 zr_0 (by decide) ?_
    refine z_iload0 gi_148_5 ?_
    refine z_iload2 gi_148_6 ?_
    refine z_icmp_gtF gi_148_7 zr_4 zr_5 (by decide) ?_
    refine z_pushJ gp_148_10 ?_
    refine z_goto gi_148_11 ?_
    refine z_bret1 gi_148_15 gr_148 ?_
    show zW _ _ _ _ _ _ _ _ _ _
    refine z_bret1 gi_248_6 gr_248 ?_
    show zW _ _ _ _ _ _ _ _ _ _
    refine z_if_neT gi_251_4 zr_1 (by decide) ?_
    refine z_aload0 gi_251_9 ?_
    refine z_getR (r := 83) gi_251_10 gk_50 (hRr _ rm_50_58 (by decide)) ?_
    refine z_iload1 gi_251_13 ?_
    refine z_iald (v := (-4)) gi_251_14 gk_83 (by decide) (by decide) ((e83.trans (by rw [hso]; rfl))) ?_
    refine z_pushJ gp_251_15 ?_
    refine z_icmp_neT gi_251_16 zrn_4 zrn_1 (by decide) ?_
    refine z_aload0 gi_251_22 ?_
    refine z_getR (r := 83) gi_251_23 gk_50 (hRr _ rm_50_58 (by decide)) ?_
    refine z_iload1 gi_251_26 ?_
    refine z_iald (v := (-4)) gi_251_27 gk_83 (by decide) (by decide) ((e83.trans (by rw [hso]; rfl))) ?_
    refine z_if_ltT gi_251_28 zrn_4 (by decide) ?_
    refine z_iload2 gi_251_34 ?_
    refine z_pushJ gp_251_35 ?_
    refine z_aload0 gi_251_36 ?_
    refine z_getR (r := 84) gi_251_37 gk_50 (hRr _ rm_50_59 (by decide)) ?_
    refine z_iload1 gi_251_40 ?_
    refine z_iald (v := J 46 3) gi_251_41 gk_84 (by decide) (by decide) (s7) ?_
    refine z_pushJ gp_251_42 ?_
    refine z_isub (e := (J 46 3) - 1) gi_251_43 rfl ?_
    refine z_cS3 gi_251_44 (Nat.le_of_ble_eq_true rfl) gc_148_III ?_
    refine z_iload0 gi_148_0 ?_
    refine z_iload1 gi_148_1 ?_
    refine z_icmp_ltT gi_148_2 (by omega) zr_0 (by omega) ?_
    refine z_pushJ gp_148_14 ?_
    refine z_bret0 gi_148_15 gr_148 ?_
    show zW _ _ _ _ _ _ _ _ _ _
    refine z_if_eqT gi_251_47 zr_0 (by decide) ?_
    refine z_pushJ gp_251_54 ?_
    refine z_iret gi_251_56 gr_251 ?_
    show zW _ _ _ _ _ _ _ _ _ _
    refine z_istore (ls1 := [some (.ref 50), some (zi 4), some (zi i), some (zl v), none, some (zi (-13)), none]) gi_252_6 rfl ?_
    refine z_iload5 gi_252_8 ?_
    refine z_if_geF gi_252_10 zrn_13 (by decide) ?_
    refine z_iload5 gi_252_13 ?_
    refine z_iret gi_252_15 gr_252 ?_
    refine ⟨?_, ?_⟩
    · first | rfl | exact congrArg (fun v => some (zi v)) (by omega) | (exfalso; omega)
    · exact hr
  · refine z_iload1 gi_70_25 ?_
    refine z_aload0 gi_70_26 ?_
    refine z_getI (v := J 46 3) gi_70_27 gk_46 (rfl) ?_
    refine z_icmp_ge gi_70_30 (by omega) (by omega) (fun h2 => ?_) (fun h2 => ?_)
    · refine z_pushJ gp_70_37 ?_
      refine z_iret gi_70_39 gr_70 ?_
      show zW _ _ _ _ _ _ _ _ _ _
      refine z_istore (ls1 := [some (.ref 0), some (zi 4), some (zi i), some (zl v), none, some (zi (-13))]) gi_138_19 rfl ?_
      refine z_iload5 gi_138_21 ?_
      refine z_if_geF gi_138_23 zrn_13 (by decide) ?_
      refine z_iload5 gi_138_26 ?_
      refine z_iret gi_138_28 gr_138 ?_
      refine ⟨_, rfl, ?_⟩
      show zW _ _ _ _ [some (.ref 50), some (zi 4), some (zi i), some (zl v), none, none, none] _ _ _ _ _
      refine z_aload0 gi_252_0 ?_
      refine z_iload1 gi_252_1 ?_
      refine z_iload2 gi_252_2 ?_
      refine z_cV2 gi_252_3 gk_50 go_251 (Nat.le_of_ble_eq_true rfl) gc_251_RII ?_
      refine z_iload1 gi_251_0 ?_
      refine z_cS1 gi_251_1 (Nat.le_of_ble_eq_true rfl) gc_248_I ?_
      refine z_iload0 gi_248_0 ?_
      refine z_pushJ gp_248_1 ?_
      refine z_pushJ gp_248_2 ?_
      refine z_cS3 gi_248_3 (Nat.le_of_ble_eq_true rfl) gc_148_III ?_
      refine z_iload0 gi_148_0 ?_
      refine z_iload1 gi_148_1 ?_
      refine z_icmp_ltF gi_148_2 zr_4 zr_0 (by decide) ?_
      refine z_iload0 gi_148_5 ?_
      refine z_iload2 gi_148_6 ?_
      refine z_icmp_gtF gi_148_7 zr_4 zr_5 (by decide) ?_
      refine z_pushJ gp_148_10 ?_
      refine z_goto gi_148_11 ?_
      refine z_bret1 gi_148_15 gr_148 ?_
      show zW _ _ _ _ _ _ _ _ _ _
      refine z_bret1 gi_248_6 gr_248 ?_
      show zW _ _ _ _ _ _ _ _ _ _
      refine z_if_neT gi_251_4 zr_1 (by decide) ?_
      refine z_aload0 gi_251_9 ?_
      refine z_getR (r := 83) gi_251_10 gk_50 (hRr _ rm_50_58 (by decide)) ?_
      refine z_iload1 gi_251_13 ?_
      refine z_iald (v := (-4)) gi_251_14 gk_83 (by decide) (by decide) ((e83.trans (by rw [hso]; rfl))) ?_
      refine z_pushJ gp_251_15 ?_
      refine z_icmp_neT gi_251_16 zrn_4 zrn_1 (by decide) ?_
      refine z_aload0 gi_251_22 ?_
      refine z_getR (r := 83) gi_251_23 gk_50 (hRr _ rm_50_58 (by decide)) ?_
      refine z_iload1 gi_251_26 ?_
      refine z_iald (v := (-4)) gi_251_27 gk_83 (by decide) (by decide) ((e83.trans (by rw [hso]; rfl))) ?_
      refine z_if_ltT gi_251_28 zrn_4 (by decide) ?_
      refine z_iload2 gi_251_34 ?_
      refine z_pushJ gp_251_35 ?_
      refine z_aload0 gi_251_36 ?_
      refine z_getR (r := 84) gi_251_37 gk_50 (hRr _ rm_50_59 (by decide)) ?_
      refine z_iload1 gi_251_40 ?_
      refine z_iald (v := J 46 3) gi_251_41 gk_84 (by decide) (by decide) (s7) ?_
      refine z_pushJ gp_251_42 ?_
      refine z_isub (e := (J 46 3) - 1) gi_251_43 rfl ?_
      refine z_cS3 gi_251_44 (Nat.le_of_ble_eq_true rfl) gc_148_III ?_
      refine z_iload0 gi_148_0 ?_
      refine z_iload1 gi_148_1 ?_
      refine z_icmp_ltF gi_148_2 (by omega) zr_0 (by omega) ?_
      refine z_iload0 gi_148_5 ?_
      refine z_iload2 gi_148_6 ?_
      refine z_icmp_gtT gi_148_7 (by omega) (by omega) (by omega) ?_
      refine z_pushJ gp_148_14 ?_
      refine z_bret0 gi_148_15 gr_148 ?_
      show zW _ _ _ _ _ _ _ _ _ _
      refine z_if_eqT gi_251_47 zr_0 (by decide) ?_
      refine z_pushJ gp_251_54 ?_
      refine z_iret gi_251_56 gr_251 ?_
      show zW _ _ _ _ _ _ _ _ _ _
      refine z_istore (ls1 := [some (.ref 50), some (zi 4), some (zi i), some (zl v), none, some (zi (-13)), none]) gi_252_6 rfl ?_
      refine z_iload5 gi_252_8 ?_
      refine z_if_geF gi_252_10 zrn_13 (by decide) ?_
      refine z_iload5 gi_252_13 ?_
      refine z_iret gi_252_15 gr_252 ?_
      refine ⟨?_, ?_⟩
      · first | rfl | exact congrArg (fun v => some (zi v)) (by omega) | (exfalso; omega)
      · exact hr
    · refine z_pushJ gp_70_33 ?_
      refine z_goto gi_70_34 ?_
      refine z_iret gi_70_39 gr_70 ?_
      show zW _ _ _ _ _ _ _ _ _ _
      refine z_istore (ls1 := [some (.ref 0), some (zi 4), some (zi i), some (zl v), none, some (zi 0)]) gi_138_19 rfl ?_
      refine z_iload5 gi_138_21 ?_
      refine z_if_geT gi_138_23 zr_0 (by decide) ?_
      refine z_aload0 gi_138_29 ?_
      refine z_getR (r := 37) gi_138_30 gk_0 (hR _ rm_0_11) ?_
      refine z_iload1 gi_138_33 ?_
      refine z_aald (r := 46) gi_138_34 rfl (by decide) (by decide) (hR _ rm_37_4) ?_
      refine z_iload2 gi_138_35 ?_
      refine z_lload3 gi_138_36 ?_
      refine z_callVi (As := [_, _]) (le := [some _, some _, some _, none]) gi_138_37 rfl gk_46 (Nat.le_of_ble_eq_true rfl) (Nat.le_of_ble_eq_true rfl) rfl ?_
      refine z_iload1 gi_73_0 ?_
      refine z_if_ltF gi_73_1 (by omega) (by omega) ?_
      refine z_iload1 gi_73_4 ?_
      refine z_aload0 gi_73_5 ?_
      refine z_getI (v := J 46 3) gi_73_6 gk_46 (rfl) ?_
      refine z_icmp_geF gi_73_9 (by omega) (by omega) (by omega) ?_
      refine z_aload0 gi_73_12 ?_
      refine z_getR (r := 47) gi_73_13 gk_46 (hR _ rm_46_4) ?_
      refine z_iload1 gi_73_16 ?_
      refine z_aload0 gi_73_17 ?_
      refine z_lload2 gi_73_18 ?_
      refine z_callVi (As := [_]) (le := [some _, some _, none]) gi_73_19 rfl gk_46 (Nat.le_of_ble_eq_true rfl) (Nat.le_of_ble_eq_true rfl) rfl ?_
      refine z_aload0 gi_74_0 ?_
      refine z_getI (v := 2) gi_74_1 gk_46 (hso) ?_
      refine z_swI (tg := 50) gi_74_4 (by decide) (T := [((0 : Int), 40), ((1 : Int), 45), ((2 : Int), 50), ((3 : Int), 66), ((4 : Int), 54)]) rfl (by decide) ?_
      refine z_lload1 gi_74_50 ?_
      refine z_l2i gi_74_51 ?_
      refine z_topn (e := zn v) rfl ?_
      have q3 := zn_r v
      refine z_i2l gi_74_52 (by omega) ?_
      refine z_lret gi_74_53 gr_74 ?_
      show zW _ _ _ _ _ _ _ _ _ _
      refine z_last (e := zn v) gi_73_22 gk_47 (by decide) (by omega) rfl ?_
      refine z_vret gi_73_23 gr_73 ?_
      show zW _ _ _ _ _ _ _ _ _ _
      refine z_pushJ gp_138_40 ?_
      refine z_iret gi_138_41 gr_138 ?_
      refine ⟨_, rfl, ?_⟩
      show zW _ _ _ _ [some (.ref 50), some (zi 4), some (zi i), some (zl v), none, none, none] _ _ _ _ _
      refine z_aload0 gi_252_0 ?_
      refine z_iload1 gi_252_1 ?_
      refine z_iload2 gi_252_2 ?_
      refine z_cV2 gi_252_3 gk_50 go_251 (Nat.le_of_ble_eq_true rfl) gc_251_RII ?_
      refine z_iload1 gi_251_0 ?_
      refine z_cS1 gi_251_1 (Nat.le_of_ble_eq_true rfl) gc_248_I ?_
      refine z_iload0 gi_248_0 ?_
      refine z_pushJ gp_248_1 ?_
      refine z_pushJ gp_248_2 ?_
      refine z_cS3 gi_248_3 (Nat.le_of_ble_eq_true rfl) gc_148_III ?_
      refine z_iload0 gi_148_0 ?_
      refine z_iload1 gi_148_1 ?_
      refine z_icmp_ltF gi_148_2 zr_4 zr_0 (by decide) ?_
      refine z_iload0 gi_148_5 ?_
      refine z_iload2 gi_148_6 ?_
      refine z_icmp_gtF gi_148_7 zr_4 zr_5 (by decide) ?_
      refine z_pushJ gp_148_10 ?_
      refine z_goto gi_148_11 ?_
      refine z_bret1 gi_148_15 gr_148 ?_
      show zW _ _ _ _ _ _ _ _ _ _
      refine z_bret1 gi_248_6 gr_248 ?_
      show zW _ _ _ _ _ _ _ _ _ _
      refine z_if_neT gi_251_4 zr_1 (by decide) ?_
      refine z_aload0 gi_251_9 ?_
      refine z_getR (r := 83) gi_251_10 gk_50 (hRr _ rm_50_58 (by decide)) ?_
      refine z_iload1 gi_251_13 ?_
      refine z_iald (v := (-4)) gi_251_14 gk_83 (by decide) (by decide) ((e83.trans (by rw [hso]; rfl))) ?_
      refine z_pushJ gp_251_15 ?_
      refine z_icmp_neT gi_251_16 zrn_4 zrn_1 (by decide) ?_
      refine z_aload0 gi_251_22 ?_
      refine z_getR (r := 83) gi_251_23 gk_50 (hRr _ rm_50_58 (by decide)) ?_
      refine z_iload1 gi_251_26 ?_
      refine z_iald (v := (-4)) gi_251_27 gk_83 (by decide) (by decide) ((e83.trans (by rw [hso]; rfl))) ?_
      refine z_if_ltT gi_251_28 zrn_4 (by decide) ?_
      refine z_iload2 gi_251_34 ?_
      refine z_pushJ gp_251_35 ?_
      refine z_aload0 gi_251_36 ?_
      refine z_getR (r := 84) gi_251_37 gk_50 (hRr _ rm_50_59 (by decide)) ?_
      refine z_iload1 gi_251_40 ?_
      refine z_iald (v := J 46 3) gi_251_41 gk_84 (by decide) (by decide) (s7) ?_
      refine z_pushJ gp_251_42 ?_
      refine z_isub (e := (J 46 3) - 1) gi_251_43 rfl ?_
      refine z_cS3 gi_251_44 (Nat.le_of_ble_eq_true rfl) gc_148_III ?_
      refine z_iload0 gi_148_0 ?_
      refine z_iload1 gi_148_1 ?_
      refine z_icmp_ltF gi_148_2 (by omega) zr_0 (by omega) ?_
      refine z_iload0 gi_148_5 ?_
      refine z_iload2 gi_148_6 ?_
      refine z_icmp_gtF gi_148_7 (by omega) (by omega) (by omega) ?_
      refine z_pushJ gp_148_10 ?_
      refine z_goto gi_148_11 ?_
      refine z_bret1 gi_148_15 gr_148 ?_
      show zW _ _ _ _ _ _ _ _ _ _
      refine z_if_eqF gi_251_47 zr_1 (by decide) ?_
      refine z_pushJ gp_251_50 ?_
      refine z_goto gi_251_51 ?_
      refine z_iret gi_251_56 gr_251 ?_
      show zW _ _ _ _ _ _ _ _ _ _
      refine z_istore (ls1 := [some (.ref 50), some (zi 4), some (zi i), some (zl v), none, some (zi 0), none]) gi_252_6 rfl ?_
      refine z_iload5 gi_252_8 ?_
      refine z_if_geT gi_252_10 zr_0 (by decide) ?_
      refine z_pushJ gp_252_16 ?_
      refine z_aload0 gi_252_18 ?_
      refine z_getR (r := 83) gi_252_19 gk_50 (hRr _ rm_50_58 (by decide)) ?_
      refine z_iload1 gi_252_22 ?_
      refine z_iald (v := (-4)) gi_252_23 gk_83 (by decide) (by decide) ((e83.trans (by rw [hso]; rfl))) ?_
      refine z_isub (e := 2) gi_252_24 rfl ?_
      refine z_istore (ls1 := [some (.ref 50), some (zi 4), some (zi i), some (zl v), none, some (zi 0), some (zi 2)]) gi_252_25 rfl ?_
      refine z_aload0 gi_252_27 ?_
      refine z_getR (r := 85) gi_252_28 gk_50 (hRr _ rm_50_60 (by decide)) ?_
      refine z_pushJ gp_252_31 ?_
      refine z_iload1 gi_252_33 ?_
      refine z_imul (e := 240) gi_252_34 rfl ?_
      refine z_iload2 gi_252_35 ?_
      refine z_iadd (e := 240 + i) gi_252_36 rfl ?_
      refine z_iload6 gi_252_37 ?_
      refine z_if_neT gi_252_39 zr_2 (by decide) ?_
      refine z_iload6 gi_252_49 ?_
      refine z_pushJ gp_252_51 ?_
      refine z_icmp_neT gi_252_52 zr_2 zr_1 (by decide) ?_
      refine z_iload6 gi_252_62 ?_
      refine z_pushJ gp_252_64 ?_
      refine z_icmp_neF gi_252_65 zr_2 zr_2 (by decide) ?_
      refine z_lload3 gi_252_68 ?_
      refine z_l2i gi_252_69 ?_
      refine z_topn (e := zn v) rfl ?_
      have q4 := zn_r v
      refine z_i2l gi_252_70 (by omega) ?_
      refine z_goto gi_252_71 ?_
      refine z_last (e := zn v) gi_252_95 gk_85 (by decide) (by omega) rfl ?_
      refine z_pushJ gp_252_96 ?_
      refine z_iret gi_252_97 gr_252 ?_
      refine ⟨?_, ?_⟩
      · first | rfl | exact congrArg (fun v => some (zi v)) (by omega) | (exfalso; omega)
      · have hk := (zK_r (k := (kL [] [])) (A := J))
        have hkm := (zK_x (a := 85) (x := 240 + i) (v := zn v) (zK_x (a := 47) (x := i) (v := zn v) (zK_r (k := (kL [47, 85] [])) (A := M)) rfl) rfl)
        exact ⟨hR, hG, RelY_k hk (by repeat' constructor) (fun p => by repeat' constructor) hY, RelD_k hk (by repeat' constructor) (fun p => by repeat' constructor) hD, RelP_k hk (by repeat' constructor) (fun p => by repeat' constructor) hP, RelC_k hk (by repeat' constructor) (fun p => by repeat' constructor) hC, RelA_k hk (by repeat' constructor) (fun p => by repeat' constructor) hAc, (RelS_one (J := J) (M := M) (c := 4) (fun t t1 t2 te => by have q : t = 0 ∨ t = 1 ∨ t = 2 ∨ t = 3 ∨ t = 4 ∨ t = 5 := (by omega); rcases q with rfl | rfl | rfl | rfl | rfl | rfl <;> first | exact absurd rfl te | exact ⟨fun j => rfl, rfl, rfl⟩) (fun t t1 t2 te => by have q : t = 0 ∨ t = 1 ∨ t = 2 ∨ t = 3 ∨ t = 4 ∨ t = 5 := (by omega); rcases q with rfl | rfl | rfl | rfl | rfl | rfl <;> first | exact absurd rfl te | exact ⟨fun j => rfl, fun j j1 j2 => (zU_x (by omega)).trans (zU_n (by decide))⟩) rfl (show RelS1 _ _ _ from ⟨(hS 4 (by decide) (by decide)).1, (hS 4 (by decide) (by decide)).2.1, s3, s4, (hS 4 (by decide) (by decide)).2.2.2.2.1, fun _ => ⟨s7.symm, fun k k1 k2 => by show (if k = i then zn v else M 47 k) = (if 240 + k = 240 + i then zn v else M 85 (240 + k)); by_cases e : k = i; rw [if_pos e, if_pos (by omega)]; rw [if_neg e, if_neg (by omega)]; exact s8 k k1 k2, (fun hq => absurd (Eq.trans (Eq.symm hq) hso) (by decide))⟩⟩) hS), RelT_k hk (by repeat' constructor) (fun p => by repeat' constructor) hTp, RelX_k hk (by repeat' constructor) (fun p => by repeat' constructor) hX, RelW_k hk ⟨rfl, rfl⟩ trivial hW⟩
theorem st_put_423 {X : Nat × (Nat → Int32)} {d : Nat} {J M : zA} {R : zR} {i v : Int} (hr : Rel X J M R) (hi : -2147483648 ≤ i ∧ i < 2147483648) (hv : -9223372036854775808 ≤ v ∧ v < 9223372036854775808) (hh : J 46 0 = 2) (hso : J 46 2 = 3) : zW X (d + 20) 138 0 (gEn 138 [(.ref 0), (zi 4), (zi i), (zl v)]) [] J M R (stP X (d + 20) 252 [(zi 4), (zi i), (zl v)]) := by
  have hr0 := hr
  obtain ⟨hR, hG, hY, hD, hP, hC, hAc, hS, hTp, hX, hW⟩ := hr0
  have hRr : zRoR R := zRoR_of hR
  have e83 : J 83 4 = -2 - J 46 2 := (hS 4 (by decide) (by decide)).1.symm.trans (cH_2 hh)
  have s3 : 0 ≤ J 46 2 ∧ J 46 2 ≤ 4 := (hS 4 (by decide) (by decide)).2.2.1
  have s4 : 0 ≤ J 46 3 ∧ J 46 3 ≤ 60 := (hS 4 (by decide) (by decide)).2.2.2.1
  have s6 := (hS 4 (by decide) (by decide)).2.2.2.2.2 hh
  have s7 : J 84 4 = J 46 3 := s6.1.symm
  have s8 : ∀ i, 0 ≤ i → i < J 46 3 → M 47 i = M 85 (240 + i) := s6.2.1
  show zW _ _ _ _ [some (.ref 0), some (zi 4), some (zi i), some (zl v), none, none] _ _ _ _ _
  refine z_iload1 gi_138_0 ?_
  refine z_cS1 gi_138_1 (Nat.le_of_ble_eq_true rfl) gc_143_I ?_
  refine z_iload0 gi_143_0 ?_
  refine z_if_ltF gi_143_1 zr_4 (by decide) ?_
  refine z_iload0 gi_143_4 ?_
  refine z_pushJ gp_143_5 ?_
  refine z_icmp_geF gi_143_7 zr_4 zr_6 (by decide) ?_
  refine z_pushJ gp_143_10 ?_
  refine z_goto gi_143_11 ?_
  refine z_bret1 gi_143_15 gr_143 ?_
  show zW _ _ _ _ _ _ _ _ _ _
  refine z_if_neT gi_138_4 zr_1 (by decide) ?_
  refine z_aload0 gi_138_9 ?_
  refine z_getR (r := 37) gi_138_10 gk_0 (hR _ rm_0_11) ?_
  refine z_iload1 gi_138_13 ?_
  refine z_aald (r := 46) gi_138_14 rfl (by decide) (by decide) (hR _ rm_37_4) ?_
  refine z_iload2 gi_138_15 ?_
  refine z_cV1 gi_138_16 gk_46 go_70 (Nat.le_of_ble_eq_true rfl) gc_70_RI ?_
  refine z_aload0 gi_70_0 ?_
  refine z_getI (v := 2) gi_70_1 gk_46 (hh) ?_
  refine z_if_neT gi_70_4 zr_2 (by decide) ?_
  refine z_aload0 gi_70_10 ?_
  refine z_getI (v := 2) gi_70_11 gk_46 (hh) ?_
  refine z_pushJ gp_70_14 ?_
  refine z_icmp_eqT gi_70_15 zr_2 zr_2 (by decide) ?_
  refine z_iload1 gi_70_21 ?_
  refine z_if_lt gi_70_22 (by omega) (fun h1 => ?_) (fun h1 => ?_)
  · refine z_pushJ gp_70_37 ?_
    refine z_iret gi_70_39 gr_70 ?_
    show zW _ _ _ _ _ _ _ _ _ _
    refine z_istore (ls1 := [some (.ref 0), some (zi 4), some (zi i), some (zl v), none, some (zi (-13))]) gi_138_19 rfl ?_
    refine z_iload5 gi_138_21 ?_
    refine z_if_geF gi_138_23 zrn_13 (by decide) ?_
    refine z_iload5 gi_138_26 ?_
    refine z_iret gi_138_28 gr_138 ?_
    refine ⟨_, rfl, ?_⟩
    show zW _ _ _ _ [some (.ref 50), some (zi 4), some (zi i), some (zl v), none, none, none] _ _ _ _ _
    refine z_aload0 gi_252_0 ?_
    refine z_iload1 gi_252_1 ?_
    refine z_iload2 gi_252_2 ?_
    refine z_cV2 gi_252_3 gk_50 go_251 (Nat.le_of_ble_eq_true rfl) gc_251_RII ?_
    refine z_iload1 gi_251_0 ?_
    refine z_cS1 gi_251_1 (Nat.le_of_ble_eq_true rfl) gc_248_I ?_
    refine z_iload0 gi_248_0 ?_
    refine z_pushJ gp_248_1 ?_
    refine z_pushJ gp_248_2 ?_
    refine z_cS3 gi_248_3 (Nat.le_of_ble_eq_true rfl) gc_148_III ?_
    refine z_iload0 gi_148_0 ?_
    refine z_iload1 gi_148_1 ?_
    refine z_icmp_ltF gi_148_2 zr_4 zr_0 (by decide) ?_
    refine z_iload0 gi_148_5 ?_
    refine z_iload2 gi_148_6 ?_
    refine z_icmp_gtF gi_148_7 zr_4 zr_5 (by decide) ?_
    refine z_pushJ gp_148_10 ?_
    refine z_goto gi_148_11 ?_
    refine z_bret1 gi_148_15 gr_148 ?_
    show zW _ _ _ _ _ _ _ _ _ _
    refine z_bret1 gi_248_6 gr_248 ?_
    show zW _ _ _ _ _ _ _ _ _ _
    refine z_if_neT gi_251_4 zr_1 (by decide) ?_
    refine z_aload0 gi_251_9 ?_
    refine z_getR (r := 83) gi_251_10 gk_50 (hRr _ rm_50_58 (by decide)) ?_
    refine z_iload1 gi_251_13 ?_
    refine z_iald (v := (-5)) gi_251_14 gk_83 (by decide) (by decide) ((e83.trans (by rw [hso]; rfl))) ?_
    refine z_pushJ gp_251_15 ?_
    refine z_icmp_neT gi_251_16 zrn_5 zrn_1 (by decide) ?_
    refine z_aload0 gi_251_22 ?_
    refine z_getR (r := 83) gi_251_23 gk_50 (hRr _ rm_50_58 (by decide)) ?_
    refine z_iload1 gi_251_26 ?_
    refine z_iald (v := (-5)) gi_251_27 gk_83 (by decide) (by decide) ((e83.trans (by rw [hso]; rfl))) ?_
    refine z_if_ltT gi_251_28 zrn_5 (by decide) ?_
    refine z_iload2 gi_251_34 ?_
    refine z_pushJ gp_251_35 ?_
    refine z_aload0 gi_251_36 ?_
    refine z_getR (r := 84) gi_251_37 gk_50 (hRr _ rm_50_59 (by decide)) ?_
    refine z_iload1 gi_251_40 ?_
    refine z_iald (v := J 46 3) gi_251_41 gk_84 (by decide) (by decide) (s7) ?_
    refine z_pushJ gp_251_42 ?_
    refine z_isub (e := (J 46 3) - 1) gi_251_43 rfl ?_
    refine z_cS3 gi_251_44 (Nat.le_of_ble_eq_true rfl) gc_148_III ?_
    refine z_iload0 gi_148_0 ?_
    refine z_iload1 gi_148_1 ?_
    refine z_icmp_ltT gi_148_2 (by omega) zr_0 (by omega) ?_
    refine z_pushJ gp_148_14 ?_
    refine z_bret0 gi_148_15 gr_148 ?_
    show zW _ _ _ _ _ _ _ _ _ _
    refine z_if_eqT gi_251_47 zr_0 (by decide) ?_
    refine z_pushJ gp_251_54 ?_
    refine z_iret gi_251_56 gr_251 ?_
    show zW _ _ _ _ _ _ _ _ _ _
    refine z_istore (ls1 := [some (.ref 50), some (zi 4), some (zi i), some (zl v), none, some (zi (-13)), none]) gi_252_6 rfl ?_
    refine z_iload5 gi_252_8 ?_
    refine z_if_geF gi_252_10 zrn_13 (by decide) ?_
    refine z_iload5 gi_252_13 ?_
    refine z_iret gi_252_15 gr_252 ?_
    refine ⟨?_, ?_⟩
    · first | rfl | exact congrArg (fun v => some (zi v)) (by omega) | (exfalso; omega)
    · exact hr
  · refine z_iload1 gi_70_25 ?_
    refine z_aload0 gi_70_26 ?_
    refine z_getI (v := J 46 3) gi_70_27 gk_46 (rfl) ?_
    refine z_icmp_ge gi_70_30 (by omega) (by omega) (fun h2 => ?_) (fun h2 => ?_)
    · refine z_pushJ gp_70_37 ?_
      refine z_iret gi_70_39 gr_70 ?_
      show zW _ _ _ _ _ _ _ _ _ _
      refine z_istore (ls1 := [some (.ref 0), some (zi 4), some (zi i), some (zl v), none, some (zi (-13))]) gi_138_19 rfl ?_
      refine z_iload5 gi_138_21 ?_
      refine z_if_geF gi_138_23 zrn_13 (by decide) ?_
      refine z_iload5 gi_138_26 ?_
      refine z_iret gi_138_28 gr_138 ?_
      refine ⟨_, rfl, ?_⟩
      show zW _ _ _ _ [some (.ref 50), some (zi 4), some (zi i), some (zl v), none, none, none] _ _ _ _ _
      refine z_aload0 gi_252_0 ?_
      refine z_iload1 gi_252_1 ?_
      refine z_iload2 gi_252_2 ?_
      refine z_cV2 gi_252_3 gk_50 go_251 (Nat.le_of_ble_eq_true rfl) gc_251_RII ?_
      refine z_iload1 gi_251_0 ?_
      refine z_cS1 gi_251_1 (Nat.le_of_ble_eq_true rfl) gc_248_I ?_
      refine z_iload0 gi_248_0 ?_
      refine z_pushJ gp_248_1 ?_
      refine z_pushJ gp_248_2 ?_
      refine z_cS3 gi_248_3 (Nat.le_of_ble_eq_true rfl) gc_148_III ?_
      refine z_iload0 gi_148_0 ?_
      refine z_iload1 gi_148_1 ?_
      refine z_icmp_ltF gi_148_2 zr_4 zr_0 (by decide) ?_
      refine z_iload0 gi_148_5 ?_
      refine z_iload2 gi_148_6 ?_
      refine z_icmp_gtF gi_148_7 zr_4 zr_5 (by decide) ?_
      refine z_pushJ gp_148_10 ?_
      refine z_goto gi_148_11 ?_
      refine z_bret1 gi_148_15 gr_148 ?_
      show zW _ _ _ _ _ _ _ _ _ _
      refine z_bret1 gi_248_6 gr_248 ?_
      show zW _ _ _ _ _ _ _ _ _ _
      refine z_if_neT gi_251_4 zr_1 (by decide) ?_
      refine z_aload0 gi_251_9 ?_
      refine z_getR (r := 83) gi_251_10 gk_50 (hRr _ rm_50_58 (by decide)) ?_
      refine z_iload1 gi_251_13 ?_
      refine z_iald (v := (-5)) gi_251_14 gk_83 (by decide) (by decide) ((e83.trans (by rw [hso]; rfl))) ?_
      refine z_pushJ gp_251_15 ?_
      refine z_icmp_neT gi_251_16 zrn_5 zrn_1 (by decide) ?_
      refine z_aload0 gi_251_22 ?_
      refine z_getR (r := 83) gi_251_23 gk_50 (hRr _ rm_50_58 (by decide)) ?_
      refine z_iload1 gi_251_26 ?_
      refine z_iald (v := (-5)) gi_251_27 gk_83 (by decide) (by decide) ((e83.trans (by rw [hso]; rfl))) ?_
      refine z_if_ltT gi_251_28 zrn_5 (by decide) ?_
      refine z_iload2 gi_251_34 ?_
      refine z_pushJ gp_251_35 ?_
      refine z_aload0 gi_251_36 ?_
      refine z_getR (r := 84) gi_251_37 gk_50 (hRr _ rm_50_59 (by decide)) ?_
      refine z_iload1 gi_251_40 ?_
      refine z_iald (v := J 46 3) gi_251_41 gk_84 (by decide) (by decide) (s7) ?_
      refine z_pushJ gp_251_42 ?_
      refine z_isub (e := (J 46 3) - 1) gi_251_43 rfl ?_
      refine z_cS3 gi_251_44 (Nat.le_of_ble_eq_true rfl) gc_148_III ?_
      refine z_iload0 gi_148_0 ?_
      refine z_iload1 gi_148_1 ?_
      refine z_icmp_ltF gi_148_2 (by omega) zr_0 (by omega) ?_
      refine z_iload0 gi_148_5 ?_
      refine z_iload2 gi_148_6 ?_
      refine z_icmp_gtT gi_148_7 (by omega) (by omega) (by omega) ?_
      refine z_pushJ gp_148_14 ?_
      refine z_bret0 gi_148_15 gr_148 ?_
      show zW _ _ _ _ _ _ _ _ _ _
      refine z_if_eqT gi_251_47 zr_0 (by decide) ?_
      refine z_pushJ gp_251_54 ?_
      refine z_iret gi_251_56 gr_251 ?_
      show zW _ _ _ _ _ _ _ _ _ _
      refine z_istore (ls1 := [some (.ref 50), some (zi 4), some (zi i), some (zl v), none, some (zi (-13)), none]) gi_252_6 rfl ?_
      refine z_iload5 gi_252_8 ?_
      refine z_if_geF gi_252_10 zrn_13 (by decide) ?_
      refine z_iload5 gi_252_13 ?_
      refine z_iret gi_252_15 gr_252 ?_
      refine ⟨?_, ?_⟩
      · first | rfl | exact congrArg (fun v => some (zi v)) (by omega) | (exfalso; omega)
      · exact hr
    · refine z_pushJ gp_70_33 ?_
      refine z_goto gi_70_34 ?_
      refine z_iret gi_70_39 gr_70 ?_
      show zW _ _ _ _ _ _ _ _ _ _
      refine z_istore (ls1 := [some (.ref 0), some (zi 4), some (zi i), some (zl v), none, some (zi 0)]) gi_138_19 rfl ?_
      refine z_iload5 gi_138_21 ?_
      refine z_if_geT gi_138_23 zr_0 (by decide) ?_
      refine z_aload0 gi_138_29 ?_
      refine z_getR (r := 37) gi_138_30 gk_0 (hR _ rm_0_11) ?_
      refine z_iload1 gi_138_33 ?_
      refine z_aald (r := 46) gi_138_34 rfl (by decide) (by decide) (hR _ rm_37_4) ?_
      refine z_iload2 gi_138_35 ?_
      refine z_lload3 gi_138_36 ?_
      refine z_callVi (As := [_, _]) (le := [some _, some _, some _, none]) gi_138_37 rfl gk_46 (Nat.le_of_ble_eq_true rfl) (Nat.le_of_ble_eq_true rfl) rfl ?_
      refine z_iload1 gi_73_0 ?_
      refine z_if_ltF gi_73_1 (by omega) (by omega) ?_
      refine z_iload1 gi_73_4 ?_
      refine z_aload0 gi_73_5 ?_
      refine z_getI (v := J 46 3) gi_73_6 gk_46 (rfl) ?_
      refine z_icmp_geF gi_73_9 (by omega) (by omega) (by omega) ?_
      refine z_aload0 gi_73_12 ?_
      refine z_getR (r := 47) gi_73_13 gk_46 (hR _ rm_46_4) ?_
      refine z_iload1 gi_73_16 ?_
      refine z_aload0 gi_73_17 ?_
      refine z_lload2 gi_73_18 ?_
      refine z_callVi (As := [_]) (le := [some _, some _, none]) gi_73_19 rfl gk_46 (Nat.le_of_ble_eq_true rfl) (Nat.le_of_ble_eq_true rfl) rfl ?_
      refine z_aload0 gi_74_0 ?_
      refine z_getI (v := 3) gi_74_1 gk_46 (hso) ?_
      refine z_swI (tg := 66) gi_74_4 (by decide) (T := [((0 : Int), 40), ((1 : Int), 45), ((2 : Int), 50), ((3 : Int), 66), ((4 : Int), 54)]) rfl (by decide) ?_
      refine z_lload1 gi_74_66 ?_
      refine z_lret gi_74_67 gr_74 ?_
      show zW _ _ _ _ _ _ _ _ _ _
      refine z_last (e := v) gi_73_22 gk_47 (by decide) (by omega) rfl ?_
      refine z_vret gi_73_23 gr_73 ?_
      show zW _ _ _ _ _ _ _ _ _ _
      refine z_pushJ gp_138_40 ?_
      refine z_iret gi_138_41 gr_138 ?_
      refine ⟨_, rfl, ?_⟩
      show zW _ _ _ _ [some (.ref 50), some (zi 4), some (zi i), some (zl v), none, none, none] _ _ _ _ _
      refine z_aload0 gi_252_0 ?_
      refine z_iload1 gi_252_1 ?_
      refine z_iload2 gi_252_2 ?_
      refine z_cV2 gi_252_3 gk_50 go_251 (Nat.le_of_ble_eq_true rfl) gc_251_RII ?_
      refine z_iload1 gi_251_0 ?_
      refine z_cS1 gi_251_1 (Nat.le_of_ble_eq_true rfl) gc_248_I ?_
      refine z_iload0 gi_248_0 ?_
      refine z_pushJ gp_248_1 ?_
      refine z_pushJ gp_248_2 ?_
      refine z_cS3 gi_248_3 (Nat.le_of_ble_eq_true rfl) gc_148_III ?_
      refine z_iload0 gi_148_0 ?_
      refine z_iload1 gi_148_1 ?_
      refine z_icmp_ltF gi_148_2 zr_4 zr_0 (by decide) ?_
      refine z_iload0 gi_148_5 ?_
      refine z_iload2 gi_148_6 ?_
      refine z_icmp_gtF gi_148_7 zr_4 zr_5 (by decide) ?_
      refine z_pushJ gp_148_10 ?_
      refine z_goto gi_148_11 ?_
      refine z_bret1 gi_148_15 gr_148 ?_
      show zW _ _ _ _ _ _ _ _ _ _
      refine z_bret1 gi_248_6 gr_248 ?_
      show zW _ _ _ _ _ _ _ _ _ _
      refine z_if_neT gi_251_4 zr_1 (by decide) ?_
      refine z_aload0 gi_251_9 ?_
      refine z_getR (r := 83) gi_251_10 gk_50 (hRr _ rm_50_58 (by decide)) ?_
      refine z_iload1 gi_251_13 ?_
      refine z_iald (v := (-5)) gi_251_14 gk_83 (by decide) (by decide) ((e83.trans (by rw [hso]; rfl))) ?_
      refine z_pushJ gp_251_15 ?_
      refine z_icmp_neT gi_251_16 zrn_5 zrn_1 (by decide) ?_
      refine z_aload0 gi_251_22 ?_
      refine z_getR (r := 83) gi_251_23 gk_50 (hRr _ rm_50_58 (by decide)) ?_
      refine z_iload1 gi_251_26 ?_
      refine z_iald (v := (-5)) gi_251_27 gk_83 (by decide) (by decide) ((e83.trans (by rw [hso]; rfl))) ?_
      refine z_if_ltT gi_251_28 zrn_5 (by decide) ?_
      refine z_iload2 gi_251_34 ?_
      refine z_pushJ gp_251_35 ?_
      refine z_aload0 gi_251_36 ?_
      refine z_getR (r := 84) gi_251_37 gk_50 (hRr _ rm_50_59 (by decide)) ?_
      refine z_iload1 gi_251_40 ?_
      refine z_iald (v := J 46 3) gi_251_41 gk_84 (by decide) (by decide) (s7) ?_
      refine z_pushJ gp_251_42 ?_
      refine z_isub (e := (J 46 3) - 1) gi_251_43 rfl ?_
      refine z_cS3 gi_251_44 (Nat.le_of_ble_eq_true rfl) gc_148_III ?_
      refine z_iload0 gi_148_0 ?_
      refine z_iload1 gi_148_1 ?_
      refine z_icmp_ltF gi_148_2 (by omega) zr_0 (by omega) ?_
      refine z_iload0 gi_148_5 ?_
      refine z_iload2 gi_148_6 ?_
      refine z_icmp_gtF gi_148_7 (by omega) (by omega) (by omega) ?_
      refine z_pushJ gp_148_10 ?_
      refine z_goto gi_148_11 ?_
      refine z_bret1 gi_148_15 gr_148 ?_
      show zW _ _ _ _ _ _ _ _ _ _
      refine z_if_eqF gi_251_47 zr_1 (by decide) ?_
      refine z_pushJ gp_251_50 ?_
      refine z_goto gi_251_51 ?_
      refine z_iret gi_251_56 gr_251 ?_
      show zW _ _ _ _ _ _ _ _ _ _
      refine z_istore (ls1 := [some (.ref 50), some (zi 4), some (zi i), some (zl v), none, some (zi 0), none]) gi_252_6 rfl ?_
      refine z_iload5 gi_252_8 ?_
      refine z_if_geT gi_252_10 zr_0 (by decide) ?_
      refine z_pushJ gp_252_16 ?_
      refine z_aload0 gi_252_18 ?_
      refine z_getR (r := 83) gi_252_19 gk_50 (hRr _ rm_50_58 (by decide)) ?_
      refine z_iload1 gi_252_22 ?_
      refine z_iald (v := (-5)) gi_252_23 gk_83 (by decide) (by decide) ((e83.trans (by rw [hso]; rfl))) ?_
      refine z_isub (e := 3) gi_252_24 rfl ?_
      refine z_istore (ls1 := [some (.ref 50), some (zi 4), some (zi i), some (zl v), none, some (zi 0), some (zi 3)]) gi_252_25 rfl ?_
      refine z_aload0 gi_252_27 ?_
      refine z_getR (r := 85) gi_252_28 gk_50 (hRr _ rm_50_60 (by decide)) ?_
      refine z_pushJ gp_252_31 ?_
      refine z_iload1 gi_252_33 ?_
      refine z_imul (e := 240) gi_252_34 rfl ?_
      refine z_iload2 gi_252_35 ?_
      refine z_iadd (e := 240 + i) gi_252_36 rfl ?_
      refine z_iload6 gi_252_37 ?_
      refine z_if_neT gi_252_39 zr_3 (by decide) ?_
      refine z_iload6 gi_252_49 ?_
      refine z_pushJ gp_252_51 ?_
      refine z_icmp_neT gi_252_52 zr_3 zr_1 (by decide) ?_
      refine z_iload6 gi_252_62 ?_
      refine z_pushJ gp_252_64 ?_
      refine z_icmp_neT gi_252_65 zr_3 zr_2 (by decide) ?_
      refine z_iload6 gi_252_74 ?_
      refine z_pushJ gp_252_76 ?_
      refine z_icmp_neF gi_252_77 zr_3 zr_3 (by decide) ?_
      refine z_lload3 gi_252_80 ?_
      refine z_goto gi_252_81 ?_
      refine z_last (e := v) gi_252_95 gk_85 (by decide) (by omega) rfl ?_
      refine z_pushJ gp_252_96 ?_
      refine z_iret gi_252_97 gr_252 ?_
      refine ⟨?_, ?_⟩
      · first | rfl | exact congrArg (fun v => some (zi v)) (by omega) | (exfalso; omega)
      · have hk := (zK_r (k := (kL [] [])) (A := J))
        have hkm := (zK_x (a := 85) (x := 240 + i) (v := v) (zK_x (a := 47) (x := i) (v := v) (zK_r (k := (kL [47, 85] [])) (A := M)) rfl) rfl)
        exact ⟨hR, hG, RelY_k hk (by repeat' constructor) (fun p => by repeat' constructor) hY, RelD_k hk (by repeat' constructor) (fun p => by repeat' constructor) hD, RelP_k hk (by repeat' constructor) (fun p => by repeat' constructor) hP, RelC_k hk (by repeat' constructor) (fun p => by repeat' constructor) hC, RelA_k hk (by repeat' constructor) (fun p => by repeat' constructor) hAc, (RelS_one (J := J) (M := M) (c := 4) (fun t t1 t2 te => by have q : t = 0 ∨ t = 1 ∨ t = 2 ∨ t = 3 ∨ t = 4 ∨ t = 5 := (by omega); rcases q with rfl | rfl | rfl | rfl | rfl | rfl <;> first | exact absurd rfl te | exact ⟨fun j => rfl, rfl, rfl⟩) (fun t t1 t2 te => by have q : t = 0 ∨ t = 1 ∨ t = 2 ∨ t = 3 ∨ t = 4 ∨ t = 5 := (by omega); rcases q with rfl | rfl | rfl | rfl | rfl | rfl <;> first | exact absurd rfl te | exact ⟨fun j => rfl, fun j j1 j2 => (zU_x (by omega)).trans (zU_n (by decide))⟩) rfl (show RelS1 _ _ _ from ⟨(hS 4 (by decide) (by decide)).1, (hS 4 (by decide) (by decide)).2.1, s3, s4, (hS 4 (by decide) (by decide)).2.2.2.2.1, fun _ => ⟨s7.symm, fun k k1 k2 => by show (if k = i then v else M 47 k) = (if 240 + k = 240 + i then v else M 85 (240 + k)); by_cases e : k = i; rw [if_pos e, if_pos (by omega)]; rw [if_neg e, if_neg (by omega)]; exact s8 k k1 k2, (fun hq => absurd (Eq.trans (Eq.symm hq) hso) (by decide))⟩⟩) hS), RelT_k hk (by repeat' constructor) (fun p => by repeat' constructor) hTp, RelX_k hk (by repeat' constructor) (fun p => by repeat' constructor) hX, RelW_k hk ⟨rfl, rfl⟩ trivial hW⟩
theorem st_put_424 {X : Nat × (Nat → Int32)} {d : Nat} {J M : zA} {R : zR} {i v : Int} (hr : Rel X J M R) (hi : -2147483648 ≤ i ∧ i < 2147483648) (hv : -9223372036854775808 ≤ v ∧ v < 9223372036854775808) (hh : J 46 0 = 2) (hso : J 46 2 = 4) : zW X (d + 20) 138 0 (gEn 138 [(.ref 0), (zi 4), (zi i), (zl v)]) [] J M R (stP X (d + 20) 252 [(zi 4), (zi i), (zl v)]) := by
  have hr0 := hr
  obtain ⟨hR, hG, hY, hD, hP, hC, hAc, hS, hTp, hX, hW⟩ := hr0
  have hRr : zRoR R := zRoR_of hR
  have e83 : J 83 4 = -2 - J 46 2 := (hS 4 (by decide) (by decide)).1.symm.trans (cH_2 hh)
  have s3 : 0 ≤ J 46 2 ∧ J 46 2 ≤ 4 := (hS 4 (by decide) (by decide)).2.2.1
  have s4 : 0 ≤ J 46 3 ∧ J 46 3 ≤ 60 := (hS 4 (by decide) (by decide)).2.2.2.1
  have s6 := (hS 4 (by decide) (by decide)).2.2.2.2.2 hh
  have s7 : J 84 4 = J 46 3 := s6.1.symm
  have s8 : ∀ i, 0 ≤ i → i < J 46 3 → M 47 i = M 85 (240 + i) := s6.2.1
  show zW _ _ _ _ [some (.ref 0), some (zi 4), some (zi i), some (zl v), none, none] _ _ _ _ _
  refine z_iload1 gi_138_0 ?_
  refine z_cS1 gi_138_1 (Nat.le_of_ble_eq_true rfl) gc_143_I ?_
  refine z_iload0 gi_143_0 ?_
  refine z_if_ltF gi_143_1 zr_4 (by decide) ?_
  refine z_iload0 gi_143_4 ?_
  refine z_pushJ gp_143_5 ?_
  refine z_icmp_geF gi_143_7 zr_4 zr_6 (by decide) ?_
  refine z_pushJ gp_143_10 ?_
  refine z_goto gi_143_11 ?_
  refine z_bret1 gi_143_15 gr_143 ?_
  show zW _ _ _ _ _ _ _ _ _ _
  refine z_if_neT gi_138_4 zr_1 (by decide) ?_
  refine z_aload0 gi_138_9 ?_
  refine z_getR (r := 37) gi_138_10 gk_0 (hR _ rm_0_11) ?_
  refine z_iload1 gi_138_13 ?_
  refine z_aald (r := 46) gi_138_14 rfl (by decide) (by decide) (hR _ rm_37_4) ?_
  refine z_iload2 gi_138_15 ?_
  refine z_cV1 gi_138_16 gk_46 go_70 (Nat.le_of_ble_eq_true rfl) gc_70_RI ?_
  refine z_aload0 gi_70_0 ?_
  refine z_getI (v := 2) gi_70_1 gk_46 (hh) ?_
  refine z_if_neT gi_70_4 zr_2 (by decide) ?_
  refine z_aload0 gi_70_10 ?_
  refine z_getI (v := 2) gi_70_11 gk_46 (hh) ?_
  refine z_pushJ gp_70_14 ?_
  refine z_icmp_eqT gi_70_15 zr_2 zr_2 (by decide) ?_
  refine z_iload1 gi_70_21 ?_
  refine z_if_lt gi_70_22 (by omega) (fun h1 => ?_) (fun h1 => ?_)
  · refine z_pushJ gp_70_37 ?_
    refine z_iret gi_70_39 gr_70 ?_
    show zW _ _ _ _ _ _ _ _ _ _
    refine z_istore (ls1 := [some (.ref 0), some (zi 4), some (zi i), some (zl v), none, some (zi (-13))]) gi_138_19 rfl ?_
    refine z_iload5 gi_138_21 ?_
    refine z_if_geF gi_138_23 zrn_13 (by decide) ?_
    refine z_iload5 gi_138_26 ?_
    refine z_iret gi_138_28 gr_138 ?_
    refine ⟨_, rfl, ?_⟩
    show zW _ _ _ _ [some (.ref 50), some (zi 4), some (zi i), some (zl v), none, none, none] _ _ _ _ _
    refine z_aload0 gi_252_0 ?_
    refine z_iload1 gi_252_1 ?_
    refine z_iload2 gi_252_2 ?_
    refine z_cV2 gi_252_3 gk_50 go_251 (Nat.le_of_ble_eq_true rfl) gc_251_RII ?_
    refine z_iload1 gi_251_0 ?_
    refine z_cS1 gi_251_1 (Nat.le_of_ble_eq_true rfl) gc_248_I ?_
    refine z_iload0 gi_248_0 ?_
    refine z_pushJ gp_248_1 ?_
    refine z_pushJ gp_248_2 ?_
    refine z_cS3 gi_248_3 (Nat.le_of_ble_eq_true rfl) gc_148_III ?_
    refine z_iload0 gi_148_0 ?_
    refine z_iload1 gi_148_1 ?_
    refine z_icmp_ltF gi_148_2 zr_4 zr_0 (by decide) ?_
    refine z_iload0 gi_148_5 ?_
    refine z_iload2 gi_148_6 ?_
    refine z_icmp_gtF gi_148_7 zr_4 zr_5 (by decide) ?_
    refine z_pushJ gp_148_10 ?_
    refine z_goto gi_148_11 ?_
    refine z_bret1 gi_148_15 gr_148 ?_
    show zW _ _ _ _ _ _ _ _ _ _
    refine z_bret1 gi_248_6 gr_248 ?_
    show zW _ _ _ _ _ _ _ _ _ _
    refine z_if_neT gi_251_4 zr_1 (by decide) ?_
    refine z_aload0 gi_251_9 ?_
    refine z_getR (r := 83) gi_251_10 gk_50 (hRr _ rm_50_58 (by decide)) ?_
    refine z_iload1 gi_251_13 ?_
    refine z_iald (v := (-6)) gi_251_14 gk_83 (by decide) (by decide) ((e83.trans (by rw [hso]; rfl))) ?_
    refine z_pushJ gp_251_15 ?_
    refine z_icmp_neT gi_251_16 zrn_6 zrn_1 (by decide) ?_
    refine z_aload0 gi_251_22 ?_
    refine z_getR (r := 83) gi_251_23 gk_50 (hRr _ rm_50_58 (by decide)) ?_
    refine z_iload1 gi_251_26 ?_
    refine z_iald (v := (-6)) gi_251_27 gk_83 (by decide) (by decide) ((e83.trans (by rw [hso]; rfl))) ?_
    refine z_if_ltT gi_251_28 zrn_6 (by decide) ?_
    refine z_iload2 gi_251_34 ?_
    refine z_pushJ gp_251_35 ?_
    refine z_aload0 gi_251_36 ?_
    refine z_getR (r := 84) gi_251_37 gk_50 (hRr _ rm_50_59 (by decide)) ?_
    refine z_iload1 gi_251_40 ?_
    refine z_iald (v := J 46 3) gi_251_41 gk_84 (by decide) (by decide) (s7) ?_
    refine z_pushJ gp_251_42 ?_
    refine z_isub (e := (J 46 3) - 1) gi_251_43 rfl ?_
    refine z_cS3 gi_251_44 (Nat.le_of_ble_eq_true rfl) gc_148_III ?_
    refine z_iload0 gi_148_0 ?_
    refine z_iload1 gi_148_1 ?_
    refine z_icmp_ltT gi_148_2 (by omega) zr_0 (by omega) ?_
    refine z_pushJ gp_148_14 ?_
    refine z_bret0 gi_148_15 gr_148 ?_
    show zW _ _ _ _ _ _ _ _ _ _
    refine z_if_eqT gi_251_47 zr_0 (by decide) ?_
    refine z_pushJ gp_251_54 ?_
    refine z_iret gi_251_56 gr_251 ?_
    show zW _ _ _ _ _ _ _ _ _ _
    refine z_istore (ls1 := [some (.ref 50), some (zi 4), some (zi i), some (zl v), none, some (zi (-13)), none]) gi_252_6 rfl ?_
    refine z_iload5 gi_252_8 ?_
    refine z_if_geF gi_252_10 zrn_13 (by decide) ?_
    refine z_iload5 gi_252_13 ?_
    refine z_iret gi_252_15 gr_252 ?_
    refine ⟨?_, ?_⟩
    · first | rfl | exact congrArg (fun v => some (zi v)) (by omega) | (exfalso; omega)
    · exact hr
  · refine z_iload1 gi_70_25 ?_
    refine z_aload0 gi_70_26 ?_
    refine z_getI (v := J 46 3) gi_70_27 gk_46 (rfl) ?_
    refine z_icmp_ge gi_70_30 (by omega) (by omega) (fun h2 => ?_) (fun h2 => ?_)
    · refine z_pushJ gp_70_37 ?_
      refine z_iret gi_70_39 gr_70 ?_
      show zW _ _ _ _ _ _ _ _ _ _
      refine z_istore (ls1 := [some (.ref 0), some (zi 4), some (zi i), some (zl v), none, some (zi (-13))]) gi_138_19 rfl ?_
      refine z_iload5 gi_138_21 ?_
      refine z_if_geF gi_138_23 zrn_13 (by decide) ?_
      refine z_iload5 gi_138_26 ?_
      refine z_iret gi_138_28 gr_138 ?_
      refine ⟨_, rfl, ?_⟩
      show zW _ _ _ _ [some (.ref 50), some (zi 4), some (zi i), some (zl v), none, none, none] _ _ _ _ _
      refine z_aload0 gi_252_0 ?_
      refine z_iload1 gi_252_1 ?_
      refine z_iload2 gi_252_2 ?_
      refine z_cV2 gi_252_3 gk_50 go_251 (Nat.le_of_ble_eq_true rfl) gc_251_RII ?_
      refine z_iload1 gi_251_0 ?_
      refine z_cS1 gi_251_1 (Nat.le_of_ble_eq_true rfl) gc_248_I ?_
      refine z_iload0 gi_248_0 ?_
      refine z_pushJ gp_248_1 ?_
      refine z_pushJ gp_248_2 ?_
      refine z_cS3 gi_248_3 (Nat.le_of_ble_eq_true rfl) gc_148_III ?_
      refine z_iload0 gi_148_0 ?_
      refine z_iload1 gi_148_1 ?_
      refine z_icmp_ltF gi_148_2 zr_4 zr_0 (by decide) ?_
      refine z_iload0 gi_148_5 ?_
      refine z_iload2 gi_148_6 ?_
      refine z_icmp_gtF gi_148_7 zr_4 zr_5 (by decide) ?_
      refine z_pushJ gp_148_10 ?_
      refine z_goto gi_148_11 ?_
      refine z_bret1 gi_148_15 gr_148 ?_
      show zW _ _ _ _ _ _ _ _ _ _
      refine z_bret1 gi_248_6 gr_248 ?_
      show zW _ _ _ _ _ _ _ _ _ _
      refine z_if_neT gi_251_4 zr_1 (by decide) ?_
      refine z_aload0 gi_251_9 ?_
      refine z_getR (r := 83) gi_251_10 gk_50 (hRr _ rm_50_58 (by decide)) ?_
      refine z_iload1 gi_251_13 ?_
      refine z_iald (v := (-6)) gi_251_14 gk_83 (by decide) (by decide) ((e83.trans (by rw [hso]; rfl))) ?_
      refine z_pushJ gp_251_15 ?_
      refine z_icmp_neT gi_251_16 zrn_6 zrn_1 (by decide) ?_
      refine z_aload0 gi_251_22 ?_
      refine z_getR (r := 83) gi_251_23 gk_50 (hRr _ rm_50_58 (by decide)) ?_
      refine z_iload1 gi_251_26 ?_
      refine z_iald (v := (-6)) gi_251_27 gk_83 (by decide) (by decide) ((e83.trans (by rw [hso]; rfl))) ?_
      refine z_if_ltT gi_251_28 zrn_6 (by decide) ?_
      refine z_iload2 gi_251_34 ?_
      refine z_pushJ gp_251_35 ?_
      refine z_aload0 gi_251_36 ?_
      refine z_getR (r := 84) gi_251_37 gk_50 (hRr _ rm_50_59 (by decide)) ?_
      refine z_iload1 gi_251_40 ?_
      refine z_iald (v := J 46 3) gi_251_41 gk_84 (by decide) (by decide) (s7) ?_
      refine z_pushJ gp_251_42 ?_
      refine z_isub (e := (J 46 3) - 1) gi_251_43 rfl ?_
      refine z_cS3 gi_251_44 (Nat.le_of_ble_eq_true rfl) gc_148_III ?_
      refine z_iload0 gi_148_0 ?_
      refine z_iload1 gi_148_1 ?_
      refine z_icmp_ltF gi_148_2 (by omega) zr_0 (by omega) ?_
      refine z_iload0 gi_148_5 ?_
      refine z_iload2 gi_148_6 ?_
      refine z_icmp_gtT gi_148_7 (by omega) (by omega) (by omega) ?_
      refine z_pushJ gp_148_14 ?_
      refine z_bret0 gi_148_15 gr_148 ?_
      show zW _ _ _ _ _ _ _ _ _ _
      refine z_if_eqT gi_251_47 zr_0 (by decide) ?_
      refine z_pushJ gp_251_54 ?_
      refine z_iret gi_251_56 gr_251 ?_
      show zW _ _ _ _ _ _ _ _ _ _
      refine z_istore (ls1 := [some (.ref 50), some (zi 4), some (zi i), some (zl v), none, some (zi (-13)), none]) gi_252_6 rfl ?_
      refine z_iload5 gi_252_8 ?_
      refine z_if_geF gi_252_10 zrn_13 (by decide) ?_
      refine z_iload5 gi_252_13 ?_
      refine z_iret gi_252_15 gr_252 ?_
      refine ⟨?_, ?_⟩
      · first | rfl | exact congrArg (fun v => some (zi v)) (by omega) | (exfalso; omega)
      · exact hr
    · refine z_pushJ gp_70_33 ?_
      refine z_goto gi_70_34 ?_
      refine z_iret gi_70_39 gr_70 ?_
      show zW _ _ _ _ _ _ _ _ _ _
      refine z_istore (ls1 := [some (.ref 0), some (zi 4), some (zi i), some (zl v), none, some (zi 0)]) gi_138_19 rfl ?_
      refine z_iload5 gi_138_21 ?_
      refine z_if_geT gi_138_23 zr_0 (by decide) ?_
      refine z_aload0 gi_138_29 ?_
      refine z_getR (r := 37) gi_138_30 gk_0 (hR _ rm_0_11) ?_
      refine z_iload1 gi_138_33 ?_
      refine z_aald (r := 46) gi_138_34 rfl (by decide) (by decide) (hR _ rm_37_4) ?_
      refine z_iload2 gi_138_35 ?_
      refine z_lload3 gi_138_36 ?_
      refine z_callVi (As := [_, _]) (le := [some _, some _, some _, none]) gi_138_37 rfl gk_46 (Nat.le_of_ble_eq_true rfl) (Nat.le_of_ble_eq_true rfl) rfl ?_
      refine z_iload1 gi_73_0 ?_
      refine z_if_ltF gi_73_1 (by omega) (by omega) ?_
      refine z_iload1 gi_73_4 ?_
      refine z_aload0 gi_73_5 ?_
      refine z_getI (v := J 46 3) gi_73_6 gk_46 (rfl) ?_
      refine z_icmp_geF gi_73_9 (by omega) (by omega) (by omega) ?_
      refine z_aload0 gi_73_12 ?_
      refine z_getR (r := 47) gi_73_13 gk_46 (hR _ rm_46_4) ?_
      refine z_iload1 gi_73_16 ?_
      refine z_aload0 gi_73_17 ?_
      refine z_lload2 gi_73_18 ?_
      refine z_callVi (As := [_]) (le := [some _, some _, none]) gi_73_19 rfl gk_46 (Nat.le_of_ble_eq_true rfl) (Nat.le_of_ble_eq_true rfl) rfl ?_
      refine z_aload0 gi_74_0 ?_
      refine z_getI (v := 4) gi_74_1 gk_46 (hso) ?_
      refine z_swI (tg := 54) gi_74_4 (by decide) (T := [((0 : Int), 40), ((1 : Int), 45), ((2 : Int), 50), ((3 : Int), 66), ((4 : Int), 54)]) rfl (by decide) ?_
      refine z_lload1 gi_74_54 ?_
      refine z_pushL (z := 0) gi_74_55 rfl ?_
      refine z_lcmp_eq gi_74_56 gi_74_57 (by omega) (by omega) (fun h3 => ?_) (fun h3 => ?_)
      · refine z_pushL (z := 0) gi_74_64 rfl ?_
        refine z_lret gi_74_65 gr_74 ?_
        show zW _ _ _ _ _ _ _ _ _ _
        refine z_last (e := 0) gi_73_22 gk_47 (by decide) (by omega) rfl ?_
        refine z_vret gi_73_23 gr_73 ?_
        show zW _ _ _ _ _ _ _ _ _ _
        refine z_pushJ gp_138_40 ?_
        refine z_iret gi_138_41 gr_138 ?_
        refine ⟨_, rfl, ?_⟩
        show zW _ _ _ _ [some (.ref 50), some (zi 4), some (zi i), some (zl v), none, none, none] _ _ _ _ _
        refine z_aload0 gi_252_0 ?_
        refine z_iload1 gi_252_1 ?_
        refine z_iload2 gi_252_2 ?_
        refine z_cV2 gi_252_3 gk_50 go_251 (Nat.le_of_ble_eq_true rfl) gc_251_RII ?_
        refine z_iload1 gi_251_0 ?_
        refine z_cS1 gi_251_1 (Nat.le_of_ble_eq_true rfl) gc_248_I ?_
        refine z_iload0 gi_248_0 ?_
        refine z_pushJ gp_248_1 ?_
        refine z_pushJ gp_248_2 ?_
        refine z_cS3 gi_248_3 (Nat.le_of_ble_eq_true rfl) gc_148_III ?_
        refine z_iload0 gi_148_0 ?_
        refine z_iload1 gi_148_1 ?_
        refine z_icmp_ltF gi_148_2 zr_4 zr_0 (by decide) ?_
        refine z_iload0 gi_148_5 ?_
        refine z_iload2 gi_148_6 ?_
        refine z_icmp_gtF gi_148_7 zr_4 zr_5 (by decide) ?_
        refine z_pushJ gp_148_10 ?_
        refine z_goto gi_148_11 ?_
        refine z_bret1 gi_148_15 gr_148 ?_
        show zW _ _ _ _ _ _ _ _ _ _
        refine z_bret1 gi_248_6 gr_248 ?_
        show zW _ _ _ _ _ _ _ _ _ _
        refine z_if_neT gi_251_4 zr_1 (by decide) ?_
        refine z_aload0 gi_251_9 ?_
        refine z_getR (r := 83) gi_251_10 gk_50 (hRr _ rm_50_58 (by decide)) ?_
        refine z_iload1 gi_251_13 ?_
        refine z_iald (v := (-6)) gi_251_14 gk_83 (by decide) (by decide) ((e83.trans (by rw [hso]; rfl))) ?_
        refine z_pushJ gp_251_15 ?_
        refine z_icmp_neT gi_251_16 zrn_6 zrn_1 (by decide) ?_
        refine z_aload0 gi_251_22 ?_
        refine z_getR (r := 83) gi_251_23 gk_50 (hRr _ rm_50_58 (by decide)) ?_
        refine z_iload1 gi_251_26 ?_
        refine z_iald (v := (-6)) gi_251_27 gk_83 (by decide) (by decide) ((e83.trans (by rw [hso]; rfl))) ?_
        refine z_if_ltT gi_251_28 zrn_6 (by decide) ?_
        refine z_iload2 gi_251_34 ?_
        refine z_pushJ gp_251_35 ?_
        refine z_aload0 gi_251_36 ?_
        refine z_getR (r := 84) gi_251_37 gk_50 (hRr _ rm_50_59 (by decide)) ?_
        refine z_iload1 gi_251_40 ?_
        refine z_iald (v := J 46 3) gi_251_41 gk_84 (by decide) (by decide) (s7) ?_
        refine z_pushJ gp_251_42 ?_
        refine z_isub (e := (J 46 3) - 1) gi_251_43 rfl ?_
        refine z_cS3 gi_251_44 (Nat.le_of_ble_eq_true rfl) gc_148_III ?_
        refine z_iload0 gi_148_0 ?_
        refine z_iload1 gi_148_1 ?_
        refine z_icmp_ltF gi_148_2 (by omega) zr_0 (by omega) ?_
        refine z_iload0 gi_148_5 ?_
        refine z_iload2 gi_148_6 ?_
        refine z_icmp_gtF gi_148_7 (by omega) (by omega) (by omega) ?_
        refine z_pushJ gp_148_10 ?_
        refine z_goto gi_148_11 ?_
        refine z_bret1 gi_148_15 gr_148 ?_
        show zW _ _ _ _ _ _ _ _ _ _
        refine z_if_eqF gi_251_47 zr_1 (by decide) ?_
        refine z_pushJ gp_251_50 ?_
        refine z_goto gi_251_51 ?_
        refine z_iret gi_251_56 gr_251 ?_
        show zW _ _ _ _ _ _ _ _ _ _
        refine z_istore (ls1 := [some (.ref 50), some (zi 4), some (zi i), some (zl v), none, some (zi 0), none]) gi_252_6 rfl ?_
        refine z_iload5 gi_252_8 ?_
        refine z_if_geT gi_252_10 zr_0 (by decide) ?_
        refine z_pushJ gp_252_16 ?_
        refine z_aload0 gi_252_18 ?_
        refine z_getR (r := 83) gi_252_19 gk_50 (hRr _ rm_50_58 (by decide)) ?_
        refine z_iload1 gi_252_22 ?_
        refine z_iald (v := (-6)) gi_252_23 gk_83 (by decide) (by decide) ((e83.trans (by rw [hso]; rfl))) ?_
        refine z_isub (e := 4) gi_252_24 rfl ?_
        refine z_istore (ls1 := [some (.ref 50), some (zi 4), some (zi i), some (zl v), none, some (zi 0), some (zi 4)]) gi_252_25 rfl ?_
        refine z_aload0 gi_252_27 ?_
        refine z_getR (r := 85) gi_252_28 gk_50 (hRr _ rm_50_60 (by decide)) ?_
        refine z_pushJ gp_252_31 ?_
        refine z_iload1 gi_252_33 ?_
        refine z_imul (e := 240) gi_252_34 rfl ?_
        refine z_iload2 gi_252_35 ?_
        refine z_iadd (e := 240 + i) gi_252_36 rfl ?_
        refine z_iload6 gi_252_37 ?_
        refine z_if_neT gi_252_39 zr_4 (by decide) ?_
        refine z_iload6 gi_252_49 ?_
        refine z_pushJ gp_252_51 ?_
        refine z_icmp_neT gi_252_52 zr_4 zr_1 (by decide) ?_
        refine z_iload6 gi_252_62 ?_
        refine z_pushJ gp_252_64 ?_
        refine z_icmp_neT gi_252_65 zr_4 zr_2 (by decide) ?_
        refine z_iload6 gi_252_74 ?_
        refine z_pushJ gp_252_76 ?_
        refine z_icmp_neT gi_252_77 zr_4 zr_3 (by decide) ?_
        refine z_lload3 gi_252_84 ?_
        refine z_pushL (z := 0) gi_252_85 rfl ?_
        refine z_lcmp_eq gi_252_86 gi_252_87 (by omega) (by omega) (fun h4 => ?_) (fun h4 => ?_)
        · refine z_pushL (z := 0) gi_252_94 rfl ?_
          refine z_last (e := 0) gi_252_95 gk_85 (by decide) (by omega) rfl ?_
          refine z_pushJ gp_252_96 ?_
          refine z_iret gi_252_97 gr_252 ?_
          refine ⟨?_, ?_⟩
          · first | rfl | exact congrArg (fun v => some (zi v)) (by omega) | (exfalso; omega)
          · have hk := (zK_r (k := (kL [] [])) (A := J))
            have hkm := (zK_x (a := 85) (x := 240 + i) (v := 0) (zK_x (a := 47) (x := i) (v := 0) (zK_r (k := (kL [47, 85] [])) (A := M)) rfl) rfl)
            exact ⟨hR, hG, RelY_k hk (by repeat' constructor) (fun p => by repeat' constructor) hY, RelD_k hk (by repeat' constructor) (fun p => by repeat' constructor) hD, RelP_k hk (by repeat' constructor) (fun p => by repeat' constructor) hP, RelC_k hk (by repeat' constructor) (fun p => by repeat' constructor) hC, RelA_k hk (by repeat' constructor) (fun p => by repeat' constructor) hAc, (RelS_one (J := J) (M := M) (c := 4) (fun t t1 t2 te => by have q : t = 0 ∨ t = 1 ∨ t = 2 ∨ t = 3 ∨ t = 4 ∨ t = 5 := (by omega); rcases q with rfl | rfl | rfl | rfl | rfl | rfl <;> first | exact absurd rfl te | exact ⟨fun j => rfl, rfl, rfl⟩) (fun t t1 t2 te => by have q : t = 0 ∨ t = 1 ∨ t = 2 ∨ t = 3 ∨ t = 4 ∨ t = 5 := (by omega); rcases q with rfl | rfl | rfl | rfl | rfl | rfl <;> first | exact absurd rfl te | exact ⟨fun j => rfl, fun j j1 j2 => (zU_x (by omega)).trans (zU_n (by decide))⟩) rfl (show RelS1 _ _ _ from ⟨(hS 4 (by decide) (by decide)).1, (hS 4 (by decide) (by decide)).2.1, s3, s4, (hS 4 (by decide) (by decide)).2.2.2.2.1, fun _ => ⟨s7.symm, fun k k1 k2 => by show (if k = i then 0 else M 47 k) = (if 240 + k = 240 + i then 0 else M 85 (240 + k)); by_cases e : k = i; rw [if_pos e, if_pos (by omega)]; rw [if_neg e, if_neg (by omega)]; exact s8 k k1 k2, (fun hq => absurd (Eq.trans (Eq.symm hq) hso) (by decide))⟩⟩) hS), RelT_k hk (by repeat' constructor) (fun p => by repeat' constructor) hTp, RelX_k hk (by repeat' constructor) (fun p => by repeat' constructor) hX, RelW_k hk ⟨rfl, rfl⟩ trivial hW⟩
        · refine z_pushL (z := 1) gi_252_90 rfl ?_
          refine z_goto gi_252_91 ?_
          refine z_last (e := 1) gi_252_95 gk_85 (by decide) (by omega) rfl ?_
          refine z_pushJ gp_252_96 ?_
          refine z_iret gi_252_97 gr_252 ?_
          refine ⟨?_, ?_⟩
          · first | rfl | exact congrArg (fun v => some (zi v)) (by omega) | (exfalso; omega)
          · exfalso
            omega
      · refine z_pushL (z := 1) gi_74_60 rfl ?_
        refine z_goto gi_74_61 ?_
        refine z_lret gi_74_65 gr_74 ?_
        show zW _ _ _ _ _ _ _ _ _ _
        refine z_last (e := 1) gi_73_22 gk_47 (by decide) (by omega) rfl ?_
        refine z_vret gi_73_23 gr_73 ?_
        show zW _ _ _ _ _ _ _ _ _ _
        refine z_pushJ gp_138_40 ?_
        refine z_iret gi_138_41 gr_138 ?_
        refine ⟨_, rfl, ?_⟩
        show zW _ _ _ _ [some (.ref 50), some (zi 4), some (zi i), some (zl v), none, none, none] _ _ _ _ _
        refine z_aload0 gi_252_0 ?_
        refine z_iload1 gi_252_1 ?_
        refine z_iload2 gi_252_2 ?_
        refine z_cV2 gi_252_3 gk_50 go_251 (Nat.le_of_ble_eq_true rfl) gc_251_RII ?_
        refine z_iload1 gi_251_0 ?_
        refine z_cS1 gi_251_1 (Nat.le_of_ble_eq_true rfl) gc_248_I ?_
        refine z_iload0 gi_248_0 ?_
        refine z_pushJ gp_248_1 ?_
        refine z_pushJ gp_248_2 ?_
        refine z_cS3 gi_248_3 (Nat.le_of_ble_eq_true rfl) gc_148_III ?_
        refine z_iload0 gi_148_0 ?_
        refine z_iload1 gi_148_1 ?_
        refine z_icmp_ltF gi_148_2 zr_4 zr_0 (by decide) ?_
        refine z_iload0 gi_148_5 ?_
        refine z_iload2 gi_148_6 ?_
        refine z_icmp_gtF gi_148_7 zr_4 zr_5 (by decide) ?_
        refine z_pushJ gp_148_10 ?_
        refine z_goto gi_148_11 ?_
        refine z_bret1 gi_148_15 gr_148 ?_
        show zW _ _ _ _ _ _ _ _ _ _
        refine z_bret1 gi_248_6 gr_248 ?_
        show zW _ _ _ _ _ _ _ _ _ _
        refine z_if_neT gi_251_4 zr_1 (by decide) ?_
        refine z_aload0 gi_251_9 ?_
        refine z_getR (r := 83) gi_251_10 gk_50 (hRr _ rm_50_58 (by decide)) ?_
        refine z_iload1 gi_251_13 ?_
        refine z_iald (v := (-6)) gi_251_14 gk_83 (by decide) (by decide) ((e83.trans (by rw [hso]; rfl))) ?_
        refine z_pushJ gp_251_15 ?_
        refine z_icmp_neT gi_251_16 zrn_6 zrn_1 (by decide) ?_
        refine z_aload0 gi_251_22 ?_
        refine z_getR (r := 83) gi_251_23 gk_50 (hRr _ rm_50_58 (by decide)) ?_
        refine z_iload1 gi_251_26 ?_
        refine z_iald (v := (-6)) gi_251_27 gk_83 (by decide) (by decide) ((e83.trans (by rw [hso]; rfl))) ?_
        refine z_if_ltT gi_251_28 zrn_6 (by decide) ?_
        refine z_iload2 gi_251_34 ?_
        refine z_pushJ gp_251_35 ?_
        refine z_aload0 gi_251_36 ?_
        refine z_getR (r := 84) gi_251_37 gk_50 (hRr _ rm_50_59 (by decide)) ?_
        refine z_iload1 gi_251_40 ?_
        refine z_iald (v := J 46 3) gi_251_41 gk_84 (by decide) (by decide) (s7) ?_
        refine z_pushJ gp_251_42 ?_
        refine z_isub (e := (J 46 3) - 1) gi_251_43 rfl ?_
        refine z_cS3 gi_251_44 (Nat.le_of_ble_eq_true rfl) gc_148_III ?_
        refine z_iload0 gi_148_0 ?_
        refine z_iload1 gi_148_1 ?_
        refine z_icmp_ltF gi_148_2 (by omega) zr_0 (by omega) ?_
        refine z_iload0 gi_148_5 ?_
        refine z_iload2 gi_148_6 ?_
        refine z_icmp_gtF gi_148_7 (by omega) (by omega) (by omega) ?_
        refine z_pushJ gp_148_10 ?_
        refine z_goto gi_148_11 ?_
        refine z_bret1 gi_148_15 gr_148 ?_
        show zW _ _ _ _ _ _ _ _ _ _
        refine z_if_eqF gi_251_47 zr_1 (by decide) ?_
        refine z_pushJ gp_251_50 ?_
        refine z_goto gi_251_51 ?_
        refine z_iret gi_251_56 gr_251 ?_
        show zW _ _ _ _ _ _ _ _ _ _
        refine z_istore (ls1 := [some (.ref 50), some (zi 4), some (zi i), some (zl v), none, some (zi 0), none]) gi_252_6 rfl ?_
        refine z_iload5 gi_252_8 ?_
        refine z_if_geT gi_252_10 zr_0 (by decide) ?_
        refine z_pushJ gp_252_16 ?_
        refine z_aload0 gi_252_18 ?_
        refine z_getR (r := 83) gi_252_19 gk_50 (hRr _ rm_50_58 (by decide)) ?_
        refine z_iload1 gi_252_22 ?_
        refine z_iald (v := (-6)) gi_252_23 gk_83 (by decide) (by decide) ((e83.trans (by rw [hso]; rfl))) ?_
        refine z_isub (e := 4) gi_252_24 rfl ?_
        refine z_istore (ls1 := [some (.ref 50), some (zi 4), some (zi i), some (zl v), none, some (zi 0), some (zi 4)]) gi_252_25 rfl ?_
        refine z_aload0 gi_252_27 ?_
        refine z_getR (r := 85) gi_252_28 gk_50 (hRr _ rm_50_60 (by decide)) ?_
        refine z_pushJ gp_252_31 ?_
        refine z_iload1 gi_252_33 ?_
        refine z_imul (e := 240) gi_252_34 rfl ?_
        refine z_iload2 gi_252_35 ?_
        refine z_iadd (e := 240 + i) gi_252_36 rfl ?_
        refine z_iload6 gi_252_37 ?_
        refine z_if_neT gi_252_39 zr_4 (by decide) ?_
        refine z_iload6 gi_252_49 ?_
        refine z_pushJ gp_252_51 ?_
        refine z_icmp_neT gi_252_52 zr_4 zr_1 (by decide) ?_
        refine z_iload6 gi_252_62 ?_
        refine z_pushJ gp_252_64 ?_
        refine z_icmp_neT gi_252_65 zr_4 zr_2 (by decide) ?_
        refine z_iload6 gi_252_74 ?_
        refine z_pushJ gp_252_76 ?_
        refine z_icmp_neT gi_252_77 zr_4 zr_3 (by decide) ?_
        refine z_lload3 gi_252_84 ?_
        refine z_pushL (z := 0) gi_252_85 rfl ?_
        refine z_lcmp_eq gi_252_86 gi_252_87 (by omega) (by omega) (fun h4 => ?_) (fun h4 => ?_)
        · refine z_pushL (z := 0) gi_252_94 rfl ?_
          refine z_last (e := 0) gi_252_95 gk_85 (by decide) (by omega) rfl ?_
          refine z_pushJ gp_252_96 ?_
          refine z_iret gi_252_97 gr_252 ?_
          refine ⟨?_, ?_⟩
          · first | rfl | exact congrArg (fun v => some (zi v)) (by omega) | (exfalso; omega)
          · exfalso
            omega
        · refine z_pushL (z := 1) gi_252_90 rfl ?_
          refine z_goto gi_252_91 ?_
          refine z_last (e := 1) gi_252_95 gk_85 (by decide) (by omega) rfl ?_
          refine z_pushJ gp_252_96 ?_
          refine z_iret gi_252_97 gr_252 ?_
          refine ⟨?_, ?_⟩
          · first | rfl | exact congrArg (fun v => some (zi v)) (by omega) | (exfalso; omega)
          · have hk := (zK_r (k := (kL [] [])) (A := J))
            have hkm := (zK_x (a := 85) (x := 240 + i) (v := 1) (zK_x (a := 47) (x := i) (v := 1) (zK_r (k := (kL [47, 85] [])) (A := M)) rfl) rfl)
            exact ⟨hR, hG, RelY_k hk (by repeat' constructor) (fun p => by repeat' constructor) hY, RelD_k hk (by repeat' constructor) (fun p => by repeat' constructor) hD, RelP_k hk (by repeat' constructor) (fun p => by repeat' constructor) hP, RelC_k hk (by repeat' constructor) (fun p => by repeat' constructor) hC, RelA_k hk (by repeat' constructor) (fun p => by repeat' constructor) hAc, (RelS_one (J := J) (M := M) (c := 4) (fun t t1 t2 te => by have q : t = 0 ∨ t = 1 ∨ t = 2 ∨ t = 3 ∨ t = 4 ∨ t = 5 := (by omega); rcases q with rfl | rfl | rfl | rfl | rfl | rfl <;> first | exact absurd rfl te | exact ⟨fun j => rfl, rfl, rfl⟩) (fun t t1 t2 te => by have q : t = 0 ∨ t = 1 ∨ t = 2 ∨ t = 3 ∨ t = 4 ∨ t = 5 := (by omega); rcases q with rfl | rfl | rfl | rfl | rfl | rfl <;> first | exact absurd rfl te | exact ⟨fun j => rfl, fun j j1 j2 => (zU_x (by omega)).trans (zU_n (by decide))⟩) rfl (show RelS1 _ _ _ from ⟨(hS 4 (by decide) (by decide)).1, (hS 4 (by decide) (by decide)).2.1, s3, s4, (hS 4 (by decide) (by decide)).2.2.2.2.1, fun _ => ⟨s7.symm, fun k k1 k2 => by show (if k = i then 1 else M 47 k) = (if 240 + k = 240 + i then 1 else M 85 (240 + k)); by_cases e : k = i; rw [if_pos e, if_pos (by omega)]; rw [if_neg e, if_neg (by omega)]; exact s8 k k1 k2, (fun hq => absurd (Eq.trans (Eq.symm hq) hso) (by decide))⟩⟩) hS), RelT_k hk (by repeat' constructor) (fun p => by repeat' constructor) hTp, RelX_k hk (by repeat' constructor) (fun p => by repeat' constructor) hX, RelW_k hk ⟨rfl, rfl⟩ trivial hW⟩
theorem st_element_50 {X : Nat × (Nat → Int32)} {d : Nat} {J M : zA} {R : zR} {i : Int} (hr : Rel X J M R) (hi : -2147483648 ≤ i ∧ i < 2147483648) (hh : J 48 0 = 0) : zW X (d + 20) 139 0 (gEn 139 [(.ref 0), (zi 5), (zi i)]) [] J M R (stL X (d + 20) 253 [(zi 5), (zi i)]) := by
  have hr0 := hr
  obtain ⟨hR, hG, hY, hD, hP, hC, hAc, hS, hTp, hX, hW⟩ := hr0
  have hRr : zRoR R := zRoR_of hR
  have hA0 := hAc
  obtain ⟨a1, a2, a3, a4, a5, a6⟩ := hA0
  have e83 : J 83 5 = -1 := (hS 5 (by decide) (by decide)).1.symm.trans (cH_0 hh)
  have s3 : 0 ≤ J 48 2 ∧ J 48 2 ≤ 4 := (hS 5 (by decide) (by decide)).2.2.1
  have s4 : 0 ≤ J 48 3 ∧ J 48 3 ≤ 60 := (hS 5 (by decide) (by decide)).2.2.2.1
  show zW _ _ _ _ [some (.ref 0), some (zi 5), some (zi i)] _ _ _ _ _
  refine z_iload1 gi_139_0 ?_
  refine z_cS1 gi_139_1 (Nat.le_of_ble_eq_true rfl) gc_143_I ?_
  refine z_iload0 gi_143_0 ?_
  refine z_if_ltF gi_143_1 zr_5 (by decide) ?_
  refine z_iload0 gi_143_4 ?_
  refine z_pushJ gp_143_5 ?_
  refine z_icmp_geF gi_143_7 zr_5 zr_6 (by decide) ?_
  refine z_pushJ gp_143_10 ?_
  refine z_goto gi_143_11 ?_
  refine z_bret1 gi_143_15 gr_143 ?_
  show zW _ _ _ _ _ _ _ _ _ _
  refine z_if_eqF gi_139_4 zr_1 (by decide) ?_
  refine z_aload0 gi_139_7 ?_
  refine z_getR (r := 37) gi_139_8 gk_0 (hR _ rm_0_11) ?_
  refine z_iload1 gi_139_11 ?_
  refine z_aald (r := 48) gi_139_12 rfl (by decide) (by decide) (hR _ rm_37_5) ?_
  refine z_iload2 gi_139_13 ?_
  refine z_cV1 gi_139_14 gk_48 go_70 (Nat.le_of_ble_eq_true rfl) gc_70_RI ?_
  refine z_aload0 gi_70_0 ?_
  refine z_getI (v := 0) gi_70_1 gk_48 (hh) ?_
  refine z_if_neF gi_70_4 zr_0 (by decide) ?_
  refine z_pushJ gp_70_7 ?_
  refine z_iret gi_70_9 gr_70 ?_
  show zW _ _ _ _ _ _ _ _ _ _
  refine z_if_geF gi_139_17 zrn_11 (by decide) ?_
  refine z_pushL (z := (-9223372036854775808)) gi_139_20 rfl ?_
  refine z_lret gi_139_23 gr_139 ?_
  refine ⟨_, rfl, ?_⟩
  show zW _ _ _ _ [some (.ref 50), some (zi 5), some (zi i)] _ _ _ _ _
  refine z_aload0 gi_253_0 ?_
  refine z_iload1 gi_253_1 ?_
  refine z_iload2 gi_253_2 ?_
  refine z_cV2 gi_253_3 gk_50 go_251 (Nat.le_of_ble_eq_true rfl) gc_251_RII ?_
  refine z_iload1 gi_251_0 ?_
  refine z_cS1 gi_251_1 (Nat.le_of_ble_eq_true rfl) gc_248_I ?_
  refine z_iload0 gi_248_0 ?_
  refine z_pushJ gp_248_1 ?_
  refine z_pushJ gp_248_2 ?_
  refine z_cS3 gi_248_3 (Nat.le_of_ble_eq_true rfl) gc_148_III ?_
  refine z_iload0 gi_148_0 ?_
  refine z_iload1 gi_148_1 ?_
  refine z_icmp_ltF gi_148_2 zr_5 zr_0 (by decide) ?_
  refine z_iload0 gi_148_5 ?_
  refine z_iload2 gi_148_6 ?_
  refine z_icmp_gtF gi_148_7 zr_5 zr_5 (by decide) ?_
  refine z_pushJ gp_148_10 ?_
  refine z_goto gi_148_11 ?_
  refine z_bret1 gi_148_15 gr_148 ?_
  show zW _ _ _ _ _ _ _ _ _ _
  refine z_bret1 gi_248_6 gr_248 ?_
  show zW _ _ _ _ _ _ _ _ _ _
  refine z_if_neT gi_251_4 zr_1 (by decide) ?_
  refine z_aload0 gi_251_9 ?_
  refine z_getR (r := 83) gi_251_10 gk_50 (hRr _ rm_50_58 (by decide)) ?_
  refine z_iload1 gi_251_13 ?_
  refine z_iald (v := (-1)) gi_251_14 gk_83 (by decide) (by decide) (e83) ?_
  refine z_pushJ gp_251_15 ?_
  refine z_icmp_neF gi_251_16 zrn_1 zrn_1 (by decide) ?_
  refine z_pushJ gp_251_19 ?_
  refine z_iret gi_251_21 gr_251 ?_
  show zW _ _ _ _ _ _ _ _ _ _
  refine z_if_geF gi_253_6 zrn_11 (by decide) ?_
  refine z_pushL (z := (-9223372036854775808)) gi_253_9 rfl ?_
  refine z_goto gi_253_12 ?_
  refine z_lret gi_253_26 gr_253 ?_
  refine ⟨?_, ?_⟩
  · first | rfl | exact congrArg (fun v => some (zl v)) (by omega) | (exfalso; omega)
  · exact hr
theorem st_put_50 {X : Nat × (Nat → Int32)} {d : Nat} {J M : zA} {R : zR} {i v : Int} (hr : Rel X J M R) (hi : -2147483648 ≤ i ∧ i < 2147483648) (hv : -9223372036854775808 ≤ v ∧ v < 9223372036854775808) (hh : J 48 0 = 0) : zW X (d + 20) 138 0 (gEn 138 [(.ref 0), (zi 5), (zi i), (zl v)]) [] J M R (stP X (d + 20) 252 [(zi 5), (zi i), (zl v)]) := by
  have hr0 := hr
  obtain ⟨hR, hG, hY, hD, hP, hC, hAc, hS, hTp, hX, hW⟩ := hr0
  have hRr : zRoR R := zRoR_of hR
  have hA0 := hAc
  obtain ⟨a1, a2, a3, a4, a5, a6⟩ := hA0
  have e83 : J 83 5 = -1 := (hS 5 (by decide) (by decide)).1.symm.trans (cH_0 hh)
  have s3 : 0 ≤ J 48 2 ∧ J 48 2 ≤ 4 := (hS 5 (by decide) (by decide)).2.2.1
  have s4 : 0 ≤ J 48 3 ∧ J 48 3 ≤ 60 := (hS 5 (by decide) (by decide)).2.2.2.1
  show zW _ _ _ _ [some (.ref 0), some (zi 5), some (zi i), some (zl v), none, none] _ _ _ _ _
  refine z_iload1 gi_138_0 ?_
  refine z_cS1 gi_138_1 (Nat.le_of_ble_eq_true rfl) gc_143_I ?_
  refine z_iload0 gi_143_0 ?_
  refine z_if_ltF gi_143_1 zr_5 (by decide) ?_
  refine z_iload0 gi_143_4 ?_
  refine z_pushJ gp_143_5 ?_
  refine z_icmp_geF gi_143_7 zr_5 zr_6 (by decide) ?_
  refine z_pushJ gp_143_10 ?_
  refine z_goto gi_143_11 ?_
  refine z_bret1 gi_143_15 gr_143 ?_
  show zW _ _ _ _ _ _ _ _ _ _
  refine z_if_neT gi_138_4 zr_1 (by decide) ?_
  refine z_aload0 gi_138_9 ?_
  refine z_getR (r := 37) gi_138_10 gk_0 (hR _ rm_0_11) ?_
  refine z_iload1 gi_138_13 ?_
  refine z_aald (r := 48) gi_138_14 rfl (by decide) (by decide) (hR _ rm_37_5) ?_
  refine z_iload2 gi_138_15 ?_
  refine z_cV1 gi_138_16 gk_48 go_70 (Nat.le_of_ble_eq_true rfl) gc_70_RI ?_
  refine z_aload0 gi_70_0 ?_
  refine z_getI (v := 0) gi_70_1 gk_48 (hh) ?_
  refine z_if_neF gi_70_4 zr_0 (by decide) ?_
  refine z_pushJ gp_70_7 ?_
  refine z_iret gi_70_9 gr_70 ?_
  show zW _ _ _ _ _ _ _ _ _ _
  refine z_istore (ls1 := [some (.ref 0), some (zi 5), some (zi i), some (zl v), none, some (zi (-11))]) gi_138_19 rfl ?_
  refine z_iload5 gi_138_21 ?_
  refine z_if_geF gi_138_23 zrn_11 (by decide) ?_
  refine z_iload5 gi_138_26 ?_
  refine z_iret gi_138_28 gr_138 ?_
  refine ⟨_, rfl, ?_⟩
  show zW _ _ _ _ [some (.ref 50), some (zi 5), some (zi i), some (zl v), none, none, none] _ _ _ _ _
  refine z_aload0 gi_252_0 ?_
  refine z_iload1 gi_252_1 ?_
  refine z_iload2 gi_252_2 ?_
  refine z_cV2 gi_252_3 gk_50 go_251 (Nat.le_of_ble_eq_true rfl) gc_251_RII ?_
  refine z_iload1 gi_251_0 ?_
  refine z_cS1 gi_251_1 (Nat.le_of_ble_eq_true rfl) gc_248_I ?_
  refine z_iload0 gi_248_0 ?_
  refine z_pushJ gp_248_1 ?_
  refine z_pushJ gp_248_2 ?_
  refine z_cS3 gi_248_3 (Nat.le_of_ble_eq_true rfl) gc_148_III ?_
  refine z_iload0 gi_148_0 ?_
  refine z_iload1 gi_148_1 ?_
  refine z_icmp_ltF gi_148_2 zr_5 zr_0 (by decide) ?_
  refine z_iload0 gi_148_5 ?_
  refine z_iload2 gi_148_6 ?_
  refine z_icmp_gtF gi_148_7 zr_5 zr_5 (by decide) ?_
  refine z_pushJ gp_148_10 ?_
  refine z_goto gi_148_11 ?_
  refine z_bret1 gi_148_15 gr_148 ?_
  show zW _ _ _ _ _ _ _ _ _ _
  refine z_bret1 gi_248_6 gr_248 ?_
  show zW _ _ _ _ _ _ _ _ _ _
  refine z_if_neT gi_251_4 zr_1 (by decide) ?_
  refine z_aload0 gi_251_9 ?_
  refine z_getR (r := 83) gi_251_10 gk_50 (hRr _ rm_50_58 (by decide)) ?_
  refine z_iload1 gi_251_13 ?_
  refine z_iald (v := (-1)) gi_251_14 gk_83 (by decide) (by decide) (e83) ?_
  refine z_pushJ gp_251_15 ?_
  refine z_icmp_neF gi_251_16 zrn_1 zrn_1 (by decide) ?_
  refine z_pushJ gp_251_19 ?_
  refine z_iret gi_251_21 gr_251 ?_
  show zW _ _ _ _ _ _ _ _ _ _
  refine z_istore (ls1 := [some (.ref 50), some (zi 5), some (zi i), some (zl v), none, some (zi (-11)), none]) gi_252_6 rfl ?_
  refine z_iload5 gi_252_8 ?_
  refine z_if_geF gi_252_10 zrn_11 (by decide) ?_
  refine z_iload5 gi_252_13 ?_
  refine z_iret gi_252_15 gr_252 ?_
  refine ⟨?_, ?_⟩
  · first | rfl | exact congrArg (fun v => some (zi v)) (by omega) | (exfalso; omega)
  · exact hr
theorem st_element_51 {X : Nat × (Nat → Int32)} {d : Nat} {J M : zA} {R : zR} {i : Int} (hr : Rel X J M R) (hi : -2147483648 ≤ i ∧ i < 2147483648) (hh : J 48 0 = 1) : zW X (d + 20) 139 0 (gEn 139 [(.ref 0), (zi 5), (zi i)]) [] J M R (stL X (d + 20) 253 [(zi 5), (zi i)]) := by
  have hr0 := hr
  obtain ⟨hR, hG, hY, hD, hP, hC, hAc, hS, hTp, hX, hW⟩ := hr0
  have hRr : zRoR R := zRoR_of hR
  have hA0 := hAc
  obtain ⟨a1, a2, a3, a4, a5, a6⟩ := hA0
  have e83 : J 83 5 = J 48 1 := (hS 5 (by decide) (by decide)).1.symm.trans (cH_1 hh)
  have s3 : 0 ≤ J 48 2 ∧ J 48 2 ≤ 4 := (hS 5 (by decide) (by decide)).2.2.1
  have s4 : 0 ≤ J 48 3 ∧ J 48 3 ≤ 60 := (hS 5 (by decide) (by decide)).2.2.2.1
  have s5 : 0 ≤ J 48 1 ∧ J 48 1 < J 34 1 := (hS 5 (by decide) (by decide)).2.2.2.2.1 hh
  show zW _ _ _ _ [some (.ref 0), some (zi 5), some (zi i)] _ _ _ _ _
  refine z_iload1 gi_139_0 ?_
  refine z_cS1 gi_139_1 (Nat.le_of_ble_eq_true rfl) gc_143_I ?_
  refine z_iload0 gi_143_0 ?_
  refine z_if_ltF gi_143_1 zr_5 (by decide) ?_
  refine z_iload0 gi_143_4 ?_
  refine z_pushJ gp_143_5 ?_
  refine z_icmp_geF gi_143_7 zr_5 zr_6 (by decide) ?_
  refine z_pushJ gp_143_10 ?_
  refine z_goto gi_143_11 ?_
  refine z_bret1 gi_143_15 gr_143 ?_
  show zW _ _ _ _ _ _ _ _ _ _
  refine z_if_eqF gi_139_4 zr_1 (by decide) ?_
  refine z_aload0 gi_139_7 ?_
  refine z_getR (r := 37) gi_139_8 gk_0 (hR _ rm_0_11) ?_
  refine z_iload1 gi_139_11 ?_
  refine z_aald (r := 48) gi_139_12 rfl (by decide) (by decide) (hR _ rm_37_5) ?_
  refine z_iload2 gi_139_13 ?_
  refine z_cV1 gi_139_14 gk_48 go_70 (Nat.le_of_ble_eq_true rfl) gc_70_RI ?_
  refine z_aload0 gi_70_0 ?_
  refine z_getI (v := 1) gi_70_1 gk_48 (hh) ?_
  refine z_if_neT gi_70_4 zr_1 (by decide) ?_
  refine z_aload0 gi_70_10 ?_
  refine z_getI (v := 1) gi_70_11 gk_48 (hh) ?_
  refine z_pushJ gp_70_14 ?_
  refine z_icmp_eqF gi_70_15 zr_1 zr_2 (by decide) ?_
  refine z_pushJ gp_70_18 ?_
  refine z_iret gi_70_20 gr_70 ?_
  show zW _ _ _ _ _ _ _ _ _ _
  refine z_if_geF gi_139_17 zrn_12 (by decide) ?_
  refine z_pushL (z := (-9223372036854775808)) gi_139_20 rfl ?_
  refine z_lret gi_139_23 gr_139 ?_
  refine ⟨_, rfl, ?_⟩
  show zW _ _ _ _ [some (.ref 50), some (zi 5), some (zi i)] _ _ _ _ _
  refine z_aload0 gi_253_0 ?_
  refine z_iload1 gi_253_1 ?_
  refine z_iload2 gi_253_2 ?_
  refine z_cV2 gi_253_3 gk_50 go_251 (Nat.le_of_ble_eq_true rfl) gc_251_RII ?_
  refine z_iload1 gi_251_0 ?_
  refine z_cS1 gi_251_1 (Nat.le_of_ble_eq_true rfl) gc_248_I ?_
  refine z_iload0 gi_248_0 ?_
  refine z_pushJ gp_248_1 ?_
  refine z_pushJ gp_248_2 ?_
  refine z_cS3 gi_248_3 (Nat.le_of_ble_eq_true rfl) gc_148_III ?_
  refine z_iload0 gi_148_0 ?_
  refine z_iload1 gi_148_1 ?_
  refine z_icmp_ltF gi_148_2 zr_5 zr_0 (by decide) ?_
  refine z_iload0 gi_148_5 ?_
  refine z_iload2 gi_148_6 ?_
  refine z_icmp_gtF gi_148_7 zr_5 zr_5 (by decide) ?_
  refine z_pushJ gp_148_10 ?_
  refine z_goto gi_148_11 ?_
  refine z_bret1 gi_148_15 gr_148 ?_
  show zW _ _ _ _ _ _ _ _ _ _
  refine z_bret1 gi_248_6 gr_248 ?_
  show zW _ _ _ _ _ _ _ _ _ _
  refine z_if_neT gi_251_4 zr_1 (by decide) ?_
  refine z_aload0 gi_251_9 ?_
  refine z_getR (r := 83) gi_251_10 gk_50 (hRr _ rm_50_58 (by decide)) ?_
  refine z_iload1 gi_251_13 ?_
  refine z_iald (v := J 48 1) gi_251_14 gk_83 (by decide) (by decide) (e83) ?_
  refine z_pushJ gp_251_15 ?_
  refine z_icmp_ne gi_251_16 (by omega) zrn_1 (fun h1 => ?_) (fun h1 => ?_)
  · refine z_aload0 gi_251_22 ?_
    refine z_getR (r := 83) gi_251_23 gk_50 (hRr _ rm_50_58 (by decide)) ?_
    refine z_iload1 gi_251_26 ?_
    refine z_iald (v := J 48 1) gi_251_27 gk_83 (by decide) (by decide) (e83) ?_
    refine z_if_lt gi_251_28 (by omega) (fun h2 => ?_) (fun h2 => ?_)
    · refine z_iload2 gi_251_34 ?_
      refine z_pushJ gp_251_35 ?_
      refine z_aload0 gi_251_36 ?_
      refine z_getR (r := 84) gi_251_37 gk_50 (hRr _ rm_50_59 (by decide)) ?_
      refine z_iload1 gi_251_40 ?_
      refine z_iald (v := J 84 5) gi_251_41 gk_84 (by decide) (by decide) (rfl) ?_
      refine z_pushJ gp_251_42 ?_
      refine z_isub (e := (J 84 5) - 1) gi_251_43 rfl ?_
      refine z_cS3 gi_251_44 (Nat.le_of_ble_eq_true rfl) gc_148_III ?_
      refine z_iload0 gi_148_0 ?_
      refine z_iload1 gi_148_1 ?_
      refine z_icmp_lt gi_148_2 (by omega) zr_0 (fun h3 => ?_) (fun h3 => ?_)
      · refine z_pushJ gp_148_14 ?_
        refine z_bret0 gi_148_15 gr_148 ?_
        show zW _ _ _ _ _ _ _ _ _ _
        refine z_if_eqT gi_251_47 zr_0 (by decide) ?_
        refine z_pushJ gp_251_54 ?_
        refine z_iret gi_251_56 gr_251 ?_
        show zW _ _ _ _ _ _ _ _ _ _
        refine z_if_geF gi_253_6 zrn_13 (by decide) ?_
        refine z_pushL (z := (-9223372036854775808)) gi_253_9 rfl ?_
        refine z_goto gi_253_12 ?_
        refine z_lret gi_253_26 gr_253 ?_
        refine ⟨?_, ?_⟩
        · first | rfl | exact congrArg (fun v => some (zl v)) (by omega) | (exfalso; omega)
        · exact hr
      · refine z_iload0 gi_148_5 ?_
        refine z_iload2 gi_148_6 ?_
        refine z_icmp_gt gi_148_7 (by omega) (by omega) (fun h4 => ?_) (fun h4 => ?_)
        · refine z_pushJ gp_148_14 ?_
          refine z_bret0 gi_148_15 gr_148 ?_
          show zW _ _ _ _ _ _ _ _ _ _
          refine z_if_eqT gi_251_47 zr_0 (by decide) ?_
          refine z_pushJ gp_251_54 ?_
          refine z_iret gi_251_56 gr_251 ?_
          show zW _ _ _ _ _ _ _ _ _ _
          refine z_if_geF gi_253_6 zrn_13 (by decide) ?_
          refine z_pushL (z := (-9223372036854775808)) gi_253_9 rfl ?_
          refine z_goto gi_253_12 ?_
          refine z_lret gi_253_26 gr_253 ?_
          refine ⟨?_, ?_⟩
          · first | rfl | exact congrArg (fun v => some (zl v)) (by omega) | (exfalso; omega)
          · exact hr
        · refine z_pushJ gp_148_10 ?_
          refine z_goto gi_148_11 ?_
          refine z_bret1 gi_148_15 gr_148 ?_
          show zW _ _ _ _ _ _ _ _ _ _
          refine z_if_eqF gi_251_47 zr_1 (by decide) ?_
          refine z_pushJ gp_251_50 ?_
          refine z_goto gi_251_51 ?_
          refine z_iret gi_251_56 gr_251 ?_
          show zW _ _ _ _ _ _ _ _ _ _
          refine z_if_geT gi_253_6 zr_0 (by decide) ?_
          refine z_aload0 gi_253_15 ?_
          refine z_getR (r := 85) gi_253_16 gk_50 (hRr _ rm_50_60 (by decide)) ?_
          refine z_pushJ gp_253_19 ?_
          refine z_iload1 gi_253_21 ?_
          refine z_imul (e := 300) gi_253_22 rfl ?_
          refine z_iload2 gi_253_23 ?_
          refine z_iadd (e := 300 + i) gi_253_24 rfl ?_
          refine z_lald (v := M 85 (300 + i)) gi_253_25 gk_85 (by decide) (by omega) (rfl) ?_
          refine z_lret gi_253_26 gr_253 ?_
          refine ⟨?_, ?_⟩
          · first | rfl | exact congrArg (fun v => some (zl v)) (by omega) | (exfalso; omega)
          · exact hr
    · refine z_pushJ gp_251_31 ?_
      refine z_iret gi_251_33 gr_251 ?_
      show zW _ _ _ _ _ _ _ _ _ _
      refine z_if_geF gi_253_6 zrn_12 (by decide) ?_
      refine z_pushL (z := (-9223372036854775808)) gi_253_9 rfl ?_
      refine z_goto gi_253_12 ?_
      refine z_lret gi_253_26 gr_253 ?_
      refine ⟨?_, ?_⟩
      · first | rfl | exact congrArg (fun v => some (zl v)) (by omega) | (exfalso; omega)
      · exact hr
  · refine z_pushJ gp_251_19 ?_
    refine z_iret gi_251_21 gr_251 ?_
    show zW _ _ _ _ _ _ _ _ _ _
    refine z_if_geF gi_253_6 zrn_11 (by decide) ?_
    refine z_pushL (z := (-9223372036854775808)) gi_253_9 rfl ?_
    refine z_goto gi_253_12 ?_
    refine z_lret gi_253_26 gr_253 ?_
    refine ⟨?_, ?_⟩
    · first | rfl | exact congrArg (fun v => some (zl v)) (by omega) | (exfalso; omega)
    · exact hr
theorem st_put_51 {X : Nat × (Nat → Int32)} {d : Nat} {J M : zA} {R : zR} {i v : Int} (hr : Rel X J M R) (hi : -2147483648 ≤ i ∧ i < 2147483648) (hv : -9223372036854775808 ≤ v ∧ v < 9223372036854775808) (hh : J 48 0 = 1) : zW X (d + 20) 138 0 (gEn 138 [(.ref 0), (zi 5), (zi i), (zl v)]) [] J M R (stP X (d + 20) 252 [(zi 5), (zi i), (zl v)]) := by
  have hr0 := hr
  obtain ⟨hR, hG, hY, hD, hP, hC, hAc, hS, hTp, hX, hW⟩ := hr0
  have hRr : zRoR R := zRoR_of hR
  have hA0 := hAc
  obtain ⟨a1, a2, a3, a4, a5, a6⟩ := hA0
  have e83 : J 83 5 = J 48 1 := (hS 5 (by decide) (by decide)).1.symm.trans (cH_1 hh)
  have s3 : 0 ≤ J 48 2 ∧ J 48 2 ≤ 4 := (hS 5 (by decide) (by decide)).2.2.1
  have s4 : 0 ≤ J 48 3 ∧ J 48 3 ≤ 60 := (hS 5 (by decide) (by decide)).2.2.2.1
  have s5 : 0 ≤ J 48 1 ∧ J 48 1 < J 34 1 := (hS 5 (by decide) (by decide)).2.2.2.2.1 hh
  show zW _ _ _ _ [some (.ref 0), some (zi 5), some (zi i), some (zl v), none, none] _ _ _ _ _
  refine z_iload1 gi_138_0 ?_
  refine z_cS1 gi_138_1 (Nat.le_of_ble_eq_true rfl) gc_143_I ?_
  refine z_iload0 gi_143_0 ?_
  refine z_if_ltF gi_143_1 zr_5 (by decide) ?_
  refine z_iload0 gi_143_4 ?_
  refine z_pushJ gp_143_5 ?_
  refine z_icmp_geF gi_143_7 zr_5 zr_6 (by decide) ?_
  refine z_pushJ gp_143_10 ?_
  refine z_goto gi_143_11 ?_
  refine z_bret1 gi_143_15 gr_143 ?_
  show zW _ _ _ _ _ _ _ _ _ _
  refine z_if_neT gi_138_4 zr_1 (by decide) ?_
  refine z_aload0 gi_138_9 ?_
  refine z_getR (r := 37) gi_138_10 gk_0 (hR _ rm_0_11) ?_
  refine z_iload1 gi_138_13 ?_
  refine z_aald (r := 48) gi_138_14 rfl (by decide) (by decide) (hR _ rm_37_5) ?_
  refine z_iload2 gi_138_15 ?_
  refine z_cV1 gi_138_16 gk_48 go_70 (Nat.le_of_ble_eq_true rfl) gc_70_RI ?_
  refine z_aload0 gi_70_0 ?_
  refine z_getI (v := 1) gi_70_1 gk_48 (hh) ?_
  refine z_if_neT gi_70_4 zr_1 (by decide) ?_
  refine z_aload0 gi_70_10 ?_
  refine z_getI (v := 1) gi_70_11 gk_48 (hh) ?_
  refine z_pushJ gp_70_14 ?_
  refine z_icmp_eqF gi_70_15 zr_1 zr_2 (by decide) ?_
  refine z_pushJ gp_70_18 ?_
  refine z_iret gi_70_20 gr_70 ?_
  show zW _ _ _ _ _ _ _ _ _ _
  refine z_istore (ls1 := [some (.ref 0), some (zi 5), some (zi i), some (zl v), none, some (zi (-12))]) gi_138_19 rfl ?_
  refine z_iload5 gi_138_21 ?_
  refine z_if_geF gi_138_23 zrn_12 (by decide) ?_
  refine z_iload5 gi_138_26 ?_
  refine z_iret gi_138_28 gr_138 ?_
  refine ⟨_, rfl, ?_⟩
  show zW _ _ _ _ [some (.ref 50), some (zi 5), some (zi i), some (zl v), none, none, none] _ _ _ _ _
  refine z_aload0 gi_252_0 ?_
  refine z_iload1 gi_252_1 ?_
  refine z_iload2 gi_252_2 ?_
  refine z_cV2 gi_252_3 gk_50 go_251 (Nat.le_of_ble_eq_true rfl) gc_251_RII ?_
  refine z_iload1 gi_251_0 ?_
  refine z_cS1 gi_251_1 (Nat.le_of_ble_eq_true rfl) gc_248_I ?_
  refine z_iload0 gi_248_0 ?_
  refine z_pushJ gp_248_1 ?_
  refine z_pushJ gp_248_2 ?_
  refine z_cS3 gi_248_3 (Nat.le_of_ble_eq_true rfl) gc_148_III ?_
  refine z_iload0 gi_148_0 ?_
  refine z_iload1 gi_148_1 ?_
  refine z_icmp_ltF gi_148_2 zr_5 zr_0 (by decide) ?_
  refine z_iload0 gi_148_5 ?_
  refine z_iload2 gi_148_6 ?_
  refine z_icmp_gtF gi_148_7 zr_5 zr_5 (by decide) ?_
  refine z_pushJ gp_148_10 ?_
  refine z_goto gi_148_11 ?_
  refine z_bret1 gi_148_15 gr_148 ?_
  show zW _ _ _ _ _ _ _ _ _ _
  refine z_bret1 gi_248_6 gr_248 ?_
  show zW _ _ _ _ _ _ _ _ _ _
  refine z_if_neT gi_251_4 zr_1 (by decide) ?_
  refine z_aload0 gi_251_9 ?_
  refine z_getR (r := 83) gi_251_10 gk_50 (hRr _ rm_50_58 (by decide)) ?_
  refine z_iload1 gi_251_13 ?_
  refine z_iald (v := J 48 1) gi_251_14 gk_83 (by decide) (by decide) (e83) ?_
  refine z_pushJ gp_251_15 ?_
  refine z_icmp_ne gi_251_16 (by omega) zrn_1 (fun h1 => ?_) (fun h1 => ?_)
  · refine z_aload0 gi_251_22 ?_
    refine z_getR (r := 83) gi_251_23 gk_50 (hRr _ rm_50_58 (by decide)) ?_
    refine z_iload1 gi_251_26 ?_
    refine z_iald (v := J 48 1) gi_251_27 gk_83 (by decide) (by decide) (e83) ?_
    refine z_if_lt gi_251_28 (by omega) (fun h2 => ?_) (fun h2 => ?_)
    · refine z_iload2 gi_251_34 ?_
      refine z_pushJ gp_251_35 ?_
      refine z_aload0 gi_251_36 ?_
      refine z_getR (r := 84) gi_251_37 gk_50 (hRr _ rm_50_59 (by decide)) ?_
      refine z_iload1 gi_251_40 ?_
      refine z_iald (v := J 84 5) gi_251_41 gk_84 (by decide) (by decide) (rfl) ?_
      refine z_pushJ gp_251_42 ?_
      refine z_isub (e := (J 84 5) - 1) gi_251_43 rfl ?_
      refine z_cS3 gi_251_44 (Nat.le_of_ble_eq_true rfl) gc_148_III ?_
      refine z_iload0 gi_148_0 ?_
      refine z_iload1 gi_148_1 ?_
      refine z_icmp_lt gi_148_2 (by omega) zr_0 (fun h3 => ?_) (fun h3 => ?_)
      · refine z_pushJ gp_148_14 ?_
        refine z_bret0 gi_148_15 gr_148 ?_
        show zW _ _ _ _ _ _ _ _ _ _
        refine z_if_eqT gi_251_47 zr_0 (by decide) ?_
        refine z_pushJ gp_251_54 ?_
        refine z_iret gi_251_56 gr_251 ?_
        show zW _ _ _ _ _ _ _ _ _ _
        refine z_istore (ls1 := [some (.ref 50), some (zi 5), some (zi i), some (zl v), none, some (zi (-13)), none]) gi_252_6 rfl ?_
        refine z_iload5 gi_252_8 ?_
        refine z_if_geF gi_252_10 zrn_13 (by decide) ?_
        refine z_iload5 gi_252_13 ?_
        refine z_iret gi_252_15 gr_252 ?_
        refine ⟨?_, ?_⟩
        · first | rfl | exact congrArg (fun v => some (zi v)) (by omega) | (exfalso; omega)
        · exact hr
      · refine z_iload0 gi_148_5 ?_
        refine z_iload2 gi_148_6 ?_
        refine z_icmp_gt gi_148_7 (by omega) (by omega) (fun h4 => ?_) (fun h4 => ?_)
        · refine z_pushJ gp_148_14 ?_
          refine z_bret0 gi_148_15 gr_148 ?_
          show zW _ _ _ _ _ _ _ _ _ _
          refine z_if_eqT gi_251_47 zr_0 (by decide) ?_
          refine z_pushJ gp_251_54 ?_
          refine z_iret gi_251_56 gr_251 ?_
          show zW _ _ _ _ _ _ _ _ _ _
          refine z_istore (ls1 := [some (.ref 50), some (zi 5), some (zi i), some (zl v), none, some (zi (-13)), none]) gi_252_6 rfl ?_
          refine z_iload5 gi_252_8 ?_
          refine z_if_geF gi_252_10 zrn_13 (by decide) ?_
          refine z_iload5 gi_252_13 ?_
          refine z_iret gi_252_15 gr_252 ?_
          refine ⟨?_, ?_⟩
          · first | rfl | exact congrArg (fun v => some (zi v)) (by omega) | (exfalso; omega)
          · exact hr
        · refine z_pushJ gp_148_10 ?_
          refine z_goto gi_148_11 ?_
          refine z_bret1 gi_148_15 gr_148 ?_
          show zW _ _ _ _ _ _ _ _ _ _
          refine z_if_eqF gi_251_47 zr_1 (by decide) ?_
          refine z_pushJ gp_251_50 ?_
          refine z_goto gi_251_51 ?_
          refine z_iret gi_251_56 gr_251 ?_
          show zW _ _ _ _ _ _ _ _ _ _
          refine z_istore (ls1 := [some (.ref 50), some (zi 5), some (zi i), some (zl v), none, some (zi 0), none]) gi_252_6 rfl ?_
          refine z_iload5 gi_252_8 ?_
          refine z_if_geT gi_252_10 zr_0 (by decide) ?_
          refine z_pushJ gp_252_16 ?_
          refine z_aload0 gi_252_18 ?_
          refine z_getR (r := 83) gi_252_19 gk_50 (hRr _ rm_50_58 (by decide)) ?_
          refine z_iload1 gi_252_22 ?_
          refine z_iald (v := J 48 1) gi_252_23 gk_83 (by decide) (by decide) (e83) ?_
          refine z_isub (e := (-2) - (J 48 1)) gi_252_24 rfl ?_
          refine z_istore (ls1 := [some (.ref 50), some (zi 5), some (zi i), some (zl v), none, some (zi 0), some (zi ((-2) - (J 48 1)))]) gi_252_25 rfl ?_
          refine z_aload0 gi_252_27 ?_
          refine z_getR (r := 85) gi_252_28 gk_50 (hRr _ rm_50_60 (by decide)) ?_
          refine z_pushJ gp_252_31 ?_
          refine z_iload1 gi_252_33 ?_
          refine z_imul (e := 300) gi_252_34 rfl ?_
          refine z_iload2 gi_252_35 ?_
          refine z_iadd (e := 300 + i) gi_252_36 rfl ?_
          refine z_iload6 gi_252_37 ?_
          refine z_if_ne gi_252_39 (by omega) (fun h5 => ?_) (fun h5 => ?_)
          · refine z_iload6 gi_252_49 ?_
            refine z_pushJ gp_252_51 ?_
            refine z_icmp_ne gi_252_52 (by omega) zr_1 (fun h6 => ?_) (fun h6 => ?_)
            · refine z_iload6 gi_252_62 ?_
              refine z_pushJ gp_252_64 ?_
              refine z_icmp_ne gi_252_65 (by omega) zr_2 (fun h7 => ?_) (fun h7 => ?_)
              · refine z_iload6 gi_252_74 ?_
                refine z_pushJ gp_252_76 ?_
                refine z_icmp_ne gi_252_77 (by omega) zr_3 (fun h8 => ?_) (fun h8 => ?_)
                · refine z_lload3 gi_252_84 ?_
                  refine z_pushL (z := 0) gi_252_85 rfl ?_
                  refine z_lcmp_eq gi_252_86 gi_252_87 (by omega) (by omega) (fun h9 => ?_) (fun h9 => ?_)
                  · refine z_pushL (z := 0) gi_252_94 rfl ?_
                    refine z_last (e := 0) gi_252_95 gk_85 (by decide) (by omega) rfl ?_
                    refine z_pushJ gp_252_96 ?_
                    refine z_iret gi_252_97 gr_252 ?_
                    refine ⟨?_, ?_⟩
                    · first | rfl | exact congrArg (fun v => some (zi v)) (by omega) | (exfalso; omega)
                    · exfalso
                      omega
                  · refine z_pushL (z := 1) gi_252_90 rfl ?_
                    refine z_goto gi_252_91 ?_
                    refine z_last (e := 1) gi_252_95 gk_85 (by decide) (by omega) rfl ?_
                    refine z_pushJ gp_252_96 ?_
                    refine z_iret gi_252_97 gr_252 ?_
                    refine ⟨?_, ?_⟩
                    · first | rfl | exact congrArg (fun v => some (zi v)) (by omega) | (exfalso; omega)
                    · exfalso
                      omega
                · refine z_lload3 gi_252_80 ?_
                  refine z_goto gi_252_81 ?_
                  refine z_last (e := v) gi_252_95 gk_85 (by decide) (by omega) rfl ?_
                  refine z_pushJ gp_252_96 ?_
                  refine z_iret gi_252_97 gr_252 ?_
                  refine ⟨?_, ?_⟩
                  · first | rfl | exact congrArg (fun v => some (zi v)) (by omega) | (exfalso; omega)
                  · exfalso
                    omega
              · refine z_lload3 gi_252_68 ?_
                refine z_l2i gi_252_69 ?_
                refine z_topn (e := zn v) rfl ?_
                have q10 := zn_r v
                refine z_i2l gi_252_70 (by omega) ?_
                refine z_goto gi_252_71 ?_
                refine z_last (e := zn v) gi_252_95 gk_85 (by decide) (by omega) rfl ?_
                refine z_pushJ gp_252_96 ?_
                refine z_iret gi_252_97 gr_252 ?_
                refine ⟨?_, ?_⟩
                · first | rfl | exact congrArg (fun v => some (zi v)) (by omega) | (exfalso; omega)
                · exfalso
                  omega
            · refine z_lload3 gi_252_55 ?_
              refine z_l2i gi_252_56 ?_
              refine z_i2s (e := zh v) gi_252_57 rfl ?_
              have q11 := zh_r v
              refine z_i2l gi_252_58 (by omega) ?_
              refine z_goto gi_252_59 ?_
              refine z_last (e := zh v) gi_252_95 gk_85 (by decide) (by omega) rfl ?_
              refine z_pushJ gp_252_96 ?_
              refine z_iret gi_252_97 gr_252 ?_
              refine ⟨?_, ?_⟩
              · first | rfl | exact congrArg (fun v => some (zi v)) (by omega) | (exfalso; omega)
              · exfalso
                omega
          · refine z_lload3 gi_252_42 ?_
            refine z_l2i gi_252_43 ?_
            refine z_i2b (e := zb v) gi_252_44 rfl ?_
            have q12 := zb_r v
            refine z_i2l gi_252_45 (by omega) ?_
            refine z_goto gi_252_46 ?_
            refine z_last (e := zb v) gi_252_95 gk_85 (by decide) (by omega) rfl ?_
            refine z_pushJ gp_252_96 ?_
            refine z_iret gi_252_97 gr_252 ?_
            refine ⟨?_, ?_⟩
            · first | rfl | exact congrArg (fun v => some (zi v)) (by omega) | (exfalso; omega)
            · exfalso
              omega
    · refine z_pushJ gp_251_31 ?_
      refine z_iret gi_251_33 gr_251 ?_
      show zW _ _ _ _ _ _ _ _ _ _
      refine z_istore (ls1 := [some (.ref 50), some (zi 5), some (zi i), some (zl v), none, some (zi (-12)), none]) gi_252_6 rfl ?_
      refine z_iload5 gi_252_8 ?_
      refine z_if_geF gi_252_10 zrn_12 (by decide) ?_
      refine z_iload5 gi_252_13 ?_
      refine z_iret gi_252_15 gr_252 ?_
      refine ⟨?_, ?_⟩
      · first | rfl | exact congrArg (fun v => some (zi v)) (by omega) | (exfalso; omega)
      · exact hr
  · refine z_pushJ gp_251_19 ?_
    refine z_iret gi_251_21 gr_251 ?_
    show zW _ _ _ _ _ _ _ _ _ _
    refine z_istore (ls1 := [some (.ref 50), some (zi 5), some (zi i), some (zl v), none, some (zi (-11)), none]) gi_252_6 rfl ?_
    refine z_iload5 gi_252_8 ?_
    refine z_if_geF gi_252_10 zrn_11 (by decide) ?_
    refine z_iload5 gi_252_13 ?_
    refine z_iret gi_252_15 gr_252 ?_
    refine ⟨?_, ?_⟩
    · first | rfl | exact congrArg (fun v => some (zi v)) (by omega) | (exfalso; omega)
    · exact hr
theorem st_element_52 {X : Nat × (Nat → Int32)} {d : Nat} {J M : zA} {R : zR} {i : Int} (hr : Rel X J M R) (hi : -2147483648 ≤ i ∧ i < 2147483648) (hh : J 48 0 = 2) : zW X (d + 20) 139 0 (gEn 139 [(.ref 0), (zi 5), (zi i)]) [] J M R (stL X (d + 20) 253 [(zi 5), (zi i)]) := by
  have hr0 := hr
  obtain ⟨hR, hG, hY, hD, hP, hC, hAc, hS, hTp, hX, hW⟩ := hr0
  have hRr : zRoR R := zRoR_of hR
  have hA0 := hAc
  obtain ⟨a1, a2, a3, a4, a5, a6⟩ := hA0
  have e83 : J 83 5 = -2 - J 48 2 := (hS 5 (by decide) (by decide)).1.symm.trans (cH_2 hh)
  have s3 : 0 ≤ J 48 2 ∧ J 48 2 ≤ 4 := (hS 5 (by decide) (by decide)).2.2.1
  have s4 : 0 ≤ J 48 3 ∧ J 48 3 ≤ 60 := (hS 5 (by decide) (by decide)).2.2.2.1
  have s6 := (hS 5 (by decide) (by decide)).2.2.2.2.2 hh
  have s7 : J 84 5 = J 48 3 := s6.1.symm
  have s8 : ∀ i, 0 ≤ i → i < J 48 3 → M 49 i = M 85 (300 + i) := s6.2.1
  show zW _ _ _ _ [some (.ref 0), some (zi 5), some (zi i)] _ _ _ _ _
  refine z_iload1 gi_139_0 ?_
  refine z_cS1 gi_139_1 (Nat.le_of_ble_eq_true rfl) gc_143_I ?_
  refine z_iload0 gi_143_0 ?_
  refine z_if_ltF gi_143_1 zr_5 (by decide) ?_
  refine z_iload0 gi_143_4 ?_
  refine z_pushJ gp_143_5 ?_
  refine z_icmp_geF gi_143_7 zr_5 zr_6 (by decide) ?_
  refine z_pushJ gp_143_10 ?_
  refine z_goto gi_143_11 ?_
  refine z_bret1 gi_143_15 gr_143 ?_
  show zW _ _ _ _ _ _ _ _ _ _
  refine z_if_eqF gi_139_4 zr_1 (by decide) ?_
  refine z_aload0 gi_139_7 ?_
  refine z_getR (r := 37) gi_139_8 gk_0 (hR _ rm_0_11) ?_
  refine z_iload1 gi_139_11 ?_
  refine z_aald (r := 48) gi_139_12 rfl (by decide) (by decide) (hR _ rm_37_5) ?_
  refine z_iload2 gi_139_13 ?_
  refine z_cV1 gi_139_14 gk_48 go_70 (Nat.le_of_ble_eq_true rfl) gc_70_RI ?_
  refine z_aload0 gi_70_0 ?_
  refine z_getI (v := 2) gi_70_1 gk_48 (hh) ?_
  refine z_if_neT gi_70_4 zr_2 (by decide) ?_
  refine z_aload0 gi_70_10 ?_
  refine z_getI (v := 2) gi_70_11 gk_48 (hh) ?_
  refine z_pushJ gp_70_14 ?_
  refine z_icmp_eqT gi_70_15 zr_2 zr_2 (by decide) ?_
  refine z_iload1 gi_70_21 ?_
  refine z_if_lt gi_70_22 (by omega) (fun h1 => ?_) (fun h1 => ?_)
  · refine z_pushJ gp_70_37 ?_
    refine z_iret gi_70_39 gr_70 ?_
    show zW _ _ _ _ _ _ _ _ _ _
    refine z_if_geF gi_139_17 zrn_13 (by decide) ?_
    refine z_pushL (z := (-9223372036854775808)) gi_139_20 rfl ?_
    refine z_lret gi_139_23 gr_139 ?_
    refine ⟨_, rfl, ?_⟩
    show zW _ _ _ _ [some (.ref 50), some (zi 5), some (zi i)] _ _ _ _ _
    refine z_aload0 gi_253_0 ?_
    refine z_iload1 gi_253_1 ?_
    refine z_iload2 gi_253_2 ?_
    refine z_cV2 gi_253_3 gk_50 go_251 (Nat.le_of_ble_eq_true rfl) gc_251_RII ?_
    refine z_iload1 gi_251_0 ?_
    refine z_cS1 gi_251_1 (Nat.le_of_ble_eq_true rfl) gc_248_I ?_
    refine z_iload0 gi_248_0 ?_
    refine z_pushJ gp_248_1 ?_
    refine z_pushJ gp_248_2 ?_
    refine z_cS3 gi_248_3 (Nat.le_of_ble_eq_true rfl) gc_148_III ?_
    refine z_iload0 gi_148_0 ?_
    refine z_iload1 gi_148_1 ?_
    refine z_icmp_ltF gi_148_2 zr_5 zr_0 (by decide) ?_
    refine z_iload0 gi_148_5 ?_
    refine z_iload2 gi_148_6 ?_
    refine z_icmp_gtF gi_148_7 zr_5 zr_5 (by decide) ?_
    refine z_pushJ gp_148_10 ?_
    refine z_goto gi_148_11 ?_
    refine z_bret1 gi_148_15 gr_148 ?_
    show zW _ _ _ _ _ _ _ _ _ _
    refine z_bret1 gi_248_6 gr_248 ?_
    show zW _ _ _ _ _ _ _ _ _ _
    refine z_if_neT gi_251_4 zr_1 (by decide) ?_
    refine z_aload0 gi_251_9 ?_
    refine z_getR (r := 83) gi_251_10 gk_50 (hRr _ rm_50_58 (by decide)) ?_
    refine z_iload1 gi_251_13 ?_
    refine z_iald (v := (-2) - (J 48 2)) gi_251_14 gk_83 (by decide) (by decide) (e83) ?_
    refine z_pushJ gp_251_15 ?_
    refine z_icmp_ne gi_251_16 (by omega) zrn_1 (fun h2 => ?_) (fun h2 => ?_)
    · refine z_aload0 gi_251_22 ?_
      refine z_getR (r := 83) gi_251_23 gk_50 (hRr _ rm_50_58 (by decide)) ?_
      refine z_iload1 gi_251_26 ?_
      refine z_iald (v := (-2) - (J 48 2)) gi_251_27 gk_83 (by decide) (by decide) (e83) ?_
      refine z_if_lt gi_251_28 (by omega) (fun h3 => ?_) (fun h3 => ?_)
      · refine z_iload2 gi_251_34 ?_
        refine z_pushJ gp_251_35 ?_
        refine z_aload0 gi_251_36 ?_
        refine z_getR (r := 84) gi_251_37 gk_50 (hRr _ rm_50_59 (by decide)) ?_
        refine z_iload1 gi_251_40 ?_
        refine z_iald (v := J 48 3) gi_251_41 gk_84 (by decide) (by decide) (s7) ?_
        refine z_pushJ gp_251_42 ?_
        refine z_isub (e := (J 48 3) - 1) gi_251_43 rfl ?_
        refine z_cS3 gi_251_44 (Nat.le_of_ble_eq_true rfl) gc_148_III ?_
        refine z_iload0 gi_148_0 ?_
        refine z_iload1 gi_148_1 ?_
        refine z_icmp_ltT gi_148_2 (by omega) zr_0 (by omega) ?_
        refine z_pushJ gp_148_14 ?_
        refine z_bret0 gi_148_15 gr_148 ?_
        show zW _ _ _ _ _ _ _ _ _ _
        refine z_if_eqT gi_251_47 zr_0 (by decide) ?_
        refine z_pushJ gp_251_54 ?_
        refine z_iret gi_251_56 gr_251 ?_
        show zW _ _ _ _ _ _ _ _ _ _
        refine z_if_geF gi_253_6 zrn_13 (by decide) ?_
        refine z_pushL (z := (-9223372036854775808)) gi_253_9 rfl ?_
        refine z_goto gi_253_12 ?_
        refine z_lret gi_253_26 gr_253 ?_
        refine ⟨?_, ?_⟩
        · first | rfl | exact congrArg (fun v => some (zl v)) (by omega) | (exfalso; omega)
        · exact hr
      · refine z_pushJ gp_251_31 ?_
        refine z_iret gi_251_33 gr_251 ?_
        show zW _ _ _ _ _ _ _ _ _ _
        refine z_if_geF gi_253_6 zrn_12 (by decide) ?_
        refine z_pushL (z := (-9223372036854775808)) gi_253_9 rfl ?_
        refine z_goto gi_253_12 ?_
        refine z_lret gi_253_26 gr_253 ?_
        refine ⟨?_, ?_⟩
        · first | rfl | exact congrArg (fun v => some (zl v)) (by omega) | (exfalso; omega)
        · exact hr
    · refine z_pushJ gp_251_19 ?_
      refine z_iret gi_251_21 gr_251 ?_
      show zW _ _ _ _ _ _ _ _ _ _
      refine z_if_geF gi_253_6 zrn_11 (by decide) ?_
      refine z_pushL (z := (-9223372036854775808)) gi_253_9 rfl ?_
      refine z_goto gi_253_12 ?_
      refine z_lret gi_253_26 gr_253 ?_
      refine ⟨?_, ?_⟩
      · first | rfl | exact congrArg (fun v => some (zl v)) (by omega) | (exfalso; omega)
      · exact hr
  · refine z_iload1 gi_70_25 ?_
    refine z_aload0 gi_70_26 ?_
    refine z_getI (v := J 48 3) gi_70_27 gk_48 (rfl) ?_
    refine z_icmp_ge gi_70_30 (by omega) (by omega) (fun h2 => ?_) (fun h2 => ?_)
    · refine z_pushJ gp_70_37 ?_
      refine z_iret gi_70_39 gr_70 ?_
      show zW _ _ _ _ _ _ _ _ _ _
      refine z_if_geF gi_139_17 zrn_13 (by decide) ?_
      refine z_pushL (z := (-9223372036854775808)) gi_139_20 rfl ?_
      refine z_lret gi_139_23 gr_139 ?_
      refine ⟨_, rfl, ?_⟩
      show zW _ _ _ _ [some (.ref 50), some (zi 5), some (zi i)] _ _ _ _ _
      refine z_aload0 gi_253_0 ?_
      refine z_iload1 gi_253_1 ?_
      refine z_iload2 gi_253_2 ?_
      refine z_cV2 gi_253_3 gk_50 go_251 (Nat.le_of_ble_eq_true rfl) gc_251_RII ?_
      refine z_iload1 gi_251_0 ?_
      refine z_cS1 gi_251_1 (Nat.le_of_ble_eq_true rfl) gc_248_I ?_
      refine z_iload0 gi_248_0 ?_
      refine z_pushJ gp_248_1 ?_
      refine z_pushJ gp_248_2 ?_
      refine z_cS3 gi_248_3 (Nat.le_of_ble_eq_true rfl) gc_148_III ?_
      refine z_iload0 gi_148_0 ?_
      refine z_iload1 gi_148_1 ?_
      refine z_icmp_ltF gi_148_2 zr_5 zr_0 (by decide) ?_
      refine z_iload0 gi_148_5 ?_
      refine z_iload2 gi_148_6 ?_
      refine z_icmp_gtF gi_148_7 zr_5 zr_5 (by decide) ?_
      refine z_pushJ gp_148_10 ?_
      refine z_goto gi_148_11 ?_
      refine z_bret1 gi_148_15 gr_148 ?_
      show zW _ _ _ _ _ _ _ _ _ _
      refine z_bret1 gi_248_6 gr_248 ?_
      show zW _ _ _ _ _ _ _ _ _ _
      refine z_if_neT gi_251_4 zr_1 (by decide) ?_
      refine z_aload0 gi_251_9 ?_
      refine z_getR (r := 83) gi_251_10 gk_50 (hRr _ rm_50_58 (by decide)) ?_
      refine z_iload1 gi_251_13 ?_
      refine z_iald (v := (-2) - (J 48 2)) gi_251_14 gk_83 (by decide) (by decide) (e83) ?_
      refine z_pushJ gp_251_15 ?_
      refine z_icmp_ne gi_251_16 (by omega) zrn_1 (fun h3 => ?_) (fun h3 => ?_)
      · refine z_aload0 gi_251_22 ?_
        refine z_getR (r := 83) gi_251_23 gk_50 (hRr _ rm_50_58 (by decide)) ?_
        refine z_iload1 gi_251_26 ?_
        refine z_iald (v := (-2) - (J 48 2)) gi_251_27 gk_83 (by decide) (by decide) (e83) ?_
        refine z_if_lt gi_251_28 (by omega) (fun h4 => ?_) (fun h4 => ?_)
        · refine z_iload2 gi_251_34 ?_
          refine z_pushJ gp_251_35 ?_
          refine z_aload0 gi_251_36 ?_
          refine z_getR (r := 84) gi_251_37 gk_50 (hRr _ rm_50_59 (by decide)) ?_
          refine z_iload1 gi_251_40 ?_
          refine z_iald (v := J 48 3) gi_251_41 gk_84 (by decide) (by decide) (s7) ?_
          refine z_pushJ gp_251_42 ?_
          refine z_isub (e := (J 48 3) - 1) gi_251_43 rfl ?_
          refine z_cS3 gi_251_44 (Nat.le_of_ble_eq_true rfl) gc_148_III ?_
          refine z_iload0 gi_148_0 ?_
          refine z_iload1 gi_148_1 ?_
          refine z_icmp_ltF gi_148_2 (by omega) zr_0 (by omega) ?_
          refine z_iload0 gi_148_5 ?_
          refine z_iload2 gi_148_6 ?_
          refine z_icmp_gtT gi_148_7 (by omega) (by omega) (by omega) ?_
          refine z_pushJ gp_148_14 ?_
          refine z_bret0 gi_148_15 gr_148 ?_
          show zW _ _ _ _ _ _ _ _ _ _
          refine z_if_eqT gi_251_47 zr_0 (by decide) ?_
          refine z_pushJ gp_251_54 ?_
          refine z_iret gi_251_56 gr_251 ?_
          show zW _ _ _ _ _ _ _ _ _ _
          refine z_if_geF gi_253_6 zrn_13 (by decide) ?_
          refine z_pushL (z := (-9223372036854775808)) gi_253_9 rfl ?_
          refine z_goto gi_253_12 ?_
          refine z_lret gi_253_26 gr_253 ?_
          refine ⟨?_, ?_⟩
          · first | rfl | exact congrArg (fun v => some (zl v)) (by omega) | (exfalso; omega)
          · exact hr
        · refine z_pushJ gp_251_31 ?_
          refine z_iret gi_251_33 gr_251 ?_
          show zW _ _ _ _ _ _ _ _ _ _
          refine z_if_geF gi_253_6 zrn_12 (by decide) ?_
          refine z_pushL (z := (-9223372036854775808)) gi_253_9 rfl ?_
          refine z_goto gi_253_12 ?_
          refine z_lret gi_253_26 gr_253 ?_
          refine ⟨?_, ?_⟩
          · first | rfl | exact congrArg (fun v => some (zl v)) (by omega) | (exfalso; omega)
          · exact hr
      · refine z_pushJ gp_251_19 ?_
        refine z_iret gi_251_21 gr_251 ?_
        show zW _ _ _ _ _ _ _ _ _ _
        refine z_if_geF gi_253_6 zrn_11 (by decide) ?_
        refine z_pushL (z := (-9223372036854775808)) gi_253_9 rfl ?_
        refine z_goto gi_253_12 ?_
        refine z_lret gi_253_26 gr_253 ?_
        refine ⟨?_, ?_⟩
        · first | rfl | exact congrArg (fun v => some (zl v)) (by omega) | (exfalso; omega)
        · exact hr
    · refine z_pushJ gp_70_33 ?_
      refine z_goto gi_70_34 ?_
      refine z_iret gi_70_39 gr_70 ?_
      show zW _ _ _ _ _ _ _ _ _ _
      refine z_if_geT gi_139_17 zr_0 (by decide) ?_
      refine z_aload0 gi_139_24 ?_
      refine z_getR (r := 37) gi_139_25 gk_0 (hR _ rm_0_11) ?_
      refine z_iload1 gi_139_28 ?_
      refine z_aald (r := 48) gi_139_29 rfl (by decide) (by decide) (hR _ rm_37_5) ?_
      refine z_iload2 gi_139_30 ?_
      refine z_cV1 gi_139_31 gk_48 go_72 (Nat.le_of_ble_eq_true rfl) gc_72_RI ?_
      refine z_iload1 gi_72_0 ?_
      refine z_if_ltF gi_72_1 (by omega) (by omega) ?_
      refine z_iload1 gi_72_4 ?_
      refine z_aload0 gi_72_5 ?_
      refine z_getI (v := J 48 3) gi_72_6 gk_48 (rfl) ?_
      refine z_icmp_geF gi_72_9 (by omega) (by omega) (by omega) ?_
      refine z_aload0 gi_72_12 ?_
      refine z_getR (r := 49) gi_72_13 gk_48 (hR _ rm_48_4) ?_
      refine z_iload1 gi_72_16 ?_
      refine z_lald (v := M 49 i) gi_72_17 gk_49 (by decide) (by omega) (rfl) ?_
      refine z_goto gi_72_18 ?_
      refine z_lret gi_72_22 gr_72 ?_
      show zW _ _ _ _ _ _ _ _ _ _
      refine z_lret gi_139_34 gr_139 ?_
      refine ⟨_, rfl, ?_⟩
      show zW _ _ _ _ [some (.ref 50), some (zi 5), some (zi i)] _ _ _ _ _
      refine z_aload0 gi_253_0 ?_
      refine z_iload1 gi_253_1 ?_
      refine z_iload2 gi_253_2 ?_
      refine z_cV2 gi_253_3 gk_50 go_251 (Nat.le_of_ble_eq_true rfl) gc_251_RII ?_
      refine z_iload1 gi_251_0 ?_
      refine z_cS1 gi_251_1 (Nat.le_of_ble_eq_true rfl) gc_248_I ?_
      refine z_iload0 gi_248_0 ?_
      refine z_pushJ gp_248_1 ?_
      refine z_pushJ gp_248_2 ?_
      refine z_cS3 gi_248_3 (Nat.le_of_ble_eq_true rfl) gc_148_III ?_
      refine z_iload0 gi_148_0 ?_
      refine z_iload1 gi_148_1 ?_
      refine z_icmp_ltF gi_148_2 zr_5 zr_0 (by decide) ?_
      refine z_iload0 gi_148_5 ?_
      refine z_iload2 gi_148_6 ?_
      refine z_icmp_gtF gi_148_7 zr_5 zr_5 (by decide) ?_
      refine z_pushJ gp_148_10 ?_
      refine z_goto gi_148_11 ?_
      refine z_bret1 gi_148_15 gr_148 ?_
      show zW _ _ _ _ _ _ _ _ _ _
      refine z_bret1 gi_248_6 gr_248 ?_
      show zW _ _ _ _ _ _ _ _ _ _
      refine z_if_neT gi_251_4 zr_1 (by decide) ?_
      refine z_aload0 gi_251_9 ?_
      refine z_getR (r := 83) gi_251_10 gk_50 (hRr _ rm_50_58 (by decide)) ?_
      refine z_iload1 gi_251_13 ?_
      refine z_iald (v := (-2) - (J 48 2)) gi_251_14 gk_83 (by decide) (by decide) (e83) ?_
      refine z_pushJ gp_251_15 ?_
      refine z_icmp_ne gi_251_16 (by omega) zrn_1 (fun h3 => ?_) (fun h3 => ?_)
      · refine z_aload0 gi_251_22 ?_
        refine z_getR (r := 83) gi_251_23 gk_50 (hRr _ rm_50_58 (by decide)) ?_
        refine z_iload1 gi_251_26 ?_
        refine z_iald (v := (-2) - (J 48 2)) gi_251_27 gk_83 (by decide) (by decide) (e83) ?_
        refine z_if_lt gi_251_28 (by omega) (fun h4 => ?_) (fun h4 => ?_)
        · refine z_iload2 gi_251_34 ?_
          refine z_pushJ gp_251_35 ?_
          refine z_aload0 gi_251_36 ?_
          refine z_getR (r := 84) gi_251_37 gk_50 (hRr _ rm_50_59 (by decide)) ?_
          refine z_iload1 gi_251_40 ?_
          refine z_iald (v := J 48 3) gi_251_41 gk_84 (by decide) (by decide) (s7) ?_
          refine z_pushJ gp_251_42 ?_
          refine z_isub (e := (J 48 3) - 1) gi_251_43 rfl ?_
          refine z_cS3 gi_251_44 (Nat.le_of_ble_eq_true rfl) gc_148_III ?_
          refine z_iload0 gi_148_0 ?_
          refine z_iload1 gi_148_1 ?_
          refine z_icmp_ltF gi_148_2 (by omega) zr_0 (by omega) ?_
          refine z_iload0 gi_148_5 ?_
          refine z_iload2 gi_148_6 ?_
          refine z_icmp_gtF gi_148_7 (by omega) (by omega) (by omega) ?_
          refine z_pushJ gp_148_10 ?_
          refine z_goto gi_148_11 ?_
          refine z_bret1 gi_148_15 gr_148 ?_
          show zW _ _ _ _ _ _ _ _ _ _
          refine z_if_eqF gi_251_47 zr_1 (by decide) ?_
          refine z_pushJ gp_251_50 ?_
          refine z_goto gi_251_51 ?_
          refine z_iret gi_251_56 gr_251 ?_
          show zW _ _ _ _ _ _ _ _ _ _
          refine z_if_geT gi_253_6 zr_0 (by decide) ?_
          refine z_aload0 gi_253_15 ?_
          refine z_getR (r := 85) gi_253_16 gk_50 (hRr _ rm_50_60 (by decide)) ?_
          refine z_pushJ gp_253_19 ?_
          refine z_iload1 gi_253_21 ?_
          refine z_imul (e := 300) gi_253_22 rfl ?_
          refine z_iload2 gi_253_23 ?_
          refine z_iadd (e := 300 + i) gi_253_24 rfl ?_
          refine z_lald (v := M 85 (300 + i)) gi_253_25 gk_85 (by decide) (by omega) (rfl) ?_
          refine z_lret gi_253_26 gr_253 ?_
          refine ⟨?_, ?_⟩
          · first | exact congrArg (fun v => some (zl v)) (s8 i (by omega) (by omega)).symm | (exfalso; omega)
          · exact hr
        · refine z_pushJ gp_251_31 ?_
          refine z_iret gi_251_33 gr_251 ?_
          show zW _ _ _ _ _ _ _ _ _ _
          refine z_if_geF gi_253_6 zrn_12 (by decide) ?_
          refine z_pushL (z := (-9223372036854775808)) gi_253_9 rfl ?_
          refine z_goto gi_253_12 ?_
          refine z_lret gi_253_26 gr_253 ?_
          refine ⟨?_, ?_⟩
          · first | exact congrArg (fun v => some (zl v)) (s8 i (by omega) (by omega)).symm | (exfalso; omega)
          · exact hr
      · refine z_pushJ gp_251_19 ?_
        refine z_iret gi_251_21 gr_251 ?_
        show zW _ _ _ _ _ _ _ _ _ _
        refine z_if_geF gi_253_6 zrn_11 (by decide) ?_
        refine z_pushL (z := (-9223372036854775808)) gi_253_9 rfl ?_
        refine z_goto gi_253_12 ?_
        refine z_lret gi_253_26 gr_253 ?_
        refine ⟨?_, ?_⟩
        · first | exact congrArg (fun v => some (zl v)) (s8 i (by omega) (by omega)).symm | (exfalso; omega)
        · exact hr
theorem st_put_520 {X : Nat × (Nat → Int32)} {d : Nat} {J M : zA} {R : zR} {i v : Int} (hr : Rel X J M R) (hi : -2147483648 ≤ i ∧ i < 2147483648) (hv : -9223372036854775808 ≤ v ∧ v < 9223372036854775808) (hh : J 48 0 = 2) (hso : J 48 2 = 0) : zW X (d + 20) 138 0 (gEn 138 [(.ref 0), (zi 5), (zi i), (zl v)]) [] J M R (stP X (d + 20) 252 [(zi 5), (zi i), (zl v)]) := by
  have hr0 := hr
  obtain ⟨hR, hG, hY, hD, hP, hC, hAc, hS, hTp, hX, hW⟩ := hr0
  have hRr : zRoR R := zRoR_of hR
  have e83 : J 83 5 = -2 - J 48 2 := (hS 5 (by decide) (by decide)).1.symm.trans (cH_2 hh)
  have s3 : 0 ≤ J 48 2 ∧ J 48 2 ≤ 4 := (hS 5 (by decide) (by decide)).2.2.1
  have s4 : 0 ≤ J 48 3 ∧ J 48 3 ≤ 60 := (hS 5 (by decide) (by decide)).2.2.2.1
  have s6 := (hS 5 (by decide) (by decide)).2.2.2.2.2 hh
  have s7 : J 84 5 = J 48 3 := s6.1.symm
  have s8 : ∀ i, 0 ≤ i → i < J 48 3 → M 49 i = M 85 (300 + i) := s6.2.1
  show zW _ _ _ _ [some (.ref 0), some (zi 5), some (zi i), some (zl v), none, none] _ _ _ _ _
  refine z_iload1 gi_138_0 ?_
  refine z_cS1 gi_138_1 (Nat.le_of_ble_eq_true rfl) gc_143_I ?_
  refine z_iload0 gi_143_0 ?_
  refine z_if_ltF gi_143_1 zr_5 (by decide) ?_
  refine z_iload0 gi_143_4 ?_
  refine z_pushJ gp_143_5 ?_
  refine z_icmp_geF gi_143_7 zr_5 zr_6 (by decide) ?_
  refine z_pushJ gp_143_10 ?_
  refine z_goto gi_143_11 ?_
  refine z_bret1 gi_143_15 gr_143 ?_
  show zW _ _ _ _ _ _ _ _ _ _
  refine z_if_neT gi_138_4 zr_1 (by decide) ?_
  refine z_aload0 gi_138_9 ?_
  refine z_getR (r := 37) gi_138_10 gk_0 (hR _ rm_0_11) ?_
  refine z_iload1 gi_138_13 ?_
  refine z_aald (r := 48) gi_138_14 rfl (by decide) (by decide) (hR _ rm_37_5) ?_
  refine z_iload2 gi_138_15 ?_
  refine z_cV1 gi_138_16 gk_48 go_70 (Nat.le_of_ble_eq_true rfl) gc_70_RI ?_
  refine z_aload0 gi_70_0 ?_
  refine z_getI (v := 2) gi_70_1 gk_48 (hh) ?_
  refine z_if_neT gi_70_4 zr_2 (by decide) ?_
  refine z_aload0 gi_70_10 ?_
  refine z_getI (v := 2) gi_70_11 gk_48 (hh) ?_
  refine z_pushJ gp_70_14 ?_
  refine z_icmp_eqT gi_70_15 zr_2 zr_2 (by decide) ?_
  refine z_iload1 gi_70_21 ?_
  refine z_if_lt gi_70_22 (by omega) (fun h1 => ?_) (fun h1 => ?_)
  · refine z_pushJ gp_70_37 ?_
    refine z_iret gi_70_39 gr_70 ?_
    show zW _ _ _ _ _ _ _ _ _ _
    refine z_istore (ls1 := [some (.ref 0), some (zi 5), some (zi i), some (zl v), none, some (zi (-13))]) gi_138_19 rfl ?_
    refine z_iload5 gi_138_21 ?_
    refine z_if_geF gi_138_23 zrn_13 (by decide) ?_
    refine z_iload5 gi_138_26 ?_
    refine z_iret gi_138_28 gr_138 ?_
    refine ⟨_, rfl, ?_⟩
    show zW _ _ _ _ [some (.ref 50), some (zi 5), some (zi i), some (zl v), none, none, none] _ _ _ _ _
    refine z_aload0 gi_252_0 ?_
    refine z_iload1 gi_252_1 ?_
    refine z_iload2 gi_252_2 ?_
    refine z_cV2 gi_252_3 gk_50 go_251 (Nat.le_of_ble_eq_true rfl) gc_251_RII ?_
    refine z_iload1 gi_251_0 ?_
    refine z_cS1 gi_251_1 (Nat.le_of_ble_eq_true rfl) gc_248_I ?_
    refine z_iload0 gi_248_0 ?_
    refine z_pushJ gp_248_1 ?_
    refine z_pushJ gp_248_2 ?_
    refine z_cS3 gi_248_3 (Nat.le_of_ble_eq_true rfl) gc_148_III ?_
    refine z_iload0 gi_148_0 ?_
    refine z_iload1 gi_148_1 ?_
    refine z_icmp_ltF gi_148_2 zr_5 zr_0 (by decide) ?_
    refine z_iload0 gi_148_5 ?_
    refine z_iload2 gi_148_6 ?_
    refine z_icmp_gtF gi_148_7 zr_5 zr_5 (by decide) ?_
    refine z_pushJ gp_148_10 ?_
    refine z_goto gi_148_11 ?_
    refine z_bret1 gi_148_15 gr_148 ?_
    show zW _ _ _ _ _ _ _ _ _ _
    refine z_bret1 gi_248_6 gr_248 ?_
    show zW _ _ _ _ _ _ _ _ _ _
    refine z_if_neT gi_251_4 zr_1 (by decide) ?_
    refine z_aload0 gi_251_9 ?_
    refine z_getR (r := 83) gi_251_10 gk_50 (hRr _ rm_50_58 (by decide)) ?_
    refine z_iload1 gi_251_13 ?_
    refine z_iald (v := (-2)) gi_251_14 gk_83 (by decide) (by decide) ((e83.trans (by rw [hso]; rfl))) ?_
    refine z_pushJ gp_251_15 ?_
    refine z_icmp_neT gi_251_16 zrn_2 zrn_1 (by decide) ?_
    refine z_aload0 gi_251_22 ?_
    refine z_getR (r := 83) gi_251_23 gk_50 (hRr _ rm_50_58 (by decide)) ?_
    refine z_iload1 gi_251_26 ?_
    refine z_iald (v := (-2)) gi_251_27 gk_83 (by decide) (by decide) ((e83.trans (by rw [hso]; rfl))) ?_
    refine z_if_ltT gi_251_28 zrn_2 (by decide) ?_
    refine z_iload2 gi_251_34 ?_
    refine z_pushJ gp_251_35 ?_
    refine z_aload0 gi_251_36 ?_
    refine z_getR (r := 84) gi_251_37 gk_50 (hRr _ rm_50_59 (by decide)) ?_
    refine z_iload1 gi_251_40 ?_
    refine z_iald (v := J 48 3) gi_251_41 gk_84 (by decide) (by decide) (s7) ?_
    refine z_pushJ gp_251_42 ?_
    refine z_isub (e := (J 48 3) - 1) gi_251_43 rfl ?_
    refine z_cS3 gi_251_44 (Nat.le_of_ble_eq_true rfl) gc_148_III ?_
    refine z_iload0 gi_148_0 ?_
    refine z_iload1 gi_148_1 ?_
    refine z_icmp_ltT gi_148_2 (by omega) zr_0 (by omega) ?_
    refine z_pushJ gp_148_14 ?_
    refine z_bret0 gi_148_15 gr_148 ?_
    show zW _ _ _ _ _ _ _ _ _ _
    refine z_if_eqT gi_251_47 zr_0 (by decide) ?_
    refine z_pushJ gp_251_54 ?_
    refine z_iret gi_251_56 gr_251 ?_
    show zW _ _ _ _ _ _ _ _ _ _
    refine z_istore (ls1 := [some (.ref 50), some (zi 5), some (zi i), some (zl v), none, some (zi (-13)), none]) gi_252_6 rfl ?_
    refine z_iload5 gi_252_8 ?_
    refine z_if_geF gi_252_10 zrn_13 (by decide) ?_
    refine z_iload5 gi_252_13 ?_
    refine z_iret gi_252_15 gr_252 ?_
    refine ⟨?_, ?_⟩
    · first | rfl | exact congrArg (fun v => some (zi v)) (by omega) | (exfalso; omega)
    · exact hr
  · refine z_iload1 gi_70_25 ?_
    refine z_aload0 gi_70_26 ?_
    refine z_getI (v := J 48 3) gi_70_27 gk_48 (rfl) ?_
    refine z_icmp_ge gi_70_30 (by omega) (by omega) (fun h2 => ?_) (fun h2 => ?_)
    · refine z_pushJ gp_70_37 ?_
      refine z_iret gi_70_39 gr_70 ?_
      show zW _ _ _ _ _ _ _ _ _ _
      refine z_istore (ls1 := [some (.ref 0), some (zi 5), some (zi i), some (zl v), none, some (zi (-13))]) gi_138_19 rfl ?_
      refine z_iload5 gi_138_21 ?_
      refine z_if_geF gi_138_23 zrn_13 (by decide) ?_
      refine z_iload5 gi_138_26 ?_
      refine z_iret gi_138_28 gr_138 ?_
      refine ⟨_, rfl, ?_⟩
      show zW _ _ _ _ [some (.ref 50), some (zi 5), some (zi i), some (zl v), none, none, none] _ _ _ _ _
      refine z_aload0 gi_252_0 ?_
      refine z_iload1 gi_252_1 ?_
      refine z_iload2 gi_252_2 ?_
      refine z_cV2 gi_252_3 gk_50 go_251 (Nat.le_of_ble_eq_true rfl) gc_251_RII ?_
      refine z_iload1 gi_251_0 ?_
      refine z_cS1 gi_251_1 (Nat.le_of_ble_eq_true rfl) gc_248_I ?_
      refine z_iload0 gi_248_0 ?_
      refine z_pushJ gp_248_1 ?_
      refine z_pushJ gp_248_2 ?_
      refine z_cS3 gi_248_3 (Nat.le_of_ble_eq_true rfl) gc_148_III ?_
      refine z_iload0 gi_148_0 ?_
      refine z_iload1 gi_148_1 ?_
      refine z_icmp_ltF gi_148_2 zr_5 zr_0 (by decide) ?_
      refine z_iload0 gi_148_5 ?_
      refine z_iload2 gi_148_6 ?_
      refine z_icmp_gtF gi_148_7 zr_5 zr_5 (by decide) ?_
      refine z_pushJ gp_148_10 ?_
      refine z_goto gi_148_11 ?_
      refine z_bret1 gi_148_15 gr_148 ?_
      show zW _ _ _ _ _ _ _ _ _ _
      refine z_bret1 gi_248_6 gr_248 ?_
      show zW _ _ _ _ _ _ _ _ _ _
      refine z_if_neT gi_251_4 zr_1 (by decide) ?_
      refine z_aload0 gi_251_9 ?_
      refine z_getR (r := 83) gi_251_10 gk_50 (hRr _ rm_50_58 (by decide)) ?_
      refine z_iload1 gi_251_13 ?_
      refine z_iald (v := (-2)) gi_251_14 gk_83 (by decide) (by decide) ((e83.trans (by rw [hso]; rfl))) ?_
      refine z_pushJ gp_251_15 ?_
      refine z_icmp_neT gi_251_16 zrn_2 zrn_1 (by decide) ?_
      refine z_aload0 gi_251_22 ?_
      refine z_getR (r := 83) gi_251_23 gk_50 (hRr _ rm_50_58 (by decide)) ?_
      refine z_iload1 gi_251_26 ?_
      refine z_iald (v := (-2)) gi_251_27 gk_83 (by decide) (by decide) ((e83.trans (by rw [hso]; rfl))) ?_
      refine z_if_ltT gi_251_28 zrn_2 (by decide) ?_
      refine z_iload2 gi_251_34 ?_
      refine z_pushJ gp_251_35 ?_
      refine z_aload0 gi_251_36 ?_
      refine z_getR (r := 84) gi_251_37 gk_50 (hRr _ rm_50_59 (by decide)) ?_
      refine z_iload1 gi_251_40 ?_
      refine z_iald (v := J 48 3) gi_251_41 gk_84 (by decide) (by decide) (s7) ?_
      refine z_pushJ gp_251_42 ?_
      refine z_isub (e := (J 48 3) - 1) gi_251_43 rfl ?_
      refine z_cS3 gi_251_44 (Nat.le_of_ble_eq_true rfl) gc_148_III ?_
      refine z_iload0 gi_148_0 ?_
      refine z_iload1 gi_148_1 ?_
      refine z_icmp_ltF gi_148_2 (by omega) zr_0 (by omega) ?_
      refine z_iload0 gi_148_5 ?_
      refine z_iload2 gi_148_6 ?_
      refine z_icmp_gtT gi_148_7 (by omega) (by omega) (by omega) ?_
      refine z_pushJ gp_148_14 ?_
      refine z_bret0 gi_148_15 gr_148 ?_
      show zW _ _ _ _ _ _ _ _ _ _
      refine z_if_eqT gi_251_47 zr_0 (by decide) ?_
      refine z_pushJ gp_251_54 ?_
      refine z_iret gi_251_56 gr_251 ?_
      show zW _ _ _ _ _ _ _ _ _ _
      refine z_istore (ls1 := [some (.ref 50), some (zi 5), some (zi i), some (zl v), none, some (zi (-13)), none]) gi_252_6 rfl ?_
      refine z_iload5 gi_252_8 ?_
      refine z_if_geF gi_252_10 zrn_13 (by decide) ?_
      refine z_iload5 gi_252_13 ?_
      refine z_iret gi_252_15 gr_252 ?_
      refine ⟨?_, ?_⟩
      · first | rfl | exact congrArg (fun v => some (zi v)) (by omega) | (exfalso; omega)
      · exact hr
    · refine z_pushJ gp_70_33 ?_
      refine z_goto gi_70_34 ?_
      refine z_iret gi_70_39 gr_70 ?_
      show zW _ _ _ _ _ _ _ _ _ _
      refine z_istore (ls1 := [some (.ref 0), some (zi 5), some (zi i), some (zl v), none, some (zi 0)]) gi_138_19 rfl ?_
      refine z_iload5 gi_138_21 ?_
      refine z_if_geT gi_138_23 zr_0 (by decide) ?_
      refine z_aload0 gi_138_29 ?_
      refine z_getR (r := 37) gi_138_30 gk_0 (hR _ rm_0_11) ?_
      refine z_iload1 gi_138_33 ?_
      refine z_aald (r := 48) gi_138_34 rfl (by decide) (by decide) (hR _ rm_37_5) ?_
      refine z_iload2 gi_138_35 ?_
      refine z_lload3 gi_138_36 ?_
      refine z_callVi (As := [_, _]) (le := [some _, some _, some _, none]) gi_138_37 rfl gk_48 (Nat.le_of_ble_eq_true rfl) (Nat.le_of_ble_eq_true rfl) rfl ?_
      refine z_iload1 gi_73_0 ?_
      refine z_if_ltF gi_73_1 (by omega) (by omega) ?_
      refine z_iload1 gi_73_4 ?_
      refine z_aload0 gi_73_5 ?_
      refine z_getI (v := J 48 3) gi_73_6 gk_48 (rfl) ?_
      refine z_icmp_geF gi_73_9 (by omega) (by omega) (by omega) ?_
      refine z_aload0 gi_73_12 ?_
      refine z_getR (r := 49) gi_73_13 gk_48 (hR _ rm_48_4) ?_
      refine z_iload1 gi_73_16 ?_
      refine z_aload0 gi_73_17 ?_
      refine z_lload2 gi_73_18 ?_
      refine z_callVi (As := [_]) (le := [some _, some _, none]) gi_73_19 rfl gk_48 (Nat.le_of_ble_eq_true rfl) (Nat.le_of_ble_eq_true rfl) rfl ?_
      refine z_aload0 gi_74_0 ?_
      refine z_getI (v := 0) gi_74_1 gk_48 (hso) ?_
      refine z_swI (tg := 40) gi_74_4 (by decide) (T := [((0 : Int), 40), ((1 : Int), 45), ((2 : Int), 50), ((3 : Int), 66), ((4 : Int), 54)]) rfl (by decide) ?_
      refine z_lload1 gi_74_40 ?_
      refine z_l2i gi_74_41 ?_
      refine z_i2b (e := zb v) gi_74_42 rfl ?_
      have q3 := zb_r v
      refine z_i2l gi_74_43 (by omega) ?_
      refine z_lret gi_74_44 gr_74 ?_
      show zW _ _ _ _ _ _ _ _ _ _
      refine z_last (e := zb v) gi_73_22 gk_49 (by decide) (by omega) rfl ?_
      refine z_vret gi_73_23 gr_73 ?_
      show zW _ _ _ _ _ _ _ _ _ _
      refine z_pushJ gp_138_40 ?_
      refine z_iret gi_138_41 gr_138 ?_
      refine ⟨_, rfl, ?_⟩
      show zW _ _ _ _ [some (.ref 50), some (zi 5), some (zi i), some (zl v), none, none, none] _ _ _ _ _
      refine z_aload0 gi_252_0 ?_
      refine z_iload1 gi_252_1 ?_
      refine z_iload2 gi_252_2 ?_
      refine z_cV2 gi_252_3 gk_50 go_251 (Nat.le_of_ble_eq_true rfl) gc_251_RII ?_
      refine z_iload1 gi_251_0 ?_
      refine z_cS1 gi_251_1 (Nat.le_of_ble_eq_true rfl) gc_248_I ?_
      refine z_iload0 gi_248_0 ?_
      refine z_pushJ gp_248_1 ?_
      refine z_pushJ gp_248_2 ?_
      refine z_cS3 gi_248_3 (Nat.le_of_ble_eq_true rfl) gc_148_III ?_
      refine z_iload0 gi_148_0 ?_
      refine z_iload1 gi_148_1 ?_
      refine z_icmp_ltF gi_148_2 zr_5 zr_0 (by decide) ?_
      refine z_iload0 gi_148_5 ?_
      refine z_iload2 gi_148_6 ?_
      refine z_icmp_gtF gi_148_7 zr_5 zr_5 (by decide) ?_
      refine z_pushJ gp_148_10 ?_
      refine z_goto gi_148_11 ?_
      refine z_bret1 gi_148_15 gr_148 ?_
      show zW _ _ _ _ _ _ _ _ _ _
      refine z_bret1 gi_248_6 gr_248 ?_
      show zW _ _ _ _ _ _ _ _ _ _
      refine z_if_neT gi_251_4 zr_1 (by decide) ?_
      refine z_aload0 gi_251_9 ?_
      refine z_getR (r := 83) gi_251_10 gk_50 (hRr _ rm_50_58 (by decide)) ?_
      refine z_iload1 gi_251_13 ?_
      refine z_iald (v := (-2)) gi_251_14 gk_83 (by decide) (by decide) ((e83.trans (by rw [hso]; rfl))) ?_
      refine z_pushJ gp_251_15 ?_
      refine z_icmp_neT gi_251_16 zrn_2 zrn_1 (by decide) ?_
      refine z_aload0 gi_251_22 ?_
      refine z_getR (r := 83) gi_251_23 gk_50 (hRr _ rm_50_58 (by decide)) ?_
      refine z_iload1 gi_251_26 ?_
      refine z_iald (v := (-2)) gi_251_27 gk_83 (by decide) (by decide) ((e83.trans (by rw [hso]; rfl))) ?_
      refine z_if_ltT gi_251_28 zrn_2 (by decide) ?_
      refine z_iload2 gi_251_34 ?_
      refine z_pushJ gp_251_35 ?_
      refine z_aload0 gi_251_36 ?_
      refine z_getR (r := 84) gi_251_37 gk_50 (hRr _ rm_50_59 (by decide)) ?_
      refine z_iload1 gi_251_40 ?_
      refine z_iald (v := J 48 3) gi_251_41 gk_84 (by decide) (by decide) (s7) ?_
      refine z_pushJ gp_251_42 ?_
      refine z_isub (e := (J 48 3) - 1) gi_251_43 rfl ?_
      refine z_cS3 gi_251_44 (Nat.le_of_ble_eq_true rfl) gc_148_III ?_
      refine z_iload0 gi_148_0 ?_
      refine z_iload1 gi_148_1 ?_
      refine z_icmp_ltF gi_148_2 (by omega) zr_0 (by omega) ?_
      refine z_iload0 gi_148_5 ?_
      refine z_iload2 gi_148_6 ?_
      refine z_icmp_gtF gi_148_7 (by omega) (by omega) (by omega) ?_
      refine z_pushJ gp_148_10 ?_
      refine z_goto gi_148_11 ?_
      refine z_bret1 gi_148_15 gr_148 ?_
      show zW _ _ _ _ _ _ _ _ _ _
      refine z_if_eqF gi_251_47 zr_1 (by decide) ?_
      refine z_pushJ gp_251_50 ?_
      refine z_goto gi_251_51 ?_
      refine z_iret gi_251_56 gr_251 ?_
      show zW _ _ _ _ _ _ _ _ _ _
      refine z_istore (ls1 := [some (.ref 50), some (zi 5), some (zi i), some (zl v), none, some (zi 0), none]) gi_252_6 rfl ?_
      refine z_iload5 gi_252_8 ?_
      refine z_if_geT gi_252_10 zr_0 (by decide) ?_
      refine z_pushJ gp_252_16 ?_
      refine z_aload0 gi_252_18 ?_
      refine z_getR (r := 83) gi_252_19 gk_50 (hRr _ rm_50_58 (by decide)) ?_
      refine z_iload1 gi_252_22 ?_
      refine z_iald (v := (-2)) gi_252_23 gk_83 (by decide) (by decide) ((e83.trans (by rw [hso]; rfl))) ?_
      refine z_isub (e := 0) gi_252_24 rfl ?_
      refine z_istore (ls1 := [some (.ref 50), some (zi 5), some (zi i), some (zl v), none, some (zi 0), some (zi 0)]) gi_252_25 rfl ?_
      refine z_aload0 gi_252_27 ?_
      refine z_getR (r := 85) gi_252_28 gk_50 (hRr _ rm_50_60 (by decide)) ?_
      refine z_pushJ gp_252_31 ?_
      refine z_iload1 gi_252_33 ?_
      refine z_imul (e := 300) gi_252_34 rfl ?_
      refine z_iload2 gi_252_35 ?_
      refine z_iadd (e := 300 + i) gi_252_36 rfl ?_
      refine z_iload6 gi_252_37 ?_
      refine z_if_neF gi_252_39 zr_0 (by decide) ?_
      refine z_lload3 gi_252_42 ?_
      refine z_l2i gi_252_43 ?_
      refine z_i2b (e := zb v) gi_252_44 rfl ?_
      have q4 := zb_r v
      refine z_i2l gi_252_45 (by omega) ?_
      refine z_goto gi_252_46 ?_
      refine z_last (e := zb v) gi_252_95 gk_85 (by decide) (by omega) rfl ?_
      refine z_pushJ gp_252_96 ?_
      refine z_iret gi_252_97 gr_252 ?_
      refine ⟨?_, ?_⟩
      · first | rfl | exact congrArg (fun v => some (zi v)) (by omega) | (exfalso; omega)
      · have hk := (zK_r (k := (kL [] [])) (A := J))
        have hkm := (zK_x (a := 85) (x := 300 + i) (v := zb v) (zK_x (a := 49) (x := i) (v := zb v) (zK_r (k := (kL [49, 85] [])) (A := M)) rfl) rfl)
        exact ⟨hR, hG, RelY_k hk (by repeat' constructor) (fun p => by repeat' constructor) hY, RelD_k hk (by repeat' constructor) (fun p => by repeat' constructor) hD, RelP_k hk (by repeat' constructor) (fun p => by repeat' constructor) hP, RelC_k hk (by repeat' constructor) (fun p => by repeat' constructor) hC, RelA_k hk (by repeat' constructor) (fun p => by repeat' constructor) hAc, (RelS_one (J := J) (M := M) (c := 5) (fun t t1 t2 te => by have q : t = 0 ∨ t = 1 ∨ t = 2 ∨ t = 3 ∨ t = 4 ∨ t = 5 := (by omega); rcases q with rfl | rfl | rfl | rfl | rfl | rfl <;> first | exact absurd rfl te | exact ⟨fun j => rfl, rfl, rfl⟩) (fun t t1 t2 te => by have q : t = 0 ∨ t = 1 ∨ t = 2 ∨ t = 3 ∨ t = 4 ∨ t = 5 := (by omega); rcases q with rfl | rfl | rfl | rfl | rfl | rfl <;> first | exact absurd rfl te | exact ⟨fun j => rfl, fun j j1 j2 => (zU_x (by omega)).trans (zU_n (by decide))⟩) rfl (show RelS1 _ _ _ from ⟨(hS 5 (by decide) (by decide)).1, (hS 5 (by decide) (by decide)).2.1, s3, s4, (hS 5 (by decide) (by decide)).2.2.2.2.1, fun _ => ⟨s7.symm, fun k k1 k2 => by show (if k = i then zb v else M 49 k) = (if 300 + k = 300 + i then zb v else M 85 (300 + k)); by_cases e : k = i; rw [if_pos e, if_pos (by omega)]; rw [if_neg e, if_neg (by omega)]; exact s8 k k1 k2, (fun hq k k1 k2 => by show -128 ≤ (if k = i then zb v else M 49 k) ∧ (if k = i then zb v else M 49 k) ≤ 127; split <;> first | (have := zb_r v; omega) | exact s6.2.2 hq k k1 k2)⟩⟩) hS), RelT_k hk (by repeat' constructor) (fun p => by repeat' constructor) hTp, RelX_k hk (by repeat' constructor) (fun p => by repeat' constructor) hX, RelW_k hk ⟨rfl, rfl⟩ trivial hW⟩
theorem st_put_521 {X : Nat × (Nat → Int32)} {d : Nat} {J M : zA} {R : zR} {i v : Int} (hr : Rel X J M R) (hi : -2147483648 ≤ i ∧ i < 2147483648) (hv : -9223372036854775808 ≤ v ∧ v < 9223372036854775808) (hh : J 48 0 = 2) (hso : J 48 2 = 1) : zW X (d + 20) 138 0 (gEn 138 [(.ref 0), (zi 5), (zi i), (zl v)]) [] J M R (stP X (d + 20) 252 [(zi 5), (zi i), (zl v)]) := by
  have hr0 := hr
  obtain ⟨hR, hG, hY, hD, hP, hC, hAc, hS, hTp, hX, hW⟩ := hr0
  have hRr : zRoR R := zRoR_of hR
  have e83 : J 83 5 = -2 - J 48 2 := (hS 5 (by decide) (by decide)).1.symm.trans (cH_2 hh)
  have s3 : 0 ≤ J 48 2 ∧ J 48 2 ≤ 4 := (hS 5 (by decide) (by decide)).2.2.1
  have s4 : 0 ≤ J 48 3 ∧ J 48 3 ≤ 60 := (hS 5 (by decide) (by decide)).2.2.2.1
  have s6 := (hS 5 (by decide) (by decide)).2.2.2.2.2 hh
  have s7 : J 84 5 = J 48 3 := s6.1.symm
  have s8 : ∀ i, 0 ≤ i → i < J 48 3 → M 49 i = M 85 (300 + i) := s6.2.1
  show zW _ _ _ _ [some (.ref 0), some (zi 5), some (zi i), some (zl v), none, none] _ _ _ _ _
  refine z_iload1 gi_138_0 ?_
  refine z_cS1 gi_138_1 (Nat.le_of_ble_eq_true rfl) gc_143_I ?_
  refine z_iload0 gi_143_0 ?_
  refine z_if_ltF gi_143_1 zr_5 (by decide) ?_
  refine z_iload0 gi_143_4 ?_
  refine z_pushJ gp_143_5 ?_
  refine z_icmp_geF gi_143_7 zr_5 zr_6 (by decide) ?_
  refine z_pushJ gp_143_10 ?_
  refine z_goto gi_143_11 ?_
  refine z_bret1 gi_143_15 gr_143 ?_
  show zW _ _ _ _ _ _ _ _ _ _
  refine z_if_neT gi_138_4 zr_1 (by decide) ?_
  refine z_aload0 gi_138_9 ?_
  refine z_getR (r := 37) gi_138_10 gk_0 (hR _ rm_0_11) ?_
  refine z_iload1 gi_138_13 ?_
  refine z_aald (r := 48) gi_138_14 rfl (by decide) (by decide) (hR _ rm_37_5) ?_
  refine z_iload2 gi_138_15 ?_
  refine z_cV1 gi_138_16 gk_48 go_70 (Nat.le_of_ble_eq_true rfl) gc_70_RI ?_
  refine z_aload0 gi_70_0 ?_
  refine z_getI (v := 2) gi_70_1 gk_48 (hh) ?_
  refine z_if_neT gi_70_4 zr_2 (by decide) ?_
  refine z_aload0 gi_70_10 ?_
  refine z_getI (v := 2) gi_70_11 gk_48 (hh) ?_
  refine z_pushJ gp_70_14 ?_
  refine z_icmp_eqT gi_70_15 zr_2 zr_2 (by decide) ?_
  refine z_iload1 gi_70_21 ?_
  refine z_if_lt gi_70_22 (by omega) (fun h1 => ?_) (fun h1 => ?_)
  · refine z_pushJ gp_70_37 ?_
    refine z_iret gi_70_39 gr_70 ?_
    show zW _ _ _ _ _ _ _ _ _ _
    refine z_istore (ls1 := [some (.ref 0), some (zi 5), some (zi i), some (zl v), none, some (zi (-13))]) gi_138_19 rfl ?_
    refine z_iload5 gi_138_21 ?_
    refine z_if_geF gi_138_23 zrn_13 (by decide) ?_
    refine z_iload5 gi_138_26 ?_
    refine z_iret gi_138_28 gr_138 ?_
    refine ⟨_, rfl, ?_⟩
    show zW _ _ _ _ [some (.ref 50), some (zi 5), some (zi i), some (zl v), none, none, none] _ _ _ _ _
    refine z_aload0 gi_252_0 ?_
    refine z_iload1 gi_252_1 ?_
    refine z_iload2 gi_252_2 ?_
    refine z_cV2 gi_252_3 gk_50 go_251 (Nat.le_of_ble_eq_true rfl) gc_251_RII ?_
    refine z_iload1 gi_251_0 ?_
    refine z_cS1 gi_251_1 (Nat.le_of_ble_eq_true rfl) gc_248_I ?_
    refine z_iload0 gi_248_0 ?_
    refine z_pushJ gp_248_1 ?_
    refine z_pushJ gp_248_2 ?_
    refine z_cS3 gi_248_3 (Nat.le_of_ble_eq_true rfl) gc_148_III ?_
    refine z_iload0 gi_148_0 ?_
    refine z_iload1 gi_148_1 ?_
    refine z_icmp_ltF gi_148_2 zr_5 zr_0 (by decide) ?_
    refine z_iload0 gi_148_5 ?_
    refine z_iload2 gi_148_6 ?_
    refine z_icmp_gtF gi_148_7 zr_5 zr_5 (by decide) ?_
    refine z_pushJ gp_148_10 ?_
    refine z_goto gi_148_11 ?_
    refine z_bret1 gi_148_15 gr_148 ?_
    show zW _ _ _ _ _ _ _ _ _ _
    refine z_bret1 gi_248_6 gr_248 ?_
    show zW _ _ _ _ _ _ _ _ _ _
    refine z_if_neT gi_251_4 zr_1 (by decide) ?_
    refine z_aload0 gi_251_9 ?_
    refine z_getR (r := 83) gi_251_10 gk_50 (hRr _ rm_50_58 (by decide)) ?_
    refine z_iload1 gi_251_13 ?_
    refine z_iald (v := (-3)) gi_251_14 gk_83 (by decide) (by decide) ((e83.trans (by rw [hso]; rfl))) ?_
    refine z_pushJ gp_251_15 ?_
    refine z_icmp_neT gi_251_16 zrn_3 zrn_1 (by decide) ?_
    refine z_aload0 gi_251_22 ?_
    refine z_getR (r := 83) gi_251_23 gk_50 (hRr _ rm_50_58 (by decide)) ?_
    refine z_iload1 gi_251_26 ?_
    refine z_iald (v := (-3)) gi_251_27 gk_83 (by decide) (by decide) ((e83.trans (by rw [hso]; rfl))) ?_
    refine z_if_ltT gi_251_28 zrn_3 (by decide) ?_
    refine z_iload2 gi_251_34 ?_
    refine z_pushJ gp_251_35 ?_
    refine z_aload0 gi_251_36 ?_
    refine z_getR (r := 84) gi_251_37 gk_50 (hRr _ rm_50_59 (by decide)) ?_
    refine z_iload1 gi_251_40 ?_
    refine z_iald (v := J 48 3) gi_251_41 gk_84 (by decide) (by decide) (s7) ?_
    refine z_pushJ gp_251_42 ?_
    refine z_isub (e := (J 48 3) - 1) gi_251_43 rfl ?_
    refine z_cS3 gi_251_44 (Nat.le_of_ble_eq_true rfl) gc_148_III ?_
    refine z_iload0 gi_148_0 ?_
    refine z_iload1 gi_148_1 ?_
    refine z_icmp_ltT gi_148_2 (by omega) zr_0 (by omega) ?_
    refine z_pushJ gp_148_14 ?_
    refine z_bret0 gi_148_15 gr_148 ?_
    show zW _ _ _ _ _ _ _ _ _ _
    refine z_if_eqT gi_251_47 zr_0 (by decide) ?_
    refine z_pushJ gp_251_54 ?_
    refine z_iret gi_251_56 gr_251 ?_
    show zW _ _ _ _ _ _ _ _ _ _
    refine z_istore (ls1 := [some (.ref 50), some (zi 5), some (zi i), some (zl v), none, some (zi (-13)), none]) gi_252_6 rfl ?_
    refine z_iload5 gi_252_8 ?_
    refine z_if_geF gi_252_10 zrn_13 (by decide) ?_
    refine z_iload5 gi_252_13 ?_
    refine z_iret gi_252_15 gr_252 ?_
    refine ⟨?_, ?_⟩
    · first | rfl | exact congrArg (fun v => some (zi v)) (by omega) | (exfalso; omega)
    · exact hr
  · refine z_iload1 gi_70_25 ?_
    refine z_aload0 gi_70_26 ?_
    refine z_getI (v := J 48 3) gi_70_27 gk_48 (rfl) ?_
    refine z_icmp_ge gi_70_30 (by omega) (by omega) (fun h2 => ?_) (fun h2 => ?_)
    · refine z_pushJ gp_70_37 ?_
      refine z_iret gi_70_39 gr_70 ?_
      show zW _ _ _ _ _ _ _ _ _ _
      refine z_istore (ls1 := [some (.ref 0), some (zi 5), some (zi i), some (zl v), none, some (zi (-13))]) gi_138_19 rfl ?_
      refine z_iload5 gi_138_21 ?_
      refine z_if_geF gi_138_23 zrn_13 (by decide) ?_
      refine z_iload5 gi_138_26 ?_
      refine z_iret gi_138_28 gr_138 ?_
      refine ⟨_, rfl, ?_⟩
      show zW _ _ _ _ [some (.ref 50), some (zi 5), some (zi i), some (zl v), none, none, none] _ _ _ _ _
      refine z_aload0 gi_252_0 ?_
      refine z_iload1 gi_252_1 ?_
      refine z_iload2 gi_252_2 ?_
      refine z_cV2 gi_252_3 gk_50 go_251 (Nat.le_of_ble_eq_true rfl) gc_251_RII ?_
      refine z_iload1 gi_251_0 ?_
      refine z_cS1 gi_251_1 (Nat.le_of_ble_eq_true rfl) gc_248_I ?_
      refine z_iload0 gi_248_0 ?_
      refine z_pushJ gp_248_1 ?_
      refine z_pushJ gp_248_2 ?_
      refine z_cS3 gi_248_3 (Nat.le_of_ble_eq_true rfl) gc_148_III ?_
      refine z_iload0 gi_148_0 ?_
      refine z_iload1 gi_148_1 ?_
      refine z_icmp_ltF gi_148_2 zr_5 zr_0 (by decide) ?_
      refine z_iload0 gi_148_5 ?_
      refine z_iload2 gi_148_6 ?_
      refine z_icmp_gtF gi_148_7 zr_5 zr_5 (by decide) ?_
      refine z_pushJ gp_148_10 ?_
      refine z_goto gi_148_11 ?_
      refine z_bret1 gi_148_15 gr_148 ?_
      show zW _ _ _ _ _ _ _ _ _ _
      refine z_bret1 gi_248_6 gr_248 ?_
      show zW _ _ _ _ _ _ _ _ _ _
      refine z_if_neT gi_251_4 zr_1 (by decide) ?_
      refine z_aload0 gi_251_9 ?_
      refine z_getR (r := 83) gi_251_10 gk_50 (hRr _ rm_50_58 (by decide)) ?_
      refine z_iload1 gi_251_13 ?_
      refine z_iald (v := (-3)) gi_251_14 gk_83 (by decide) (by decide) ((e83.trans (by rw [hso]; rfl))) ?_
      refine z_pushJ gp_251_15 ?_
      refine z_icmp_neT gi_251_16 zrn_3 zrn_1 (by decide) ?_
      refine z_aload0 gi_251_22 ?_
      refine z_getR (r := 83) gi_251_23 gk_50 (hRr _ rm_50_58 (by decide)) ?_
      refine z_iload1 gi_251_26 ?_
      refine z_iald (v := (-3)) gi_251_27 gk_83 (by decide) (by decide) ((e83.trans (by rw [hso]; rfl))) ?_
      refine z_if_ltT gi_251_28 zrn_3 (by decide) ?_
      refine z_iload2 gi_251_34 ?_
      refine z_pushJ gp_251_35 ?_
      refine z_aload0 gi_251_36 ?_
      refine z_getR (r := 84) gi_251_37 gk_50 (hRr _ rm_50_59 (by decide)) ?_
      refine z_iload1 gi_251_40 ?_
      refine z_iald (v := J 48 3) gi_251_41 gk_84 (by decide) (by decide) (s7) ?_
      refine z_pushJ gp_251_42 ?_
      refine z_isub (e := (J 48 3) - 1) gi_251_43 rfl ?_
      refine z_cS3 gi_251_44 (Nat.le_of_ble_eq_true rfl) gc_148_III ?_
      refine z_iload0 gi_148_0 ?_
      refine z_iload1 gi_148_1 ?_
      refine z_icmp_ltF gi_148_2 (by omega) zr_0 (by omega) ?_
      refine z_iload0 gi_148_5 ?_
      refine z_iload2 gi_148_6 ?_
      refine z_icmp_gtT gi_148_7 (by omega) (by omega) (by omega) ?_
      refine z_pushJ gp_148_14 ?_
      refine z_bret0 gi_148_15 gr_148 ?_
      show zW _ _ _ _ _ _ _ _ _ _
      refine z_if_eqT gi_251_47 zr_0 (by decide) ?_
      refine z_pushJ gp_251_54 ?_
      refine z_iret gi_251_56 gr_251 ?_
      show zW _ _ _ _ _ _ _ _ _ _
      refine z_istore (ls1 := [some (.ref 50), some (zi 5), some (zi i), some (zl v), none, some (zi (-13)), none]) gi_252_6 rfl ?_
      refine z_iload5 gi_252_8 ?_
      refine z_if_geF gi_252_10 zrn_13 (by decide) ?_
      refine z_iload5 gi_252_13 ?_
      refine z_iret gi_252_15 gr_252 ?_
      refine ⟨?_, ?_⟩
      · first | rfl | exact congrArg (fun v => some (zi v)) (by omega) | (exfalso; omega)
      · exact hr
    · refine z_pushJ gp_70_33 ?_
      refine z_goto gi_70_34 ?_
      refine z_iret gi_70_39 gr_70 ?_
      show zW _ _ _ _ _ _ _ _ _ _
      refine z_istore (ls1 := [some (.ref 0), some (zi 5), some (zi i), some (zl v), none, some (zi 0)]) gi_138_19 rfl ?_
      refine z_iload5 gi_138_21 ?_
      refine z_if_geT gi_138_23 zr_0 (by decide) ?_
      refine z_aload0 gi_138_29 ?_
      refine z_getR (r := 37) gi_138_30 gk_0 (hR _ rm_0_11) ?_
      refine z_iload1 gi_138_33 ?_
      refine z_aald (r := 48) gi_138_34 rfl (by decide) (by decide) (hR _ rm_37_5) ?_
      refine z_iload2 gi_138_35 ?_
      refine z_lload3 gi_138_36 ?_
      refine z_callVi (As := [_, _]) (le := [some _, some _, some _, none]) gi_138_37 rfl gk_48 (Nat.le_of_ble_eq_true rfl) (Nat.le_of_ble_eq_true rfl) rfl ?_
      refine z_iload1 gi_73_0 ?_
      refine z_if_ltF gi_73_1 (by omega) (by omega) ?_
      refine z_iload1 gi_73_4 ?_
      refine z_aload0 gi_73_5 ?_
      refine z_getI (v := J 48 3) gi_73_6 gk_48 (rfl) ?_
      refine z_icmp_geF gi_73_9 (by omega) (by omega) (by omega) ?_
      refine z_aload0 gi_73_12 ?_
      refine z_getR (r := 49) gi_73_13 gk_48 (hR _ rm_48_4) ?_
      refine z_iload1 gi_73_16 ?_
      refine z_aload0 gi_73_17 ?_
      refine z_lload2 gi_73_18 ?_
      refine z_callVi (As := [_]) (le := [some _, some _, none]) gi_73_19 rfl gk_48 (Nat.le_of_ble_eq_true rfl) (Nat.le_of_ble_eq_true rfl) rfl ?_
      refine z_aload0 gi_74_0 ?_
      refine z_getI (v := 1) gi_74_1 gk_48 (hso) ?_
      refine z_swI (tg := 45) gi_74_4 (by decide) (T := [((0 : Int), 40), ((1 : Int), 45), ((2 : Int), 50), ((3 : Int), 66), ((4 : Int), 54)]) rfl (by decide) ?_
      refine z_lload1 gi_74_45 ?_
      refine z_l2i gi_74_46 ?_
      refine z_i2s (e := zh v) gi_74_47 rfl ?_
      have q3 := zh_r v
      refine z_i2l gi_74_48 (by omega) ?_
      refine z_lret gi_74_49 gr_74 ?_
      show zW _ _ _ _ _ _ _ _ _ _
      refine z_last (e := zh v) gi_73_22 gk_49 (by decide) (by omega) rfl ?_
      refine z_vret gi_73_23 gr_73 ?_
      show zW _ _ _ _ _ _ _ _ _ _
      refine z_pushJ gp_138_40 ?_
      refine z_iret gi_138_41 gr_138 ?_
      refine ⟨_, rfl, ?_⟩
      show zW _ _ _ _ [some (.ref 50), some (zi 5), some (zi i), some (zl v), none, none, none] _ _ _ _ _
      refine z_aload0 gi_252_0 ?_
      refine z_iload1 gi_252_1 ?_
      refine z_iload2 gi_252_2 ?_
      refine z_cV2 gi_252_3 gk_50 go_251 (Nat.le_of_ble_eq_true rfl) gc_251_RII ?_
      refine z_iload1 gi_251_0 ?_
      refine z_cS1 gi_251_1 (Nat.le_of_ble_eq_true rfl) gc_248_I ?_
      refine z_iload0 gi_248_0 ?_
      refine z_pushJ gp_248_1 ?_
      refine z_pushJ gp_248_2 ?_
      refine z_cS3 gi_248_3 (Nat.le_of_ble_eq_true rfl) gc_148_III ?_
      refine z_iload0 gi_148_0 ?_
      refine z_iload1 gi_148_1 ?_
      refine z_icmp_ltF gi_148_2 zr_5 zr_0 (by decide) ?_
      refine z_iload0 gi_148_5 ?_
      refine z_iload2 gi_148_6 ?_
      refine z_icmp_gtF gi_148_7 zr_5 zr_5 (by decide) ?_
      refine z_pushJ gp_148_10 ?_
      refine z_goto gi_148_11 ?_
      refine z_bret1 gi_148_15 gr_148 ?_
      show zW _ _ _ _ _ _ _ _ _ _
      refine z_bret1 gi_248_6 gr_248 ?_
      show zW _ _ _ _ _ _ _ _ _ _
      refine z_if_neT gi_251_4 zr_1 (by decide) ?_
      refine z_aload0 gi_251_9 ?_
      refine z_getR (r := 83) gi_251_10 gk_50 (hRr _ rm_50_58 (by decide)) ?_
      refine z_iload1 gi_251_13 ?_
      refine z_iald (v := (-3)) gi_251_14 gk_83 (by decide) (by decide) ((e83.trans (by rw [hso]; rfl))) ?_
      refine z_pushJ gp_251_15 ?_
      refine z_icmp_neT gi_251_16 zrn_3 zrn_1 (by decide) ?_
      refine z_aload0 gi_251_22 ?_
      refine z_getR (r := 83) gi_251_23 gk_50 (hRr _ rm_50_58 (by decide)) ?_
      refine z_iload1 gi_251_26 ?_
      refine z_iald (v := (-3)) gi_251_27 gk_83 (by decide) (by decide) ((e83.trans (by rw [hso]; rfl))) ?_
      refine z_if_ltT gi_251_28 zrn_3 (by decide) ?_
      refine z_iload2 gi_251_34 ?_
      refine z_pushJ gp_251_35 ?_
      refine z_aload0 gi_251_36 ?_
      refine z_getR (r := 84) gi_251_37 gk_50 (hRr _ rm_50_59 (by decide)) ?_
      refine z_iload1 gi_251_40 ?_
      refine z_iald (v := J 48 3) gi_251_41 gk_84 (by decide) (by decide) (s7) ?_
      refine z_pushJ gp_251_42 ?_
      refine z_isub (e := (J 48 3) - 1) gi_251_43 rfl ?_
      refine z_cS3 gi_251_44 (Nat.le_of_ble_eq_true rfl) gc_148_III ?_
      refine z_iload0 gi_148_0 ?_
      refine z_iload1 gi_148_1 ?_
      refine z_icmp_ltF gi_148_2 (by omega) zr_0 (by omega) ?_
      refine z_iload0 gi_148_5 ?_
      refine z_iload2 gi_148_6 ?_
      refine z_icmp_gtF gi_148_7 (by omega) (by omega) (by omega) ?_
      refine z_pushJ gp_148_10 ?_
      refine z_goto gi_148_11 ?_
      refine z_bret1 gi_148_15 gr_148 ?_
      show zW _ _ _ _ _ _ _ _ _ _
      refine z_if_eqF gi_251_47 zr_1 (by decide) ?_
      refine z_pushJ gp_251_50 ?_
      refine z_goto gi_251_51 ?_
      refine z_iret gi_251_56 gr_251 ?_
      show zW _ _ _ _ _ _ _ _ _ _
      refine z_istore (ls1 := [some (.ref 50), some (zi 5), some (zi i), some (zl v), none, some (zi 0), none]) gi_252_6 rfl ?_
      refine z_iload5 gi_252_8 ?_
      refine z_if_geT gi_252_10 zr_0 (by decide) ?_
      refine z_pushJ gp_252_16 ?_
      refine z_aload0 gi_252_18 ?_
      refine z_getR (r := 83) gi_252_19 gk_50 (hRr _ rm_50_58 (by decide)) ?_
      refine z_iload1 gi_252_22 ?_
      refine z_iald (v := (-3)) gi_252_23 gk_83 (by decide) (by decide) ((e83.trans (by rw [hso]; rfl))) ?_
      refine z_isub (e := 1) gi_252_24 rfl ?_
      refine z_istore (ls1 := [some (.ref 50), some (zi 5), some (zi i), some (zl v), none, some (zi 0), some (zi 1)]) gi_252_25 rfl ?_
      refine z_aload0 gi_252_27 ?_
      refine z_getR (r := 85) gi_252_28 gk_50 (hRr _ rm_50_60 (by decide)) ?_
      refine z_pushJ gp_252_31 ?_
      refine z_iload1 gi_252_33 ?_
      refine z_imul (e := 300) gi_252_34 rfl ?_
      refine z_iload2 gi_252_35 ?_
      refine z_iadd (e := 300 + i) gi_252_36 rfl ?_
      refine z_iload6 gi_252_37 ?_
      refine z_if_neT gi_252_39 zr_1 (by decide) ?_
      refine z_iload6 gi_252_49 ?_
      refine z_pushJ gp_252_51 ?_
      refine z_icmp_neF gi_252_52 zr_1 zr_1 (by decide) ?_
      refine z_lload3 gi_252_55 ?_
      refine z_l2i gi_252_56 ?_
      refine z_i2s (e := zh v) gi_252_57 rfl ?_
      have q4 := zh_r v
      refine z_i2l gi_252_58 (by omega) ?_
      refine z_goto gi_252_59 ?_
      refine z_last (e := zh v) gi_252_95 gk_85 (by decide) (by omega) rfl ?_
      refine z_pushJ gp_252_96 ?_
      refine z_iret gi_252_97 gr_252 ?_
      refine ⟨?_, ?_⟩
      · first | rfl | exact congrArg (fun v => some (zi v)) (by omega) | (exfalso; omega)
      · have hk := (zK_r (k := (kL [] [])) (A := J))
        have hkm := (zK_x (a := 85) (x := 300 + i) (v := zh v) (zK_x (a := 49) (x := i) (v := zh v) (zK_r (k := (kL [49, 85] [])) (A := M)) rfl) rfl)
        exact ⟨hR, hG, RelY_k hk (by repeat' constructor) (fun p => by repeat' constructor) hY, RelD_k hk (by repeat' constructor) (fun p => by repeat' constructor) hD, RelP_k hk (by repeat' constructor) (fun p => by repeat' constructor) hP, RelC_k hk (by repeat' constructor) (fun p => by repeat' constructor) hC, RelA_k hk (by repeat' constructor) (fun p => by repeat' constructor) hAc, (RelS_one (J := J) (M := M) (c := 5) (fun t t1 t2 te => by have q : t = 0 ∨ t = 1 ∨ t = 2 ∨ t = 3 ∨ t = 4 ∨ t = 5 := (by omega); rcases q with rfl | rfl | rfl | rfl | rfl | rfl <;> first | exact absurd rfl te | exact ⟨fun j => rfl, rfl, rfl⟩) (fun t t1 t2 te => by have q : t = 0 ∨ t = 1 ∨ t = 2 ∨ t = 3 ∨ t = 4 ∨ t = 5 := (by omega); rcases q with rfl | rfl | rfl | rfl | rfl | rfl <;> first | exact absurd rfl te | exact ⟨fun j => rfl, fun j j1 j2 => (zU_x (by omega)).trans (zU_n (by decide))⟩) rfl (show RelS1 _ _ _ from ⟨(hS 5 (by decide) (by decide)).1, (hS 5 (by decide) (by decide)).2.1, s3, s4, (hS 5 (by decide) (by decide)).2.2.2.2.1, fun _ => ⟨s7.symm, fun k k1 k2 => by show (if k = i then zh v else M 49 k) = (if 300 + k = 300 + i then zh v else M 85 (300 + k)); by_cases e : k = i; rw [if_pos e, if_pos (by omega)]; rw [if_neg e, if_neg (by omega)]; exact s8 k k1 k2, (fun hq => absurd (Eq.trans (Eq.symm hq) hso) (by decide))⟩⟩) hS), RelT_k hk (by repeat' constructor) (fun p => by repeat' constructor) hTp, RelX_k hk (by repeat' constructor) (fun p => by repeat' constructor) hX, RelW_k hk ⟨rfl, rfl⟩ trivial hW⟩
theorem st_put_522 {X : Nat × (Nat → Int32)} {d : Nat} {J M : zA} {R : zR} {i v : Int} (hr : Rel X J M R) (hi : -2147483648 ≤ i ∧ i < 2147483648) (hv : -9223372036854775808 ≤ v ∧ v < 9223372036854775808) (hh : J 48 0 = 2) (hso : J 48 2 = 2) : zW X (d + 20) 138 0 (gEn 138 [(.ref 0), (zi 5), (zi i), (zl v)]) [] J M R (stP X (d + 20) 252 [(zi 5), (zi i), (zl v)]) := by
  have hr0 := hr
  obtain ⟨hR, hG, hY, hD, hP, hC, hAc, hS, hTp, hX, hW⟩ := hr0
  have hRr : zRoR R := zRoR_of hR
  have e83 : J 83 5 = -2 - J 48 2 := (hS 5 (by decide) (by decide)).1.symm.trans (cH_2 hh)
  have s3 : 0 ≤ J 48 2 ∧ J 48 2 ≤ 4 := (hS 5 (by decide) (by decide)).2.2.1
  have s4 : 0 ≤ J 48 3 ∧ J 48 3 ≤ 60 := (hS 5 (by decide) (by decide)).2.2.2.1
  have s6 := (hS 5 (by decide) (by decide)).2.2.2.2.2 hh
  have s7 : J 84 5 = J 48 3 := s6.1.symm
  have s8 : ∀ i, 0 ≤ i → i < J 48 3 → M 49 i = M 85 (300 + i) := s6.2.1
  show zW _ _ _ _ [some (.ref 0), some (zi 5), some (zi i), some (zl v), none, none] _ _ _ _ _
  refine z_iload1 gi_138_0 ?_
  refine z_cS1 gi_138_1 (Nat.le_of_ble_eq_true rfl) gc_143_I ?_
  refine z_iload0 gi_143_0 ?_
  refine z_if_ltF gi_143_1 zr_5 (by decide) ?_
  refine z_iload0 gi_143_4 ?_
  refine z_pushJ gp_143_5 ?_
  refine z_icmp_geF gi_143_7 zr_5 zr_6 (by decide) ?_
  refine z_pushJ gp_143_10 ?_
  refine z_goto gi_143_11 ?_
  refine z_bret1 gi_143_15 gr_143 ?_
  show zW _ _ _ _ _ _ _ _ _ _
  refine z_if_neT gi_138_4 zr_1 (by decide) ?_
  refine z_aload0 gi_138_9 ?_
  refine z_getR (r := 37) gi_138_10 gk_0 (hR _ rm_0_11) ?_
  refine z_iload1 gi_138_13 ?_
  refine z_aald (r := 48) gi_138_14 rfl (by decide) (by decide) (hR _ rm_37_5) ?_
  refine z_iload2 gi_138_15 ?_
  refine z_cV1 gi_138_16 gk_48 go_70 (Nat.le_of_ble_eq_true rfl) gc_70_RI ?_
  refine z_aload0 gi_70_0 ?_
  refine z_getI (v := 2) gi_70_1 gk_48 (hh) ?_
  refine z_if_neT gi_70_4 zr_2 (by decide) ?_
  refine z_aload0 gi_70_10 ?_
  refine z_getI (v := 2) gi_70_11 gk_48 (hh) ?_
  refine z_pushJ gp_70_14 ?_
  refine z_icmp_eqT gi_70_15 zr_2 zr_2 (by decide) ?_
  refine z_iload1 gi_70_21 ?_
  refine z_if_lt gi_70_22 (by omega) (fun h1 => ?_) (fun h1 => ?_)
  · refine z_pushJ gp_70_37 ?_
    refine z_iret gi_70_39 gr_70 ?_
    show zW _ _ _ _ _ _ _ _ _ _
    refine z_istore (ls1 := [some (.ref 0), some (zi 5), some (zi i), some (zl v), none, some (zi (-13))]) gi_138_19 rfl ?_
    refine z_iload5 gi_138_21 ?_
    refine z_if_geF gi_138_23 zrn_13 (by decide) ?_
    refine z_iload5 gi_138_26 ?_
    refine z_iret gi_138_28 gr_138 ?_
    refine ⟨_, rfl, ?_⟩
    show zW _ _ _ _ [some (.ref 50), some (zi 5), some (zi i), some (zl v), none, none, none] _ _ _ _ _
    refine z_aload0 gi_252_0 ?_
    refine z_iload1 gi_252_1 ?_
    refine z_iload2 gi_252_2 ?_
    refine z_cV2 gi_252_3 gk_50 go_251 (Nat.le_of_ble_eq_true rfl) gc_251_RII ?_
    refine z_iload1 gi_251_0 ?_
    refine z_cS1 gi_251_1 (Nat.le_of_ble_eq_true rfl) gc_248_I ?_
    refine z_iload0 gi_248_0 ?_
    refine z_pushJ gp_248_1 ?_
    refine z_pushJ gp_248_2 ?_
    refine z_cS3 gi_248_3 (Nat.le_of_ble_eq_true rfl) gc_148_III ?_
    refine z_iload0 gi_148_0 ?_
    refine z_iload1 gi_148_1 ?_
    refine z_icmp_ltF gi_148_2 zr_5 zr_0 (by decide) ?_
    refine z_iload0 gi_148_5 ?_
    refine z_iload2 gi_148_6 ?_
    refine z_icmp_gtF gi_148_7 zr_5 zr_5 (by decide) ?_
    refine z_pushJ gp_148_10 ?_
    refine z_goto gi_148_11 ?_
    refine z_bret1 gi_148_15 gr_148 ?_
    show zW _ _ _ _ _ _ _ _ _ _
    refine z_bret1 gi_248_6 gr_248 ?_
    show zW _ _ _ _ _ _ _ _ _ _
    refine z_if_neT gi_251_4 zr_1 (by decide) ?_
    refine z_aload0 gi_251_9 ?_
    refine z_getR (r := 83) gi_251_10 gk_50 (hRr _ rm_50_58 (by decide)) ?_
    refine z_iload1 gi_251_13 ?_
    refine z_iald (v := (-4)) gi_251_14 gk_83 (by decide) (by decide) ((e83.trans (by rw [hso]; rfl))) ?_
    refine z_pushJ gp_251_15 ?_
    refine z_icmp_neT gi_251_16 zrn_4 zrn_1 (by decide) ?_
    refine z_aload0 gi_251_22 ?_
    refine z_getR (r := 83) gi_251_23 gk_50 (hRr _ rm_50_58 (by decide)) ?_
    refine z_iload1 gi_251_26 ?_
    refine z_iald (v := (-4)) gi_251_27 gk_83 (by decide) (by decide) ((e83.trans (by rw [hso]; rfl))) ?_
    refine z_if_ltT gi_251_28 zrn_4 (by decide) ?_
    refine z_iload2 gi_251_34 ?_
    refine z_pushJ gp_251_35 ?_
    refine z_aload0 gi_251_36 ?_
    refine z_getR (r := 84) gi_251_37 gk_50 (hRr _ rm_50_59 (by decide)) ?_
    refine z_iload1 gi_251_40 ?_
    refine z_iald (v := J 48 3) gi_251_41 gk_84 (by decide) (by decide) (s7) ?_
    refine z_pushJ gp_251_42 ?_
    refine z_isub (e := (J 48 3) - 1) gi_251_43 rfl ?_
    refine z_cS3 gi_251_44 (Nat.le_of_ble_eq_true rfl) gc_148_III ?_
    refine z_iload0 gi_148_0 ?_
    refine z_iload1 gi_148_1 ?_
    refine z_icmp_ltT gi_148_2 (by omega) zr_0 (by omega) ?_
    refine z_pushJ gp_148_14 ?_
    refine z_bret0 gi_148_15 gr_148 ?_
    show zW _ _ _ _ _ _ _ _ _ _
    refine z_if_eqT gi_251_47 zr_0 (by decide) ?_
    refine z_pushJ gp_251_54 ?_
    refine z_iret gi_251_56 gr_251 ?_
    show zW _ _ _ _ _ _ _ _ _ _
    refine z_istore (ls1 := [some (.ref 50), some (zi 5), some (zi i), some (zl v), none, some (zi (-13)), none]) gi_252_6 rfl ?_
    refine z_iload5 gi_252_8 ?_
    refine z_if_geF gi_252_10 zrn_13 (by decide) ?_
    refine z_iload5 gi_252_13 ?_
    refine z_iret gi_252_15 gr_252 ?_
    refine ⟨?_, ?_⟩
    · first | rfl | exact congrArg (fun v => some (zi v)) (by omega) | (exfalso; omega)
    · exact hr
  · refine z_iload1 gi_70_25 ?_
    refine z_aload0 gi_70_26 ?_
    refine z_getI (v := J 48 3) gi_70_27 gk_48 (rfl) ?_
    refine z_icmp_ge gi_70_30 (by omega) (by omega) (fun h2 => ?_) (fun h2 => ?_)
    · refine z_pushJ gp_70_37 ?_
      refine z_iret gi_70_39 gr_70 ?_
      show zW _ _ _ _ _ _ _ _ _ _
      refine z_istore (ls1 := [some (.ref 0), some (zi 5), some (zi i), some (zl v), none, some (zi (-13))]) gi_138_19 rfl ?_
      refine z_iload5 gi_138_21 ?_
      refine z_if_geF gi_138_23 zrn_13 (by decide) ?_
      refine z_iload5 gi_138_26 ?_
      refine z_iret gi_138_28 gr_138 ?_
      refine ⟨_, rfl, ?_⟩
      show zW _ _ _ _ [some (.ref 50), some (zi 5), some (zi i), some (zl v), none, none, none] _ _ _ _ _
      refine z_aload0 gi_252_0 ?_
      refine z_iload1 gi_252_1 ?_
      refine z_iload2 gi_252_2 ?_
      refine z_cV2 gi_252_3 gk_50 go_251 (Nat.le_of_ble_eq_true rfl) gc_251_RII ?_
      refine z_iload1 gi_251_0 ?_
      refine z_cS1 gi_251_1 (Nat.le_of_ble_eq_true rfl) gc_248_I ?_
      refine z_iload0 gi_248_0 ?_
      refine z_pushJ gp_248_1 ?_
      refine z_pushJ gp_248_2 ?_
      refine z_cS3 gi_248_3 (Nat.le_of_ble_eq_true rfl) gc_148_III ?_
      refine z_iload0 gi_148_0 ?_
      refine z_iload1 gi_148_1 ?_
      refine z_icmp_ltF gi_148_2 zr_5 zr_0 (by decide) ?_
      refine z_iload0 gi_148_5 ?_
      refine z_iload2 gi_148_6 ?_
      refine z_icmp_gtF gi_148_7 zr_5 zr_5 (by decide) ?_
      refine z_pushJ gp_148_10 ?_
      refine z_goto gi_148_11 ?_
      refine z_bret1 gi_148_15 gr_148 ?_
      show zW _ _ _ _ _ _ _ _ _ _
      refine z_bret1 gi_248_6 gr_248 ?_
      show zW _ _ _ _ _ _ _ _ _ _
      refine z_if_neT gi_251_4 zr_1 (by decide) ?_
      refine z_aload0 gi_251_9 ?_
      refine z_getR (r := 83) gi_251_10 gk_50 (hRr _ rm_50_58 (by decide)) ?_
      refine z_iload1 gi_251_13 ?_
      refine z_iald (v := (-4)) gi_251_14 gk_83 (by decide) (by decide) ((e83.trans (by rw [hso]; rfl))) ?_
      refine z_pushJ gp_251_15 ?_
      refine z_icmp_neT gi_251_16 zrn_4 zrn_1 (by decide) ?_
      refine z_aload0 gi_251_22 ?_
      refine z_getR (r := 83) gi_251_23 gk_50 (hRr _ rm_50_58 (by decide)) ?_
      refine z_iload1 gi_251_26 ?_
      refine z_iald (v := (-4)) gi_251_27 gk_83 (by decide) (by decide) ((e83.trans (by rw [hso]; rfl))) ?_
      refine z_if_ltT gi_251_28 zrn_4 (by decide) ?_
      refine z_iload2 gi_251_34 ?_
      refine z_pushJ gp_251_35 ?_
      refine z_aload0 gi_251_36 ?_
      refine z_getR (r := 84) gi_251_37 gk_50 (hRr _ rm_50_59 (by decide)) ?_
      refine z_iload1 gi_251_40 ?_
      refine z_iald (v := J 48 3) gi_251_41 gk_84 (by decide) (by decide) (s7) ?_
      refine z_pushJ gp_251_42 ?_
      refine z_isub (e := (J 48 3) - 1) gi_251_43 rfl ?_
      refine z_cS3 gi_251_44 (Nat.le_of_ble_eq_true rfl) gc_148_III ?_
      refine z_iload0 gi_148_0 ?_
      refine z_iload1 gi_148_1 ?_
      refine z_icmp_ltF gi_148_2 (by omega) zr_0 (by omega) ?_
      refine z_iload0 gi_148_5 ?_
      refine z_iload2 gi_148_6 ?_
      refine z_icmp_gtT gi_148_7 (by omega) (by omega) (by omega) ?_
      refine z_pushJ gp_148_14 ?_
      refine z_bret0 gi_148_15 gr_148 ?_
      show zW _ _ _ _ _ _ _ _ _ _
      refine z_if_eqT gi_251_47 zr_0 (by decide) ?_
      refine z_pushJ gp_251_54 ?_
      refine z_iret gi_251_56 gr_251 ?_
      show zW _ _ _ _ _ _ _ _ _ _
      refine z_istore (ls1 := [some (.ref 50), some (zi 5), some (zi i), some (zl v), none, some (zi (-13)), none]) gi_252_6 rfl ?_
      refine z_iload5 gi_252_8 ?_
      refine z_if_geF gi_252_10 zrn_13 (by decide) ?_
      refine z_iload5 gi_252_13 ?_
      refine z_iret gi_252_15 gr_252 ?_
      refine ⟨?_, ?_⟩
      · first | rfl | exact congrArg (fun v => some (zi v)) (by omega) | (exfalso; omega)
      · exact hr
    · refine z_pushJ gp_70_33 ?_
      refine z_goto gi_70_34 ?_
      refine z_iret gi_70_39 gr_70 ?_
      show zW _ _ _ _ _ _ _ _ _ _
      refine z_istore (ls1 := [some (.ref 0), some (zi 5), some (zi i), some (zl v), none, some (zi 0)]) gi_138_19 rfl ?_
      refine z_iload5 gi_138_21 ?_
      refine z_if_geT gi_138_23 zr_0 (by decide) ?_
      refine z_aload0 gi_138_29 ?_
      refine z_getR (r := 37) gi_138_30 gk_0 (hR _ rm_0_11) ?_
      refine z_iload1 gi_138_33 ?_
      refine z_aald (r := 48) gi_138_34 rfl (by decide) (by decide) (hR _ rm_37_5) ?_
      refine z_iload2 gi_138_35 ?_
      refine z_lload3 gi_138_36 ?_
      refine z_callVi (As := [_, _]) (le := [some _, some _, some _, none]) gi_138_37 rfl gk_48 (Nat.le_of_ble_eq_true rfl) (Nat.le_of_ble_eq_true rfl) rfl ?_
      refine z_iload1 gi_73_0 ?_
      refine z_if_ltF gi_73_1 (by omega) (by omega) ?_
      refine z_iload1 gi_73_4 ?_
      refine z_aload0 gi_73_5 ?_
      refine z_getI (v := J 48 3) gi_73_6 gk_48 (rfl) ?_
      refine z_icmp_geF gi_73_9 (by omega) (by omega) (by omega) ?_
      refine z_aload0 gi_73_12 ?_
      refine z_getR (r := 49) gi_73_13 gk_48 (hR _ rm_48_4) ?_
      refine z_iload1 gi_73_16 ?_
      refine z_aload0 gi_73_17 ?_
      refine z_lload2 gi_73_18 ?_
      refine z_callVi (As := [_]) (le := [some _, some _, none]) gi_73_19 rfl gk_48 (Nat.le_of_ble_eq_true rfl) (Nat.le_of_ble_eq_true rfl) rfl ?_
      refine z_aload0 gi_74_0 ?_
      refine z_getI (v := 2) gi_74_1 gk_48 (hso) ?_
      refine z_swI (tg := 50) gi_74_4 (by decide) (T := [((0 : Int), 40), ((1 : Int), 45), ((2 : Int), 50), ((3 : Int), 66), ((4 : Int), 54)]) rfl (by decide) ?_
      refine z_lload1 gi_74_50 ?_
      refine z_l2i gi_74_51 ?_
      refine z_topn (e := zn v) rfl ?_
      have q3 := zn_r v
      refine z_i2l gi_74_52 (by omega) ?_
      refine z_lret gi_74_53 gr_74 ?_
      show zW _ _ _ _ _ _ _ _ _ _
      refine z_last (e := zn v) gi_73_22 gk_49 (by decide) (by omega) rfl ?_
      refine z_vret gi_73_23 gr_73 ?_
      show zW _ _ _ _ _ _ _ _ _ _
      refine z_pushJ gp_138_40 ?_
      refine z_iret gi_138_41 gr_138 ?_
      refine ⟨_, rfl, ?_⟩
      show zW _ _ _ _ [some (.ref 50), some (zi 5), some (zi i), some (zl v), none, none, none] _ _ _ _ _
      refine z_aload0 gi_252_0 ?_
      refine z_iload1 gi_252_1 ?_
      refine z_iload2 gi_252_2 ?_
      refine z_cV2 gi_252_3 gk_50 go_251 (Nat.le_of_ble_eq_true rfl) gc_251_RII ?_
      refine z_iload1 gi_251_0 ?_
      refine z_cS1 gi_251_1 (Nat.le_of_ble_eq_true rfl) gc_248_I ?_
      refine z_iload0 gi_248_0 ?_
      refine z_pushJ gp_248_1 ?_
      refine z_pushJ gp_248_2 ?_
      refine z_cS3 gi_248_3 (Nat.le_of_ble_eq_true rfl) gc_148_III ?_
      refine z_iload0 gi_148_0 ?_
      refine z_iload1 gi_148_1 ?_
      refine z_icmp_ltF gi_148_2 zr_5 zr_0 (by decide) ?_
      refine z_iload0 gi_148_5 ?_
      refine z_iload2 gi_148_6 ?_
      refine z_icmp_gtF gi_148_7 zr_5 zr_5 (by decide) ?_
      refine z_pushJ gp_148_10 ?_
      refine z_goto gi_148_11 ?_
      refine z_bret1 gi_148_15 gr_148 ?_
      show zW _ _ _ _ _ _ _ _ _ _
      refine z_bret1 gi_248_6 gr_248 ?_
      show zW _ _ _ _ _ _ _ _ _ _
      refine z_if_neT gi_251_4 zr_1 (by decide) ?_
      refine z_aload0 gi_251_9 ?_
      refine z_getR (r := 83) gi_251_10 gk_50 (hRr _ rm_50_58 (by decide)) ?_
      refine z_iload1 gi_251_13 ?_
      refine z_iald (v := (-4)) gi_251_14 gk_83 (by decide) (by decide) ((e83.trans (by rw [hso]; rfl))) ?_
      refine z_pushJ gp_251_15 ?_
      refine z_icmp_neT gi_251_16 zrn_4 zrn_1 (by decide) ?_
      refine z_aload0 gi_251_22 ?_
      refine z_getR (r := 83) gi_251_23 gk_50 (hRr _ rm_50_58 (by decide)) ?_
      refine z_iload1 gi_251_26 ?_
      refine z_iald (v := (-4)) gi_251_27 gk_83 (by decide) (by decide) ((e83.trans (by rw [hso]; rfl))) ?_
      refine z_if_ltT gi_251_28 zrn_4 (by decide) ?_
      refine z_iload2 gi_251_34 ?_
      refine z_pushJ gp_251_35 ?_
      refine z_aload0 gi_251_36 ?_
      refine z_getR (r := 84) gi_251_37 gk_50 (hRr _ rm_50_59 (by decide)) ?_
      refine z_iload1 gi_251_40 ?_
      refine z_iald (v := J 48 3) gi_251_41 gk_84 (by decide) (by decide) (s7) ?_
      refine z_pushJ gp_251_42 ?_
      refine z_isub (e := (J 48 3) - 1) gi_251_43 rfl ?_
      refine z_cS3 gi_251_44 (Nat.le_of_ble_eq_true rfl) gc_148_III ?_
      refine z_iload0 gi_148_0 ?_
      refine z_iload1 gi_148_1 ?_
      refine z_icmp_ltF gi_148_2 (by omega) zr_0 (by omega) ?_
      refine z_iload0 gi_148_5 ?_
      refine z_iload2 gi_148_6 ?_
      refine z_icmp_gtF gi_148_7 (by omega) (by omega) (by omega) ?_
      refine z_pushJ gp_148_10 ?_
      refine z_goto gi_148_11 ?_
      refine z_bret1 gi_148_15 gr_148 ?_
      show zW _ _ _ _ _ _ _ _ _ _
      refine z_if_eqF gi_251_47 zr_1 (by decide) ?_
      refine z_pushJ gp_251_50 ?_
      refine z_goto gi_251_51 ?_
      refine z_iret gi_251_56 gr_251 ?_
      show zW _ _ _ _ _ _ _ _ _ _
      refine z_istore (ls1 := [some (.ref 50), some (zi 5), some (zi i), some (zl v), none, some (zi 0), none]) gi_252_6 rfl ?_
      refine z_iload5 gi_252_8 ?_
      refine z_if_geT gi_252_10 zr_0 (by decide) ?_
      refine z_pushJ gp_252_16 ?_
      refine z_aload0 gi_252_18 ?_
      refine z_getR (r := 83) gi_252_19 gk_50 (hRr _ rm_50_58 (by decide)) ?_
      refine z_iload1 gi_252_22 ?_
      refine z_iald (v := (-4)) gi_252_23 gk_83 (by decide) (by decide) ((e83.trans (by rw [hso]; rfl))) ?_
      refine z_isub (e := 2) gi_252_24 rfl ?_
      refine z_istore (ls1 := [some (.ref 50), some (zi 5), some (zi i), some (zl v), none, some (zi 0), some (zi 2)]) gi_252_25 rfl ?_
      refine z_aload0 gi_252_27 ?_
      refine z_getR (r := 85) gi_252_28 gk_50 (hRr _ rm_50_60 (by decide)) ?_
      refine z_pushJ gp_252_31 ?_
      refine z_iload1 gi_252_33 ?_
      refine z_imul (e := 300) gi_252_34 rfl ?_
      refine z_iload2 gi_252_35 ?_
      refine z_iadd (e := 300 + i) gi_252_36 rfl ?_
      refine z_iload6 gi_252_37 ?_
      refine z_if_neT gi_252_39 zr_2 (by decide) ?_
      refine z_iload6 gi_252_49 ?_
      refine z_pushJ gp_252_51 ?_
      refine z_icmp_neT gi_252_52 zr_2 zr_1 (by decide) ?_
      refine z_iload6 gi_252_62 ?_
      refine z_pushJ gp_252_64 ?_
      refine z_icmp_neF gi_252_65 zr_2 zr_2 (by decide) ?_
      refine z_lload3 gi_252_68 ?_
      refine z_l2i gi_252_69 ?_
      refine z_topn (e := zn v) rfl ?_
      have q4 := zn_r v
      refine z_i2l gi_252_70 (by omega) ?_
      refine z_goto gi_252_71 ?_
      refine z_last (e := zn v) gi_252_95 gk_85 (by decide) (by omega) rfl ?_
      refine z_pushJ gp_252_96 ?_
      refine z_iret gi_252_97 gr_252 ?_
      refine ⟨?_, ?_⟩
      · first | rfl | exact congrArg (fun v => some (zi v)) (by omega) | (exfalso; omega)
      · have hk := (zK_r (k := (kL [] [])) (A := J))
        have hkm := (zK_x (a := 85) (x := 300 + i) (v := zn v) (zK_x (a := 49) (x := i) (v := zn v) (zK_r (k := (kL [49, 85] [])) (A := M)) rfl) rfl)
        exact ⟨hR, hG, RelY_k hk (by repeat' constructor) (fun p => by repeat' constructor) hY, RelD_k hk (by repeat' constructor) (fun p => by repeat' constructor) hD, RelP_k hk (by repeat' constructor) (fun p => by repeat' constructor) hP, RelC_k hk (by repeat' constructor) (fun p => by repeat' constructor) hC, RelA_k hk (by repeat' constructor) (fun p => by repeat' constructor) hAc, (RelS_one (J := J) (M := M) (c := 5) (fun t t1 t2 te => by have q : t = 0 ∨ t = 1 ∨ t = 2 ∨ t = 3 ∨ t = 4 ∨ t = 5 := (by omega); rcases q with rfl | rfl | rfl | rfl | rfl | rfl <;> first | exact absurd rfl te | exact ⟨fun j => rfl, rfl, rfl⟩) (fun t t1 t2 te => by have q : t = 0 ∨ t = 1 ∨ t = 2 ∨ t = 3 ∨ t = 4 ∨ t = 5 := (by omega); rcases q with rfl | rfl | rfl | rfl | rfl | rfl <;> first | exact absurd rfl te | exact ⟨fun j => rfl, fun j j1 j2 => (zU_x (by omega)).trans (zU_n (by decide))⟩) rfl (show RelS1 _ _ _ from ⟨(hS 5 (by decide) (by decide)).1, (hS 5 (by decide) (by decide)).2.1, s3, s4, (hS 5 (by decide) (by decide)).2.2.2.2.1, fun _ => ⟨s7.symm, fun k k1 k2 => by show (if k = i then zn v else M 49 k) = (if 300 + k = 300 + i then zn v else M 85 (300 + k)); by_cases e : k = i; rw [if_pos e, if_pos (by omega)]; rw [if_neg e, if_neg (by omega)]; exact s8 k k1 k2, (fun hq => absurd (Eq.trans (Eq.symm hq) hso) (by decide))⟩⟩) hS), RelT_k hk (by repeat' constructor) (fun p => by repeat' constructor) hTp, RelX_k hk (by repeat' constructor) (fun p => by repeat' constructor) hX, RelW_k hk ⟨rfl, rfl⟩ trivial hW⟩
theorem st_put_523 {X : Nat × (Nat → Int32)} {d : Nat} {J M : zA} {R : zR} {i v : Int} (hr : Rel X J M R) (hi : -2147483648 ≤ i ∧ i < 2147483648) (hv : -9223372036854775808 ≤ v ∧ v < 9223372036854775808) (hh : J 48 0 = 2) (hso : J 48 2 = 3) : zW X (d + 20) 138 0 (gEn 138 [(.ref 0), (zi 5), (zi i), (zl v)]) [] J M R (stP X (d + 20) 252 [(zi 5), (zi i), (zl v)]) := by
  have hr0 := hr
  obtain ⟨hR, hG, hY, hD, hP, hC, hAc, hS, hTp, hX, hW⟩ := hr0
  have hRr : zRoR R := zRoR_of hR
  have e83 : J 83 5 = -2 - J 48 2 := (hS 5 (by decide) (by decide)).1.symm.trans (cH_2 hh)
  have s3 : 0 ≤ J 48 2 ∧ J 48 2 ≤ 4 := (hS 5 (by decide) (by decide)).2.2.1
  have s4 : 0 ≤ J 48 3 ∧ J 48 3 ≤ 60 := (hS 5 (by decide) (by decide)).2.2.2.1
  have s6 := (hS 5 (by decide) (by decide)).2.2.2.2.2 hh
  have s7 : J 84 5 = J 48 3 := s6.1.symm
  have s8 : ∀ i, 0 ≤ i → i < J 48 3 → M 49 i = M 85 (300 + i) := s6.2.1
  show zW _ _ _ _ [some (.ref 0), some (zi 5), some (zi i), some (zl v), none, none] _ _ _ _ _
  refine z_iload1 gi_138_0 ?_
  refine z_cS1 gi_138_1 (Nat.le_of_ble_eq_true rfl) gc_143_I ?_
  refine z_iload0 gi_143_0 ?_
  refine z_if_ltF gi_143_1 zr_5 (by decide) ?_
  refine z_iload0 gi_143_4 ?_
  refine z_pushJ gp_143_5 ?_
  refine z_icmp_geF gi_143_7 zr_5 zr_6 (by decide) ?_
  refine z_pushJ gp_143_10 ?_
  refine z_goto gi_143_11 ?_
  refine z_bret1 gi_143_15 gr_143 ?_
  show zW _ _ _ _ _ _ _ _ _ _
  refine z_if_neT gi_138_4 zr_1 (by decide) ?_
  refine z_aload0 gi_138_9 ?_
  refine z_getR (r := 37) gi_138_10 gk_0 (hR _ rm_0_11) ?_
  refine z_iload1 gi_138_13 ?_
  refine z_aald (r := 48) gi_138_14 rfl (by decide) (by decide) (hR _ rm_37_5) ?_
  refine z_iload2 gi_138_15 ?_
  refine z_cV1 gi_138_16 gk_48 go_70 (Nat.le_of_ble_eq_true rfl) gc_70_RI ?_
  refine z_aload0 gi_70_0 ?_
  refine z_getI (v := 2) gi_70_1 gk_48 (hh) ?_
  refine z_if_neT gi_70_4 zr_2 (by decide) ?_
  refine z_aload0 gi_70_10 ?_
  refine z_getI (v := 2) gi_70_11 gk_48 (hh) ?_
  refine z_pushJ gp_70_14 ?_
  refine z_icmp_eqT gi_70_15 zr_2 zr_2 (by decide) ?_
  refine z_iload1 gi_70_21 ?_
  refine z_if_lt gi_70_22 (by omega) (fun h1 => ?_) (fun h1 => ?_)
  · refine z_pushJ gp_70_37 ?_
    refine z_iret gi_70_39 gr_70 ?_
    show zW _ _ _ _ _ _ _ _ _ _
    refine z_istore (ls1 := [some (.ref 0), some (zi 5), some (zi i), some (zl v), none, some (zi (-13))]) gi_138_19 rfl ?_
    refine z_iload5 gi_138_21 ?_
    refine z_if_geF gi_138_23 zrn_13 (by decide) ?_
    refine z_iload5 gi_138_26 ?_
    refine z_iret gi_138_28 gr_138 ?_
    refine ⟨_, rfl, ?_⟩
    show zW _ _ _ _ [some (.ref 50), some (zi 5), some (zi i), some (zl v), none, none, none] _ _ _ _ _
    refine z_aload0 gi_252_0 ?_
    refine z_iload1 gi_252_1 ?_
    refine z_iload2 gi_252_2 ?_
    refine z_cV2 gi_252_3 gk_50 go_251 (Nat.le_of_ble_eq_true rfl) gc_251_RII ?_
    refine z_iload1 gi_251_0 ?_
    refine z_cS1 gi_251_1 (Nat.le_of_ble_eq_true rfl) gc_248_I ?_
    refine z_iload0 gi_248_0 ?_
    refine z_pushJ gp_248_1 ?_
    refine z_pushJ gp_248_2 ?_
    refine z_cS3 gi_248_3 (Nat.le_of_ble_eq_true rfl) gc_148_III ?_
    refine z_iload0 gi_148_0 ?_
    refine z_iload1 gi_148_1 ?_
    refine z_icmp_ltF gi_148_2 zr_5 zr_0 (by decide) ?_
    refine z_iload0 gi_148_5 ?_
    refine z_iload2 gi_148_6 ?_
    refine z_icmp_gtF gi_148_7 zr_5 zr_5 (by decide) ?_
    refine z_pushJ gp_148_10 ?_
    refine z_goto gi_148_11 ?_
    refine z_bret1 gi_148_15 gr_148 ?_
    show zW _ _ _ _ _ _ _ _ _ _
    refine z_bret1 gi_248_6 gr_248 ?_
    show zW _ _ _ _ _ _ _ _ _ _
    refine z_if_neT gi_251_4 zr_1 (by decide) ?_
    refine z_aload0 gi_251_9 ?_
    refine z_getR (r := 83) gi_251_10 gk_50 (hRr _ rm_50_58 (by decide)) ?_
    refine z_iload1 gi_251_13 ?_
    refine z_iald (v := (-5)) gi_251_14 gk_83 (by decide) (by decide) ((e83.trans (by rw [hso]; rfl))) ?_
    refine z_pushJ gp_251_15 ?_
    refine z_icmp_neT gi_251_16 zrn_5 zrn_1 (by decide) ?_
    refine z_aload0 gi_251_22 ?_
    refine z_getR (r := 83) gi_251_23 gk_50 (hRr _ rm_50_58 (by decide)) ?_
    refine z_iload1 gi_251_26 ?_
    refine z_iald (v := (-5)) gi_251_27 gk_83 (by decide) (by decide) ((e83.trans (by rw [hso]; rfl))) ?_
    refine z_if_ltT gi_251_28 zrn_5 (by decide) ?_
    refine z_iload2 gi_251_34 ?_
    refine z_pushJ gp_251_35 ?_
    refine z_aload0 gi_251_36 ?_
    refine z_getR (r := 84) gi_251_37 gk_50 (hRr _ rm_50_59 (by decide)) ?_
    refine z_iload1 gi_251_40 ?_
    refine z_iald (v := J 48 3) gi_251_41 gk_84 (by decide) (by decide) (s7) ?_
    refine z_pushJ gp_251_42 ?_
    refine z_isub (e := (J 48 3) - 1) gi_251_43 rfl ?_
    refine z_cS3 gi_251_44 (Nat.le_of_ble_eq_true rfl) gc_148_III ?_
    refine z_iload0 gi_148_0 ?_
    refine z_iload1 gi_148_1 ?_
    refine z_icmp_ltT gi_148_2 (by omega) zr_0 (by omega) ?_
    refine z_pushJ gp_148_14 ?_
    refine z_bret0 gi_148_15 gr_148 ?_
    show zW _ _ _ _ _ _ _ _ _ _
    refine z_if_eqT gi_251_47 zr_0 (by decide) ?_
    refine z_pushJ gp_251_54 ?_
    refine z_iret gi_251_56 gr_251 ?_
    show zW _ _ _ _ _ _ _ _ _ _
    refine z_istore (ls1 := [some (.ref 50), some (zi 5), some (zi i), some (zl v), none, some (zi (-13)), none]) gi_252_6 rfl ?_
    refine z_iload5 gi_252_8 ?_
    refine z_if_geF gi_252_10 zrn_13 (by decide) ?_
    refine z_iload5 gi_252_13 ?_
    refine z_iret gi_252_15 gr_252 ?_
    refine ⟨?_, ?_⟩
    · first | rfl | exact congrArg (fun v => some (zi v)) (by omega) | (exfalso; omega)
    · exact hr
  · refine z_iload1 gi_70_25 ?_
    refine z_aload0 gi_70_26 ?_
    refine z_getI (v := J 48 3) gi_70_27 gk_48 (rfl) ?_
    refine z_icmp_ge gi_70_30 (by omega) (by omega) (fun h2 => ?_) (fun h2 => ?_)
    · refine z_pushJ gp_70_37 ?_
      refine z_iret gi_70_39 gr_70 ?_
      show zW _ _ _ _ _ _ _ _ _ _
      refine z_istore (ls1 := [some (.ref 0), some (zi 5), some (zi i), some (zl v), none, some (zi (-13))]) gi_138_19 rfl ?_
      refine z_iload5 gi_138_21 ?_
      refine z_if_geF gi_138_23 zrn_13 (by decide) ?_
      refine z_iload5 gi_138_26 ?_
      refine z_iret gi_138_28 gr_138 ?_
      refine ⟨_, rfl, ?_⟩
      show zW _ _ _ _ [some (.ref 50), some (zi 5), some (zi i), some (zl v), none, none, none] _ _ _ _ _
      refine z_aload0 gi_252_0 ?_
      refine z_iload1 gi_252_1 ?_
      refine z_iload2 gi_252_2 ?_
      refine z_cV2 gi_252_3 gk_50 go_251 (Nat.le_of_ble_eq_true rfl) gc_251_RII ?_
      refine z_iload1 gi_251_0 ?_
      refine z_cS1 gi_251_1 (Nat.le_of_ble_eq_true rfl) gc_248_I ?_
      refine z_iload0 gi_248_0 ?_
      refine z_pushJ gp_248_1 ?_
      refine z_pushJ gp_248_2 ?_
      refine z_cS3 gi_248_3 (Nat.le_of_ble_eq_true rfl) gc_148_III ?_
      refine z_iload0 gi_148_0 ?_
      refine z_iload1 gi_148_1 ?_
      refine z_icmp_ltF gi_148_2 zr_5 zr_0 (by decide) ?_
      refine z_iload0 gi_148_5 ?_
      refine z_iload2 gi_148_6 ?_
      refine z_icmp_gtF gi_148_7 zr_5 zr_5 (by decide) ?_
      refine z_pushJ gp_148_10 ?_
      refine z_goto gi_148_11 ?_
      refine z_bret1 gi_148_15 gr_148 ?_
      show zW _ _ _ _ _ _ _ _ _ _
      refine z_bret1 gi_248_6 gr_248 ?_
      show zW _ _ _ _ _ _ _ _ _ _
      refine z_if_neT gi_251_4 zr_1 (by decide) ?_
      refine z_aload0 gi_251_9 ?_
      refine z_getR (r := 83) gi_251_10 gk_50 (hRr _ rm_50_58 (by decide)) ?_
      refine z_iload1 gi_251_13 ?_
      refine z_iald (v := (-5)) gi_251_14 gk_83 (by decide) (by decide) ((e83.trans (by rw [hso]; rfl))) ?_
      refine z_pushJ gp_251_15 ?_
      refine z_icmp_neT gi_251_16 zrn_5 zrn_1 (by decide) ?_
      refine z_aload0 gi_251_22 ?_
      refine z_getR (r := 83) gi_251_23 gk_50 (hRr _ rm_50_58 (by decide)) ?_
      refine z_iload1 gi_251_26 ?_
      refine z_iald (v := (-5)) gi_251_27 gk_83 (by decide) (by decide) ((e83.trans (by rw [hso]; rfl))) ?_
      refine z_if_ltT gi_251_28 zrn_5 (by decide) ?_
      refine z_iload2 gi_251_34 ?_
      refine z_pushJ gp_251_35 ?_
      refine z_aload0 gi_251_36 ?_
      refine z_getR (r := 84) gi_251_37 gk_50 (hRr _ rm_50_59 (by decide)) ?_
      refine z_iload1 gi_251_40 ?_
      refine z_iald (v := J 48 3) gi_251_41 gk_84 (by decide) (by decide) (s7) ?_
      refine z_pushJ gp_251_42 ?_
      refine z_isub (e := (J 48 3) - 1) gi_251_43 rfl ?_
      refine z_cS3 gi_251_44 (Nat.le_of_ble_eq_true rfl) gc_148_III ?_
      refine z_iload0 gi_148_0 ?_
      refine z_iload1 gi_148_1 ?_
      refine z_icmp_ltF gi_148_2 (by omega) zr_0 (by omega) ?_
      refine z_iload0 gi_148_5 ?_
      refine z_iload2 gi_148_6 ?_
      refine z_icmp_gtT gi_148_7 (by omega) (by omega) (by omega) ?_
      refine z_pushJ gp_148_14 ?_
      refine z_bret0 gi_148_15 gr_148 ?_
      show zW _ _ _ _ _ _ _ _ _ _
      refine z_if_eqT gi_251_47 zr_0 (by decide) ?_
      refine z_pushJ gp_251_54 ?_
      refine z_iret gi_251_56 gr_251 ?_
      show zW _ _ _ _ _ _ _ _ _ _
      refine z_istore (ls1 := [some (.ref 50), some (zi 5), some (zi i), some (zl v), none, some (zi (-13)), none]) gi_252_6 rfl ?_
      refine z_iload5 gi_252_8 ?_
      refine z_if_geF gi_252_10 zrn_13 (by decide) ?_
      refine z_iload5 gi_252_13 ?_
      refine z_iret gi_252_15 gr_252 ?_
      refine ⟨?_, ?_⟩
      · first | rfl | exact congrArg (fun v => some (zi v)) (by omega) | (exfalso; omega)
      · exact hr
    · refine z_pushJ gp_70_33 ?_
      refine z_goto gi_70_34 ?_
      refine z_iret gi_70_39 gr_70 ?_
      show zW _ _ _ _ _ _ _ _ _ _
      refine z_istore (ls1 := [some (.ref 0), some (zi 5), some (zi i), some (zl v), none, some (zi 0)]) gi_138_19 rfl ?_
      refine z_iload5 gi_138_21 ?_
      refine z_if_geT gi_138_23 zr_0 (by decide) ?_
      refine z_aload0 gi_138_29 ?_
      refine z_getR (r := 37) gi_138_30 gk_0 (hR _ rm_0_11) ?_
      refine z_iload1 gi_138_33 ?_
      refine z_aald (r := 48) gi_138_34 rfl (by decide) (by decide) (hR _ rm_37_5) ?_
      refine z_iload2 gi_138_35 ?_
      refine z_lload3 gi_138_36 ?_
      refine z_callVi (As := [_, _]) (le := [some _, some _, some _, none]) gi_138_37 rfl gk_48 (Nat.le_of_ble_eq_true rfl) (Nat.le_of_ble_eq_true rfl) rfl ?_
      refine z_iload1 gi_73_0 ?_
      refine z_if_ltF gi_73_1 (by omega) (by omega) ?_
      refine z_iload1 gi_73_4 ?_
      refine z_aload0 gi_73_5 ?_
      refine z_getI (v := J 48 3) gi_73_6 gk_48 (rfl) ?_
      refine z_icmp_geF gi_73_9 (by omega) (by omega) (by omega) ?_
      refine z_aload0 gi_73_12 ?_
      refine z_getR (r := 49) gi_73_13 gk_48 (hR _ rm_48_4) ?_
      refine z_iload1 gi_73_16 ?_
      refine z_aload0 gi_73_17 ?_
      refine z_lload2 gi_73_18 ?_
      refine z_callVi (As := [_]) (le := [some _, some _, none]) gi_73_19 rfl gk_48 (Nat.le_of_ble_eq_true rfl) (Nat.le_of_ble_eq_true rfl) rfl ?_
      refine z_aload0 gi_74_0 ?_
      refine z_getI (v := 3) gi_74_1 gk_48 (hso) ?_
      refine z_swI (tg := 66) gi_74_4 (by decide) (T := [((0 : Int), 40), ((1 : Int), 45), ((2 : Int), 50), ((3 : Int), 66), ((4 : Int), 54)]) rfl (by decide) ?_
      refine z_lload1 gi_74_66 ?_
      refine z_lret gi_74_67 gr_74 ?_
      show zW _ _ _ _ _ _ _ _ _ _
      refine z_last (e := v) gi_73_22 gk_49 (by decide) (by omega) rfl ?_
      refine z_vret gi_73_23 gr_73 ?_
      show zW _ _ _ _ _ _ _ _ _ _
      refine z_pushJ gp_138_40 ?_
      refine z_iret gi_138_41 gr_138 ?_
      refine ⟨_, rfl, ?_⟩
      show zW _ _ _ _ [some (.ref 50), some (zi 5), some (zi i), some (zl v), none, none, none] _ _ _ _ _
      refine z_aload0 gi_252_0 ?_
      refine z_iload1 gi_252_1 ?_
      refine z_iload2 gi_252_2 ?_
      refine z_cV2 gi_252_3 gk_50 go_251 (Nat.le_of_ble_eq_true rfl) gc_251_RII ?_
      refine z_iload1 gi_251_0 ?_
      refine z_cS1 gi_251_1 (Nat.le_of_ble_eq_true rfl) gc_248_I ?_
      refine z_iload0 gi_248_0 ?_
      refine z_pushJ gp_248_1 ?_
      refine z_pushJ gp_248_2 ?_
      refine z_cS3 gi_248_3 (Nat.le_of_ble_eq_true rfl) gc_148_III ?_
      refine z_iload0 gi_148_0 ?_
      refine z_iload1 gi_148_1 ?_
      refine z_icmp_ltF gi_148_2 zr_5 zr_0 (by decide) ?_
      refine z_iload0 gi_148_5 ?_
      refine z_iload2 gi_148_6 ?_
      refine z_icmp_gtF gi_148_7 zr_5 zr_5 (by decide) ?_
      refine z_pushJ gp_148_10 ?_
      refine z_goto gi_148_11 ?_
      refine z_bret1 gi_148_15 gr_148 ?_
      show zW _ _ _ _ _ _ _ _ _ _
      refine z_bret1 gi_248_6 gr_248 ?_
      show zW _ _ _ _ _ _ _ _ _ _
      refine z_if_neT gi_251_4 zr_1 (by decide) ?_
      refine z_aload0 gi_251_9 ?_
      refine z_getR (r := 83) gi_251_10 gk_50 (hRr _ rm_50_58 (by decide)) ?_
      refine z_iload1 gi_251_13 ?_
      refine z_iald (v := (-5)) gi_251_14 gk_83 (by decide) (by decide) ((e83.trans (by rw [hso]; rfl))) ?_
      refine z_pushJ gp_251_15 ?_
      refine z_icmp_neT gi_251_16 zrn_5 zrn_1 (by decide) ?_
      refine z_aload0 gi_251_22 ?_
      refine z_getR (r := 83) gi_251_23 gk_50 (hRr _ rm_50_58 (by decide)) ?_
      refine z_iload1 gi_251_26 ?_
      refine z_iald (v := (-5)) gi_251_27 gk_83 (by decide) (by decide) ((e83.trans (by rw [hso]; rfl))) ?_
      refine z_if_ltT gi_251_28 zrn_5 (by decide) ?_
      refine z_iload2 gi_251_34 ?_
      refine z_pushJ gp_251_35 ?_
      refine z_aload0 gi_251_36 ?_
      refine z_getR (r := 84) gi_251_37 gk_50 (hRr _ rm_50_59 (by decide)) ?_
      refine z_iload1 gi_251_40 ?_
      refine z_iald (v := J 48 3) gi_251_41 gk_84 (by decide) (by decide) (s7) ?_
      refine z_pushJ gp_251_42 ?_
      refine z_isub (e := (J 48 3) - 1) gi_251_43 rfl ?_
      refine z_cS3 gi_251_44 (Nat.le_of_ble_eq_true rfl) gc_148_III ?_
      refine z_iload0 gi_148_0 ?_
      refine z_iload1 gi_148_1 ?_
      refine z_icmp_ltF gi_148_2 (by omega) zr_0 (by omega) ?_
      refine z_iload0 gi_148_5 ?_
      refine z_iload2 gi_148_6 ?_
      refine z_icmp_gtF gi_148_7 (by omega) (by omega) (by omega) ?_
      refine z_pushJ gp_148_10 ?_
      refine z_goto gi_148_11 ?_
      refine z_bret1 gi_148_15 gr_148 ?_
      show zW _ _ _ _ _ _ _ _ _ _
      refine z_if_eqF gi_251_47 zr_1 (by decide) ?_
      refine z_pushJ gp_251_50 ?_
      refine z_goto gi_251_51 ?_
      refine z_iret gi_251_56 gr_251 ?_
      show zW _ _ _ _ _ _ _ _ _ _
      refine z_istore (ls1 := [some (.ref 50), some (zi 5), some (zi i), some (zl v), none, some (zi 0), none]) gi_252_6 rfl ?_
      refine z_iload5 gi_252_8 ?_
      refine z_if_geT gi_252_10 zr_0 (by decide) ?_
      refine z_pushJ gp_252_16 ?_
      refine z_aload0 gi_252_18 ?_
      refine z_getR (r := 83) gi_252_19 gk_50 (hRr _ rm_50_58 (by decide)) ?_
      refine z_iload1 gi_252_22 ?_
      refine z_iald (v := (-5)) gi_252_23 gk_83 (by decide) (by decide) ((e83.trans (by rw [hso]; rfl))) ?_
      refine z_isub (e := 3) gi_252_24 rfl ?_
      refine z_istore (ls1 := [some (.ref 50), some (zi 5), some (zi i), some (zl v), none, some (zi 0), some (zi 3)]) gi_252_25 rfl ?_
      refine z_aload0 gi_252_27 ?_
      refine z_getR (r := 85) gi_252_28 gk_50 (hRr _ rm_50_60 (by decide)) ?_
      refine z_pushJ gp_252_31 ?_
      refine z_iload1 gi_252_33 ?_
      refine z_imul (e := 300) gi_252_34 rfl ?_
      refine z_iload2 gi_252_35 ?_
      refine z_iadd (e := 300 + i) gi_252_36 rfl ?_
      refine z_iload6 gi_252_37 ?_
      refine z_if_neT gi_252_39 zr_3 (by decide) ?_
      refine z_iload6 gi_252_49 ?_
      refine z_pushJ gp_252_51 ?_
      refine z_icmp_neT gi_252_52 zr_3 zr_1 (by decide) ?_
      refine z_iload6 gi_252_62 ?_
      refine z_pushJ gp_252_64 ?_
      refine z_icmp_neT gi_252_65 zr_3 zr_2 (by decide) ?_
      refine z_iload6 gi_252_74 ?_
      refine z_pushJ gp_252_76 ?_
      refine z_icmp_neF gi_252_77 zr_3 zr_3 (by decide) ?_
      refine z_lload3 gi_252_80 ?_
      refine z_goto gi_252_81 ?_
      refine z_last (e := v) gi_252_95 gk_85 (by decide) (by omega) rfl ?_
      refine z_pushJ gp_252_96 ?_
      refine z_iret gi_252_97 gr_252 ?_
      refine ⟨?_, ?_⟩
      · first | rfl | exact congrArg (fun v => some (zi v)) (by omega) | (exfalso; omega)
      · have hk := (zK_r (k := (kL [] [])) (A := J))
        have hkm := (zK_x (a := 85) (x := 300 + i) (v := v) (zK_x (a := 49) (x := i) (v := v) (zK_r (k := (kL [49, 85] [])) (A := M)) rfl) rfl)
        exact ⟨hR, hG, RelY_k hk (by repeat' constructor) (fun p => by repeat' constructor) hY, RelD_k hk (by repeat' constructor) (fun p => by repeat' constructor) hD, RelP_k hk (by repeat' constructor) (fun p => by repeat' constructor) hP, RelC_k hk (by repeat' constructor) (fun p => by repeat' constructor) hC, RelA_k hk (by repeat' constructor) (fun p => by repeat' constructor) hAc, (RelS_one (J := J) (M := M) (c := 5) (fun t t1 t2 te => by have q : t = 0 ∨ t = 1 ∨ t = 2 ∨ t = 3 ∨ t = 4 ∨ t = 5 := (by omega); rcases q with rfl | rfl | rfl | rfl | rfl | rfl <;> first | exact absurd rfl te | exact ⟨fun j => rfl, rfl, rfl⟩) (fun t t1 t2 te => by have q : t = 0 ∨ t = 1 ∨ t = 2 ∨ t = 3 ∨ t = 4 ∨ t = 5 := (by omega); rcases q with rfl | rfl | rfl | rfl | rfl | rfl <;> first | exact absurd rfl te | exact ⟨fun j => rfl, fun j j1 j2 => (zU_x (by omega)).trans (zU_n (by decide))⟩) rfl (show RelS1 _ _ _ from ⟨(hS 5 (by decide) (by decide)).1, (hS 5 (by decide) (by decide)).2.1, s3, s4, (hS 5 (by decide) (by decide)).2.2.2.2.1, fun _ => ⟨s7.symm, fun k k1 k2 => by show (if k = i then v else M 49 k) = (if 300 + k = 300 + i then v else M 85 (300 + k)); by_cases e : k = i; rw [if_pos e, if_pos (by omega)]; rw [if_neg e, if_neg (by omega)]; exact s8 k k1 k2, (fun hq => absurd (Eq.trans (Eq.symm hq) hso) (by decide))⟩⟩) hS), RelT_k hk (by repeat' constructor) (fun p => by repeat' constructor) hTp, RelX_k hk (by repeat' constructor) (fun p => by repeat' constructor) hX, RelW_k hk ⟨rfl, rfl⟩ trivial hW⟩
theorem st_put_524 {X : Nat × (Nat → Int32)} {d : Nat} {J M : zA} {R : zR} {i v : Int} (hr : Rel X J M R) (hi : -2147483648 ≤ i ∧ i < 2147483648) (hv : -9223372036854775808 ≤ v ∧ v < 9223372036854775808) (hh : J 48 0 = 2) (hso : J 48 2 = 4) : zW X (d + 20) 138 0 (gEn 138 [(.ref 0), (zi 5), (zi i), (zl v)]) [] J M R (stP X (d + 20) 252 [(zi 5), (zi i), (zl v)]) := by
  have hr0 := hr
  obtain ⟨hR, hG, hY, hD, hP, hC, hAc, hS, hTp, hX, hW⟩ := hr0
  have hRr : zRoR R := zRoR_of hR
  have e83 : J 83 5 = -2 - J 48 2 := (hS 5 (by decide) (by decide)).1.symm.trans (cH_2 hh)
  have s3 : 0 ≤ J 48 2 ∧ J 48 2 ≤ 4 := (hS 5 (by decide) (by decide)).2.2.1
  have s4 : 0 ≤ J 48 3 ∧ J 48 3 ≤ 60 := (hS 5 (by decide) (by decide)).2.2.2.1
  have s6 := (hS 5 (by decide) (by decide)).2.2.2.2.2 hh
  have s7 : J 84 5 = J 48 3 := s6.1.symm
  have s8 : ∀ i, 0 ≤ i → i < J 48 3 → M 49 i = M 85 (300 + i) := s6.2.1
  show zW _ _ _ _ [some (.ref 0), some (zi 5), some (zi i), some (zl v), none, none] _ _ _ _ _
  refine z_iload1 gi_138_0 ?_
  refine z_cS1 gi_138_1 (Nat.le_of_ble_eq_true rfl) gc_143_I ?_
  refine z_iload0 gi_143_0 ?_
  refine z_if_ltF gi_143_1 zr_5 (by decide) ?_
  refine z_iload0 gi_143_4 ?_
  refine z_pushJ gp_143_5 ?_
  refine z_icmp_geF gi_143_7 zr_5 zr_6 (by decide) ?_
  refine z_pushJ gp_143_10 ?_
  refine z_goto gi_143_11 ?_
  refine z_bret1 gi_143_15 gr_143 ?_
  show zW _ _ _ _ _ _ _ _ _ _
  refine z_if_neT gi_138_4 zr_1 (by decide) ?_
  refine z_aload0 gi_138_9 ?_
  refine z_getR (r := 37) gi_138_10 gk_0 (hR _ rm_0_11) ?_
  refine z_iload1 gi_138_13 ?_
  refine z_aald (r := 48) gi_138_14 rfl (by decide) (by decide) (hR _ rm_37_5) ?_
  refine z_iload2 gi_138_15 ?_
  refine z_cV1 gi_138_16 gk_48 go_70 (Nat.le_of_ble_eq_true rfl) gc_70_RI ?_
  refine z_aload0 gi_70_0 ?_
  refine z_getI (v := 2) gi_70_1 gk_48 (hh) ?_
  refine z_if_neT gi_70_4 zr_2 (by decide) ?_
  refine z_aload0 gi_70_10 ?_
  refine z_getI (v := 2) gi_70_11 gk_48 (hh) ?_
  refine z_pushJ gp_70_14 ?_
  refine z_icmp_eqT gi_70_15 zr_2 zr_2 (by decide) ?_
  refine z_iload1 gi_70_21 ?_
  refine z_if_lt gi_70_22 (by omega) (fun h1 => ?_) (fun h1 => ?_)
  · refine z_pushJ gp_70_37 ?_
    refine z_iret gi_70_39 gr_70 ?_
    show zW _ _ _ _ _ _ _ _ _ _
    refine z_istore (ls1 := [some (.ref 0), some (zi 5), some (zi i), some (zl v), none, some (zi (-13))]) gi_138_19 rfl ?_
    refine z_iload5 gi_138_21 ?_
    refine z_if_geF gi_138_23 zrn_13 (by decide) ?_
    refine z_iload5 gi_138_26 ?_
    refine z_iret gi_138_28 gr_138 ?_
    refine ⟨_, rfl, ?_⟩
    show zW _ _ _ _ [some (.ref 50), some (zi 5), some (zi i), some (zl v), none, none, none] _ _ _ _ _
    refine z_aload0 gi_252_0 ?_
    refine z_iload1 gi_252_1 ?_
    refine z_iload2 gi_252_2 ?_
    refine z_cV2 gi_252_3 gk_50 go_251 (Nat.le_of_ble_eq_true rfl) gc_251_RII ?_
    refine z_iload1 gi_251_0 ?_
    refine z_cS1 gi_251_1 (Nat.le_of_ble_eq_true rfl) gc_248_I ?_
    refine z_iload0 gi_248_0 ?_
    refine z_pushJ gp_248_1 ?_
    refine z_pushJ gp_248_2 ?_
    refine z_cS3 gi_248_3 (Nat.le_of_ble_eq_true rfl) gc_148_III ?_
    refine z_iload0 gi_148_0 ?_
    refine z_iload1 gi_148_1 ?_
    refine z_icmp_ltF gi_148_2 zr_5 zr_0 (by decide) ?_
    refine z_iload0 gi_148_5 ?_
    refine z_iload2 gi_148_6 ?_
    refine z_icmp_gtF gi_148_7 zr_5 zr_5 (by decide) ?_
    refine z_pushJ gp_148_10 ?_
    refine z_goto gi_148_11 ?_
    refine z_bret1 gi_148_15 gr_148 ?_
    show zW _ _ _ _ _ _ _ _ _ _
    refine z_bret1 gi_248_6 gr_248 ?_
    show zW _ _ _ _ _ _ _ _ _ _
    refine z_if_neT gi_251_4 zr_1 (by decide) ?_
    refine z_aload0 gi_251_9 ?_
    refine z_getR (r := 83) gi_251_10 gk_50 (hRr _ rm_50_58 (by decide)) ?_
    refine z_iload1 gi_251_13 ?_
    refine z_iald (v := (-6)) gi_251_14 gk_83 (by decide) (by decide) ((e83.trans (by rw [hso]; rfl))) ?_
    refine z_pushJ gp_251_15 ?_
    refine z_icmp_neT gi_251_16 zrn_6 zrn_1 (by decide) ?_
    refine z_aload0 gi_251_22 ?_
    refine z_getR (r := 83) gi_251_23 gk_50 (hRr _ rm_50_58 (by decide)) ?_
    refine z_iload1 gi_251_26 ?_
    refine z_iald (v := (-6)) gi_251_27 gk_83 (by decide) (by decide) ((e83.trans (by rw [hso]; rfl))) ?_
    refine z_if_ltT gi_251_28 zrn_6 (by decide) ?_
    refine z_iload2 gi_251_34 ?_
    refine z_pushJ gp_251_35 ?_
    refine z_aload0 gi_251_36 ?_
    refine z_getR (r := 84) gi_251_37 gk_50 (hRr _ rm_50_59 (by decide)) ?_
    refine z_iload1 gi_251_40 ?_
    refine z_iald (v := J 48 3) gi_251_41 gk_84 (by decide) (by decide) (s7) ?_
    refine z_pushJ gp_251_42 ?_
    refine z_isub (e := (J 48 3) - 1) gi_251_43 rfl ?_
    refine z_cS3 gi_251_44 (Nat.le_of_ble_eq_true rfl) gc_148_III ?_
    refine z_iload0 gi_148_0 ?_
    refine z_iload1 gi_148_1 ?_
    refine z_icmp_ltT gi_148_2 (by omega) zr_0 (by omega) ?_
    refine z_pushJ gp_148_14 ?_
    refine z_bret0 gi_148_15 gr_148 ?_
    show zW _ _ _ _ _ _ _ _ _ _
    refine z_if_eqT gi_251_47 zr_0 (by decide) ?_
    refine z_pushJ gp_251_54 ?_
    refine z_iret gi_251_56 gr_251 ?_
    show zW _ _ _ _ _ _ _ _ _ _
    refine z_istore (ls1 := [some (.ref 50), some (zi 5), some (zi i), some (zl v), none, some (zi (-13)), none]) gi_252_6 rfl ?_
    refine z_iload5 gi_252_8 ?_
    refine z_if_geF gi_252_10 zrn_13 (by decide) ?_
    refine z_iload5 gi_252_13 ?_
    refine z_iret gi_252_15 gr_252 ?_
    refine ⟨?_, ?_⟩
    · first | rfl | exact congrArg (fun v => some (zi v)) (by omega) | (exfalso; omega)
    · exact hr
  · refine z_iload1 gi_70_25 ?_
    refine z_aload0 gi_70_26 ?_
    refine z_getI (v := J 48 3) gi_70_27 gk_48 (rfl) ?_
    refine z_icmp_ge gi_70_30 (by omega) (by omega) (fun h2 => ?_) (fun h2 => ?_)
    · refine z_pushJ gp_70_37 ?_
      refine z_iret gi_70_39 gr_70 ?_
      show zW _ _ _ _ _ _ _ _ _ _
      refine z_istore (ls1 := [some (.ref 0), some (zi 5), some (zi i), some (zl v), none, some (zi (-13))]) gi_138_19 rfl ?_
      refine z_iload5 gi_138_21 ?_
      refine z_if_geF gi_138_23 zrn_13 (by decide) ?_
      refine z_iload5 gi_138_26 ?_
      refine z_iret gi_138_28 gr_138 ?_
      refine ⟨_, rfl, ?_⟩
      show zW _ _ _ _ [some (.ref 50), some (zi 5), some (zi i), some (zl v), none, none, none] _ _ _ _ _
      refine z_aload0 gi_252_0 ?_
      refine z_iload1 gi_252_1 ?_
      refine z_iload2 gi_252_2 ?_
      refine z_cV2 gi_252_3 gk_50 go_251 (Nat.le_of_ble_eq_true rfl) gc_251_RII ?_
      refine z_iload1 gi_251_0 ?_
      refine z_cS1 gi_251_1 (Nat.le_of_ble_eq_true rfl) gc_248_I ?_
      refine z_iload0 gi_248_0 ?_
      refine z_pushJ gp_248_1 ?_
      refine z_pushJ gp_248_2 ?_
      refine z_cS3 gi_248_3 (Nat.le_of_ble_eq_true rfl) gc_148_III ?_
      refine z_iload0 gi_148_0 ?_
      refine z_iload1 gi_148_1 ?_
      refine z_icmp_ltF gi_148_2 zr_5 zr_0 (by decide) ?_
      refine z_iload0 gi_148_5 ?_
      refine z_iload2 gi_148_6 ?_
      refine z_icmp_gtF gi_148_7 zr_5 zr_5 (by decide) ?_
      refine z_pushJ gp_148_10 ?_
      refine z_goto gi_148_11 ?_
      refine z_bret1 gi_148_15 gr_148 ?_
      show zW _ _ _ _ _ _ _ _ _ _
      refine z_bret1 gi_248_6 gr_248 ?_
      show zW _ _ _ _ _ _ _ _ _ _
      refine z_if_neT gi_251_4 zr_1 (by decide) ?_
      refine z_aload0 gi_251_9 ?_
      refine z_getR (r := 83) gi_251_10 gk_50 (hRr _ rm_50_58 (by decide)) ?_
      refine z_iload1 gi_251_13 ?_
      refine z_iald (v := (-6)) gi_251_14 gk_83 (by decide) (by decide) ((e83.trans (by rw [hso]; rfl))) ?_
      refine z_pushJ gp_251_15 ?_
      refine z_icmp_neT gi_251_16 zrn_6 zrn_1 (by decide) ?_
      refine z_aload0 gi_251_22 ?_
      refine z_getR (r := 83) gi_251_23 gk_50 (hRr _ rm_50_58 (by decide)) ?_
      refine z_iload1 gi_251_26 ?_
      refine z_iald (v := (-6)) gi_251_27 gk_83 (by decide) (by decide) ((e83.trans (by rw [hso]; rfl))) ?_
      refine z_if_ltT gi_251_28 zrn_6 (by decide) ?_
      refine z_iload2 gi_251_34 ?_
      refine z_pushJ gp_251_35 ?_
      refine z_aload0 gi_251_36 ?_
      refine z_getR (r := 84) gi_251_37 gk_50 (hRr _ rm_50_59 (by decide)) ?_
      refine z_iload1 gi_251_40 ?_
      refine z_iald (v := J 48 3) gi_251_41 gk_84 (by decide) (by decide) (s7) ?_
      refine z_pushJ gp_251_42 ?_
      refine z_isub (e := (J 48 3) - 1) gi_251_43 rfl ?_
      refine z_cS3 gi_251_44 (Nat.le_of_ble_eq_true rfl) gc_148_III ?_
      refine z_iload0 gi_148_0 ?_
      refine z_iload1 gi_148_1 ?_
      refine z_icmp_ltF gi_148_2 (by omega) zr_0 (by omega) ?_
      refine z_iload0 gi_148_5 ?_
      refine z_iload2 gi_148_6 ?_
      refine z_icmp_gtT gi_148_7 (by omega) (by omega) (by omega) ?_
      refine z_pushJ gp_148_14 ?_
      refine z_bret0 gi_148_15 gr_148 ?_
      show zW _ _ _ _ _ _ _ _ _ _
      refine z_if_eqT gi_251_47 zr_0 (by decide) ?_
      refine z_pushJ gp_251_54 ?_
      refine z_iret gi_251_56 gr_251 ?_
      show zW _ _ _ _ _ _ _ _ _ _
      refine z_istore (ls1 := [some (.ref 50), some (zi 5), some (zi i), some (zl v), none, some (zi (-13)), none]) gi_252_6 rfl ?_
      refine z_iload5 gi_252_8 ?_
      refine z_if_geF gi_252_10 zrn_13 (by decide) ?_
      refine z_iload5 gi_252_13 ?_
      refine z_iret gi_252_15 gr_252 ?_
      refine ⟨?_, ?_⟩
      · first | rfl | exact congrArg (fun v => some (zi v)) (by omega) | (exfalso; omega)
      · exact hr
    · refine z_pushJ gp_70_33 ?_
      refine z_goto gi_70_34 ?_
      refine z_iret gi_70_39 gr_70 ?_
      show zW _ _ _ _ _ _ _ _ _ _
      refine z_istore (ls1 := [some (.ref 0), some (zi 5), some (zi i), some (zl v), none, some (zi 0)]) gi_138_19 rfl ?_
      refine z_iload5 gi_138_21 ?_
      refine z_if_geT gi_138_23 zr_0 (by decide) ?_
      refine z_aload0 gi_138_29 ?_
      refine z_getR (r := 37) gi_138_30 gk_0 (hR _ rm_0_11) ?_
      refine z_iload1 gi_138_33 ?_
      refine z_aald (r := 48) gi_138_34 rfl (by decide) (by decide) (hR _ rm_37_5) ?_
      refine z_iload2 gi_138_35 ?_
      refine z_lload3 gi_138_36 ?_
      refine z_callVi (As := [_, _]) (le := [some _, some _, some _, none]) gi_138_37 rfl gk_48 (Nat.le_of_ble_eq_true rfl) (Nat.le_of_ble_eq_true rfl) rfl ?_
      refine z_iload1 gi_73_0 ?_
      refine z_if_ltF gi_73_1 (by omega) (by omega) ?_
      refine z_iload1 gi_73_4 ?_
      refine z_aload0 gi_73_5 ?_
      refine z_getI (v := J 48 3) gi_73_6 gk_48 (rfl) ?_
      refine z_icmp_geF gi_73_9 (by omega) (by omega) (by omega) ?_
      refine z_aload0 gi_73_12 ?_
      refine z_getR (r := 49) gi_73_13 gk_48 (hR _ rm_48_4) ?_
      refine z_iload1 gi_73_16 ?_
      refine z_aload0 gi_73_17 ?_
      refine z_lload2 gi_73_18 ?_
      refine z_callVi (As := [_]) (le := [some _, some _, none]) gi_73_19 rfl gk_48 (Nat.le_of_ble_eq_true rfl) (Nat.le_of_ble_eq_true rfl) rfl ?_
      refine z_aload0 gi_74_0 ?_
      refine z_getI (v := 4) gi_74_1 gk_48 (hso) ?_
      refine z_swI (tg := 54) gi_74_4 (by decide) (T := [((0 : Int), 40), ((1 : Int), 45), ((2 : Int), 50), ((3 : Int), 66), ((4 : Int), 54)]) rfl (by decide) ?_
      refine z_lload1 gi_74_54 ?_
      refine z_pushL (z := 0) gi_74_55 rfl ?_
      refine z_lcmp_eq gi_74_56 gi_74_57 (by omega) (by omega) (fun h3 => ?_) (fun h3 => ?_)
      · refine z_pushL (z := 0) gi_74_64 rfl ?_
        refine z_lret gi_74_65 gr_74 ?_
        show zW _ _ _ _ _ _ _ _ _ _
        refine z_last (e := 0) gi_73_22 gk_49 (by decide) (by omega) rfl ?_
        refine z_vret gi_73_23 gr_73 ?_
        show zW _ _ _ _ _ _ _ _ _ _
        refine z_pushJ gp_138_40 ?_
        refine z_iret gi_138_41 gr_138 ?_
        refine ⟨_, rfl, ?_⟩
        show zW _ _ _ _ [some (.ref 50), some (zi 5), some (zi i), some (zl v), none, none, none] _ _ _ _ _
        refine z_aload0 gi_252_0 ?_
        refine z_iload1 gi_252_1 ?_
        refine z_iload2 gi_252_2 ?_
        refine z_cV2 gi_252_3 gk_50 go_251 (Nat.le_of_ble_eq_true rfl) gc_251_RII ?_
        refine z_iload1 gi_251_0 ?_
        refine z_cS1 gi_251_1 (Nat.le_of_ble_eq_true rfl) gc_248_I ?_
        refine z_iload0 gi_248_0 ?_
        refine z_pushJ gp_248_1 ?_
        refine z_pushJ gp_248_2 ?_
        refine z_cS3 gi_248_3 (Nat.le_of_ble_eq_true rfl) gc_148_III ?_
        refine z_iload0 gi_148_0 ?_
        refine z_iload1 gi_148_1 ?_
        refine z_icmp_ltF gi_148_2 zr_5 zr_0 (by decide) ?_
        refine z_iload0 gi_148_5 ?_
        refine z_iload2 gi_148_6 ?_
        refine z_icmp_gtF gi_148_7 zr_5 zr_5 (by decide) ?_
        refine z_pushJ gp_148_10 ?_
        refine z_goto gi_148_11 ?_
        refine z_bret1 gi_148_15 gr_148 ?_
        show zW _ _ _ _ _ _ _ _ _ _
        refine z_bret1 gi_248_6 gr_248 ?_
        show zW _ _ _ _ _ _ _ _ _ _
        refine z_if_neT gi_251_4 zr_1 (by decide) ?_
        refine z_aload0 gi_251_9 ?_
        refine z_getR (r := 83) gi_251_10 gk_50 (hRr _ rm_50_58 (by decide)) ?_
        refine z_iload1 gi_251_13 ?_
        refine z_iald (v := (-6)) gi_251_14 gk_83 (by decide) (by decide) ((e83.trans (by rw [hso]; rfl))) ?_
        refine z_pushJ gp_251_15 ?_
        refine z_icmp_neT gi_251_16 zrn_6 zrn_1 (by decide) ?_
        refine z_aload0 gi_251_22 ?_
        refine z_getR (r := 83) gi_251_23 gk_50 (hRr _ rm_50_58 (by decide)) ?_
        refine z_iload1 gi_251_26 ?_
        refine z_iald (v := (-6)) gi_251_27 gk_83 (by decide) (by decide) ((e83.trans (by rw [hso]; rfl))) ?_
        refine z_if_ltT gi_251_28 zrn_6 (by decide) ?_
        refine z_iload2 gi_251_34 ?_
        refine z_pushJ gp_251_35 ?_
        refine z_aload0 gi_251_36 ?_
        refine z_getR (r := 84) gi_251_37 gk_50 (hRr _ rm_50_59 (by decide)) ?_
        refine z_iload1 gi_251_40 ?_
        refine z_iald (v := J 48 3) gi_251_41 gk_84 (by decide) (by decide) (s7) ?_
        refine z_pushJ gp_251_42 ?_
        refine z_isub (e := (J 48 3) - 1) gi_251_43 rfl ?_
        refine z_cS3 gi_251_44 (Nat.le_of_ble_eq_true rfl) gc_148_III ?_
        refine z_iload0 gi_148_0 ?_
        refine z_iload1 gi_148_1 ?_
        refine z_icmp_ltF gi_148_2 (by omega) zr_0 (by omega) ?_
        refine z_iload0 gi_148_5 ?_
        refine z_iload2 gi_148_6 ?_
        refine z_icmp_gtF gi_148_7 (by omega) (by omega) (by omega) ?_
        refine z_pushJ gp_148_10 ?_
        refine z_goto gi_148_11 ?_
        refine z_bret1 gi_148_15 gr_148 ?_
        show zW _ _ _ _ _ _ _ _ _ _
        refine z_if_eqF gi_251_47 zr_1 (by decide) ?_
        refine z_pushJ gp_251_50 ?_
        refine z_goto gi_251_51 ?_
        refine z_iret gi_251_56 gr_251 ?_
        show zW _ _ _ _ _ _ _ _ _ _
        refine z_istore (ls1 := [some (.ref 50), some (zi 5), some (zi i), some (zl v), none, some (zi 0), none]) gi_252_6 rfl ?_
        refine z_iload5 gi_252_8 ?_
        refine z_if_geT gi_252_10 zr_0 (by decide) ?_
        refine z_pushJ gp_252_16 ?_
        refine z_aload0 gi_252_18 ?_
        refine z_getR (r := 83) gi_252_19 gk_50 (hRr _ rm_50_58 (by decide)) ?_
        refine z_iload1 gi_252_22 ?_
        refine z_iald (v := (-6)) gi_252_23 gk_83 (by decide) (by decide) ((e83.trans (by rw [hso]; rfl))) ?_
        refine z_isub (e := 4) gi_252_24 rfl ?_
        refine z_istore (ls1 := [some (.ref 50), some (zi 5), some (zi i), some (zl v), none, some (zi 0), some (zi 4)]) gi_252_25 rfl ?_
        refine z_aload0 gi_252_27 ?_
        refine z_getR (r := 85) gi_252_28 gk_50 (hRr _ rm_50_60 (by decide)) ?_
        refine z_pushJ gp_252_31 ?_
        refine z_iload1 gi_252_33 ?_
        refine z_imul (e := 300) gi_252_34 rfl ?_
        refine z_iload2 gi_252_35 ?_
        refine z_iadd (e := 300 + i) gi_252_36 rfl ?_
        refine z_iload6 gi_252_37 ?_
        refine z_if_neT gi_252_39 zr_4 (by decide) ?_
        refine z_iload6 gi_252_49 ?_
        refine z_pushJ gp_252_51 ?_
        refine z_icmp_neT gi_252_52 zr_4 zr_1 (by decide) ?_
        refine z_iload6 gi_252_62 ?_
        refine z_pushJ gp_252_64 ?_
        refine z_icmp_neT gi_252_65 zr_4 zr_2 (by decide) ?_
        refine z_iload6 gi_252_74 ?_
        refine z_pushJ gp_252_76 ?_
        refine z_icmp_neT gi_252_77 zr_4 zr_3 (by decide) ?_
        refine z_lload3 gi_252_84 ?_
        refine z_pushL (z := 0) gi_252_85 rfl ?_
        refine z_lcmp_eq gi_252_86 gi_252_87 (by omega) (by omega) (fun h4 => ?_) (fun h4 => ?_)
        · refine z_pushL (z := 0) gi_252_94 rfl ?_
          refine z_last (e := 0) gi_252_95 gk_85 (by decide) (by omega) rfl ?_
          refine z_pushJ gp_252_96 ?_
          refine z_iret gi_252_97 gr_252 ?_
          refine ⟨?_, ?_⟩
          · first | rfl | exact congrArg (fun v => some (zi v)) (by omega) | (exfalso; omega)
          · have hk := (zK_r (k := (kL [] [])) (A := J))
            have hkm := (zK_x (a := 85) (x := 300 + i) (v := 0) (zK_x (a := 49) (x := i) (v := 0) (zK_r (k := (kL [49, 85] [])) (A := M)) rfl) rfl)
            exact ⟨hR, hG, RelY_k hk (by repeat' constructor) (fun p => by repeat' constructor) hY, RelD_k hk (by repeat' constructor) (fun p => by repeat' constructor) hD, RelP_k hk (by repeat' constructor) (fun p => by repeat' constructor) hP, RelC_k hk (by repeat' constructor) (fun p => by repeat' constructor) hC, RelA_k hk (by repeat' constructor) (fun p => by repeat' constructor) hAc, (RelS_one (J := J) (M := M) (c := 5) (fun t t1 t2 te => by have q : t = 0 ∨ t = 1 ∨ t = 2 ∨ t = 3 ∨ t = 4 ∨ t = 5 := (by omega); rcases q with rfl | rfl | rfl | rfl | rfl | rfl <;> first | exact absurd rfl te | exact ⟨fun j => rfl, rfl, rfl⟩) (fun t t1 t2 te => by have q : t = 0 ∨ t = 1 ∨ t = 2 ∨ t = 3 ∨ t = 4 ∨ t = 5 := (by omega); rcases q with rfl | rfl | rfl | rfl | rfl | rfl <;> first | exact absurd rfl te | exact ⟨fun j => rfl, fun j j1 j2 => (zU_x (by omega)).trans (zU_n (by decide))⟩) rfl (show RelS1 _ _ _ from ⟨(hS 5 (by decide) (by decide)).1, (hS 5 (by decide) (by decide)).2.1, s3, s4, (hS 5 (by decide) (by decide)).2.2.2.2.1, fun _ => ⟨s7.symm, fun k k1 k2 => by show (if k = i then 0 else M 49 k) = (if 300 + k = 300 + i then 0 else M 85 (300 + k)); by_cases e : k = i; rw [if_pos e, if_pos (by omega)]; rw [if_neg e, if_neg (by omega)]; exact s8 k k1 k2, (fun hq => absurd (Eq.trans (Eq.symm hq) hso) (by decide))⟩⟩) hS), RelT_k hk (by repeat' constructor) (fun p => by repeat' constructor) hTp, RelX_k hk (by repeat' constructor) (fun p => by repeat' constructor) hX, RelW_k hk ⟨rfl, rfl⟩ trivial hW⟩
        · refine z_pushL (z := 1) gi_252_90 rfl ?_
          refine z_goto gi_252_91 ?_
          refine z_last (e := 1) gi_252_95 gk_85 (by decide) (by omega) rfl ?_
          refine z_pushJ gp_252_96 ?_
          refine z_iret gi_252_97 gr_252 ?_
          refine ⟨?_, ?_⟩
          · first | rfl | exact congrArg (fun v => some (zi v)) (by omega) | (exfalso; omega)
          · exfalso
            omega
      · refine z_pushL (z := 1) gi_74_60 rfl ?_
        refine z_goto gi_74_61 ?_
        refine z_lret gi_74_65 gr_74 ?_
        show zW _ _ _ _ _ _ _ _ _ _
        refine z_last (e := 1) gi_73_22 gk_49 (by decide) (by omega) rfl ?_
        refine z_vret gi_73_23 gr_73 ?_
        show zW _ _ _ _ _ _ _ _ _ _
        refine z_pushJ gp_138_40 ?_
        refine z_iret gi_138_41 gr_138 ?_
        refine ⟨_, rfl, ?_⟩
        show zW _ _ _ _ [some (.ref 50), some (zi 5), some (zi i), some (zl v), none, none, none] _ _ _ _ _
        refine z_aload0 gi_252_0 ?_
        refine z_iload1 gi_252_1 ?_
        refine z_iload2 gi_252_2 ?_
        refine z_cV2 gi_252_3 gk_50 go_251 (Nat.le_of_ble_eq_true rfl) gc_251_RII ?_
        refine z_iload1 gi_251_0 ?_
        refine z_cS1 gi_251_1 (Nat.le_of_ble_eq_true rfl) gc_248_I ?_
        refine z_iload0 gi_248_0 ?_
        refine z_pushJ gp_248_1 ?_
        refine z_pushJ gp_248_2 ?_
        refine z_cS3 gi_248_3 (Nat.le_of_ble_eq_true rfl) gc_148_III ?_
        refine z_iload0 gi_148_0 ?_
        refine z_iload1 gi_148_1 ?_
        refine z_icmp_ltF gi_148_2 zr_5 zr_0 (by decide) ?_
        refine z_iload0 gi_148_5 ?_
        refine z_iload2 gi_148_6 ?_
        refine z_icmp_gtF gi_148_7 zr_5 zr_5 (by decide) ?_
        refine z_pushJ gp_148_10 ?_
        refine z_goto gi_148_11 ?_
        refine z_bret1 gi_148_15 gr_148 ?_
        show zW _ _ _ _ _ _ _ _ _ _
        refine z_bret1 gi_248_6 gr_248 ?_
        show zW _ _ _ _ _ _ _ _ _ _
        refine z_if_neT gi_251_4 zr_1 (by decide) ?_
        refine z_aload0 gi_251_9 ?_
        refine z_getR (r := 83) gi_251_10 gk_50 (hRr _ rm_50_58 (by decide)) ?_
        refine z_iload1 gi_251_13 ?_
        refine z_iald (v := (-6)) gi_251_14 gk_83 (by decide) (by decide) ((e83.trans (by rw [hso]; rfl))) ?_
        refine z_pushJ gp_251_15 ?_
        refine z_icmp_neT gi_251_16 zrn_6 zrn_1 (by decide) ?_
        refine z_aload0 gi_251_22 ?_
        refine z_getR (r := 83) gi_251_23 gk_50 (hRr _ rm_50_58 (by decide)) ?_
        refine z_iload1 gi_251_26 ?_
        refine z_iald (v := (-6)) gi_251_27 gk_83 (by decide) (by decide) ((e83.trans (by rw [hso]; rfl))) ?_
        refine z_if_ltT gi_251_28 zrn_6 (by decide) ?_
        refine z_iload2 gi_251_34 ?_
        refine z_pushJ gp_251_35 ?_
        refine z_aload0 gi_251_36 ?_
        refine z_getR (r := 84) gi_251_37 gk_50 (hRr _ rm_50_59 (by decide)) ?_
        refine z_iload1 gi_251_40 ?_
        refine z_iald (v := J 48 3) gi_251_41 gk_84 (by decide) (by decide) (s7) ?_
        refine z_pushJ gp_251_42 ?_
        refine z_isub (e := (J 48 3) - 1) gi_251_43 rfl ?_
        refine z_cS3 gi_251_44 (Nat.le_of_ble_eq_true rfl) gc_148_III ?_
        refine z_iload0 gi_148_0 ?_
        refine z_iload1 gi_148_1 ?_
        refine z_icmp_ltF gi_148_2 (by omega) zr_0 (by omega) ?_
        refine z_iload0 gi_148_5 ?_
        refine z_iload2 gi_148_6 ?_
        refine z_icmp_gtF gi_148_7 (by omega) (by omega) (by omega) ?_
        refine z_pushJ gp_148_10 ?_
        refine z_goto gi_148_11 ?_
        refine z_bret1 gi_148_15 gr_148 ?_
        show zW _ _ _ _ _ _ _ _ _ _
        refine z_if_eqF gi_251_47 zr_1 (by decide) ?_
        refine z_pushJ gp_251_50 ?_
        refine z_goto gi_251_51 ?_
        refine z_iret gi_251_56 gr_251 ?_
        show zW _ _ _ _ _ _ _ _ _ _
        refine z_istore (ls1 := [some (.ref 50), some (zi 5), some (zi i), some (zl v), none, some (zi 0), none]) gi_252_6 rfl ?_
        refine z_iload5 gi_252_8 ?_
        refine z_if_geT gi_252_10 zr_0 (by decide) ?_
        refine z_pushJ gp_252_16 ?_
        refine z_aload0 gi_252_18 ?_
        refine z_getR (r := 83) gi_252_19 gk_50 (hRr _ rm_50_58 (by decide)) ?_
        refine z_iload1 gi_252_22 ?_
        refine z_iald (v := (-6)) gi_252_23 gk_83 (by decide) (by decide) ((e83.trans (by rw [hso]; rfl))) ?_
        refine z_isub (e := 4) gi_252_24 rfl ?_
        refine z_istore (ls1 := [some (.ref 50), some (zi 5), some (zi i), some (zl v), none, some (zi 0), some (zi 4)]) gi_252_25 rfl ?_
        refine z_aload0 gi_252_27 ?_
        refine z_getR (r := 85) gi_252_28 gk_50 (hRr _ rm_50_60 (by decide)) ?_
        refine z_pushJ gp_252_31 ?_
        refine z_iload1 gi_252_33 ?_
        refine z_imul (e := 300) gi_252_34 rfl ?_
        refine z_iload2 gi_252_35 ?_
        refine z_iadd (e := 300 + i) gi_252_36 rfl ?_
        refine z_iload6 gi_252_37 ?_
        refine z_if_neT gi_252_39 zr_4 (by decide) ?_
        refine z_iload6 gi_252_49 ?_
        refine z_pushJ gp_252_51 ?_
        refine z_icmp_neT gi_252_52 zr_4 zr_1 (by decide) ?_
        refine z_iload6 gi_252_62 ?_
        refine z_pushJ gp_252_64 ?_
        refine z_icmp_neT gi_252_65 zr_4 zr_2 (by decide) ?_
        refine z_iload6 gi_252_74 ?_
        refine z_pushJ gp_252_76 ?_
        refine z_icmp_neT gi_252_77 zr_4 zr_3 (by decide) ?_
        refine z_lload3 gi_252_84 ?_
        refine z_pushL (z := 0) gi_252_85 rfl ?_
        refine z_lcmp_eq gi_252_86 gi_252_87 (by omega) (by omega) (fun h4 => ?_) (fun h4 => ?_)
        · refine z_pushL (z := 0) gi_252_94 rfl ?_
          refine z_last (e := 0) gi_252_95 gk_85 (by decide) (by omega) rfl ?_
          refine z_pushJ gp_252_96 ?_
          refine z_iret gi_252_97 gr_252 ?_
          refine ⟨?_, ?_⟩
          · first | rfl | exact congrArg (fun v => some (zi v)) (by omega) | (exfalso; omega)
          · exfalso
            omega
        · refine z_pushL (z := 1) gi_252_90 rfl ?_
          refine z_goto gi_252_91 ?_
          refine z_last (e := 1) gi_252_95 gk_85 (by decide) (by omega) rfl ?_
          refine z_pushJ gp_252_96 ?_
          refine z_iret gi_252_97 gr_252 ?_
          refine ⟨?_, ?_⟩
          · first | rfl | exact congrArg (fun v => some (zi v)) (by omega) | (exfalso; omega)
          · have hk := (zK_r (k := (kL [] [])) (A := J))
            have hkm := (zK_x (a := 85) (x := 300 + i) (v := 1) (zK_x (a := 49) (x := i) (v := 1) (zK_r (k := (kL [49, 85] [])) (A := M)) rfl) rfl)
            exact ⟨hR, hG, RelY_k hk (by repeat' constructor) (fun p => by repeat' constructor) hY, RelD_k hk (by repeat' constructor) (fun p => by repeat' constructor) hD, RelP_k hk (by repeat' constructor) (fun p => by repeat' constructor) hP, RelC_k hk (by repeat' constructor) (fun p => by repeat' constructor) hC, RelA_k hk (by repeat' constructor) (fun p => by repeat' constructor) hAc, (RelS_one (J := J) (M := M) (c := 5) (fun t t1 t2 te => by have q : t = 0 ∨ t = 1 ∨ t = 2 ∨ t = 3 ∨ t = 4 ∨ t = 5 := (by omega); rcases q with rfl | rfl | rfl | rfl | rfl | rfl <;> first | exact absurd rfl te | exact ⟨fun j => rfl, rfl, rfl⟩) (fun t t1 t2 te => by have q : t = 0 ∨ t = 1 ∨ t = 2 ∨ t = 3 ∨ t = 4 ∨ t = 5 := (by omega); rcases q with rfl | rfl | rfl | rfl | rfl | rfl <;> first | exact absurd rfl te | exact ⟨fun j => rfl, fun j j1 j2 => (zU_x (by omega)).trans (zU_n (by decide))⟩) rfl (show RelS1 _ _ _ from ⟨(hS 5 (by decide) (by decide)).1, (hS 5 (by decide) (by decide)).2.1, s3, s4, (hS 5 (by decide) (by decide)).2.2.2.2.1, fun _ => ⟨s7.symm, fun k k1 k2 => by show (if k = i then 1 else M 49 k) = (if 300 + k = 300 + i then 1 else M 85 (300 + k)); by_cases e : k = i; rw [if_pos e, if_pos (by omega)]; rw [if_neg e, if_neg (by omega)]; exact s8 k k1 k2, (fun hq => absurd (Eq.trans (Eq.symm hq) hso) (by decide))⟩⟩) hS), RelT_k hk (by repeat' constructor) (fun p => by repeat' constructor) hTp, RelX_k hk (by repeat' constructor) (fun p => by repeat' constructor) hX, RelW_k hk ⟨rfl, rfl⟩ trivial hW⟩
