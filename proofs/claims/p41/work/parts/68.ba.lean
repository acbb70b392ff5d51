theorem zU_S {J : zA} {c c2 : Nat} {f : Int → Int} {n x v : Int} (h : c2 ≠ c) : zU (zS J c f n) c2 x v = zS (zU J c2 x v) c f n := by
  funext y z
  by_cases e : y = c
  · subst e
    rw [zU_n (Ne.symm h), zS_i, zS_i, zU_n (Ne.symm h)]
  · by_cases e2 : y = c2
    · subst e2
      rw [zU_i, zS_n e, zS_n e, zU_i]
    · rw [zU_n e2, zS_n e, zS_n e, zU_n e2]
theorem back_z {X : Nat × (Nat → Int32)} {d : Nat} {J M : zA} {R : zR} {P : zP} {n m : Int} (hR : zRoR R) (hz : J 50 1 = n) (hm : J 50 48 = m) (hn : 0 ≤ n ∧ n ≤ 8) (hm2 : 0 ≤ m ∧ m ≤ 8) : ∀ (j : Nat) (i : Int), i + j = n → 0 ≤ i → zW X d 229 90 [some (.ref 50), some (zi n)] [] (zS (zS J 75 (fun y => if y < m then J 78 y else 0) n) 76 (fun y => if y < m then J 79 y else 0) n) M R P → zW X d 229 28 [some (.ref 50), some (zi i)] [] (zS (zS J 75 (fun y => if y < m then J 78 y else 0) i) 76 (fun y => if y < m then J 79 y else 0) i) M R P := by
  intro j
  induction j with
  | zero =>
    intro i hi h0 K
    obtain rfl : i = n := by omega
    refine z_iload rfl rfl ?_
    refine z_aload rfl rfl ?_
    refine z_getI (v := i) rfl rfl (((zS_n (by decide)).trans (zS_n (by decide))).trans hz) ?_
    exact z_icmp_geT rfl (by omega) (by omega) (by omega) K
  | succ j ih =>
    intro i hi h0 K
    refine z_iload1 rfl ?_
    refine z_aload0 rfl ?_
    refine z_getI (v := n) rfl gk_50 (((zS_n (by decide)).trans (zS_n (by decide))).trans hz) ?_
    refine z_icmp_geF rfl (by omega) (by omega) (by omega) ?_
    refine z_aload0 rfl ?_
    refine z_getR (r := 75) rfl gk_50 (hR _ rm_50_42 (by decide)) ?_
    refine z_iload1 rfl ?_
    refine z_iload1 rfl ?_
    refine z_aload0 rfl ?_
    refine z_getI (v := m) rfl gk_50 (((zS_n (by decide)).trans (zS_n (by decide))).trans hm) ?_
    refine z_icmp_ge rfl (by omega) (by omega) (fun h1 => ?_) (fun h1 => ?_)
    · refine z_pushJ gp_229_58 ?_
      refine z_iast (e := 0) gi_229_59 gk_75 (by decide) (by omega) rfl ?_
      refine z_aload0 gi_229_60 ?_
      refine z_getR (r := 76) gi_229_61 gk_50 (hR _ rm_50_43 (by decide)) ?_
      refine z_iload1 gi_229_64 ?_
      refine z_iload1 gi_229_65 ?_
      refine z_aload0 gi_229_66 ?_
      refine z_getI (v := m) gi_229_67 gk_50 ((zU_n (by decide)).trans (((zS_n (by decide)).trans (zS_n (by decide))).trans hm)) ?_
      refine z_icmp_geT gi_229_70 (by omega) (by omega) (by omega) ?_
      refine z_pushJ gp_229_82 ?_
      refine z_iast (e := 0) gi_229_83 gk_76 (by decide) (by omega) rfl ?_
      refine z_iinc (c := 1) (e := i + 1) (ls1 := [some (.ref 50), some (zi (i + 1))]) gi_229_84 rfl rfl rfl rfl ?_
      refine z_goto gi_229_87 ?_
      show zW _ _ _ _ [some (.ref 50), some (zi (i + 1))] [] _ _ _ _
      rw [zU_S (by decide), zS_s h0 (show (if i < m then J 79 i else 0) = 0 by rw [if_neg (by omega)]), zS_s h0 (show (if i < m then J 78 i else 0) = 0 by rw [if_neg (by omega)])]
      exact ih (i + 1) (by omega) (by omega) K
    · refine z_aload0 rfl ?_
      refine z_getR (r := 78) rfl gk_50 (hR _ rm_50_51 (by decide)) ?_
      refine z_iload1 rfl ?_
      refine z_iald (v := J 78 i) rfl gk_78 (by decide) (by omega) ((zS_n (by decide)).trans (zS_n (by decide))) ?_
      refine z_goto rfl ?_
      refine z_iast (e := J 78 i) gi_229_59 gk_75 (by decide) (by omega) rfl ?_
      refine z_aload0 gi_229_60 ?_
      refine z_getR (r := 76) gi_229_61 gk_50 (hR _ rm_50_43 (by decide)) ?_
      refine z_iload1 gi_229_64 ?_
      refine z_iload1 gi_229_65 ?_
      refine z_aload0 gi_229_66 ?_
      refine z_getI (v := m) gi_229_67 gk_50 ((zU_n (by decide)).trans (((zS_n (by decide)).trans (zS_n (by decide))).trans hm)) ?_
      refine z_icmp_geF gi_229_70 (by omega) (by omega) (by omega) ?_
      refine z_aload0 rfl ?_
      refine z_getR (r := 79) rfl gk_50 (hR _ rm_50_52 (by decide)) ?_
      refine z_iload1 rfl ?_
      refine z_iald (v := J 79 i) rfl gk_79 (by decide) (by omega) ((zU_n (by decide)).trans ((zS_n (by decide)).trans (zS_n (by decide)))) ?_
      refine z_goto rfl ?_
      refine z_iast (e := J 79 i) gi_229_83 gk_76 (by decide) (by omega) rfl ?_
      refine z_iinc (c := 1) (e := i + 1) (ls1 := [some (.ref 50), some (zi (i + 1))]) gi_229_84 rfl rfl rfl rfl ?_
      refine z_goto gi_229_87 ?_
      show zW _ _ _ _ [some (.ref 50), some (zi (i + 1))] [] _ _ _ _
      rw [zU_S (by decide), zS_s h0 (show (if i < m then J 79 i else 0) = J 79 i by rw [if_pos (by omega)]), zS_s h0 (show (if i < m then J 78 i else 0) = J 78 i by rw [if_pos (by omega)])]
      exact ih (i + 1) (by omega) (by omega) K
theorem RelD_back {J J2 : zA} (hP : RelP1 J) (hY : RelY J) (e3 : J2 23 3 = J 26 3) (e4 : J2 23 4 = J 26 4) (e5 : J2 23 5 = J 26 5) (e6 : J2 23 6 = J 26 6) (e7 : J2 23 7 = J 26 7) (e8 : J2 23 8 = J 26 8) (f45 : J2 50 45 = J 50 50) (f44 : J2 50 44 = J 50 49) (g0 : J2 77 0 = J 80 0) (g1 : J2 77 1 = J 80 1) (g2 : J2 77 2 = J 80 2) (g3 : J2 77 3 = J 80 3) (hn : J2 8 2 = J 8 2) (a24 : ∀ q, 0 ≤ q → q < 8 → J2 24 q = J 27 q) (a25 : ∀ q, 0 ≤ q → q < 8 → J2 25 q = J 28 q) (a75 : ∀ q, 0 ≤ q → q < J 8 2 → J2 75 q = if q < J 50 48 then J 78 q else 0) (a76 : ∀ q, 0 ≤ q → q < J 8 2 → J2 76 q = if q < J 50 48 then J 79 q else 0) : RelD J2 := by
  obtain ⟨⟨d1, d2, d3, d4, d5, d6⟩, d7, d8, d9, d10, d11, d12⟩ := hP
  have yn := zNn hY.2.2
  refine ⟨⟨by rw [e3, f45, d1], by rw [e4, f44, d2], by rw [e5, g0, d3], by rw [e6, g1, d4], by rw [e7, g2, d5], by rw [e8, g3, d6]⟩, by rw [e3]; exact d7, by rw [e4, hn]; exact d8, fun q q1 q2 => ?_, fun q q1 q2 => ?_, fun q q1 q2 => ?_⟩
  · rw [hn] at q2
    rw [a24 q q1 (by omega), a25 q q1 (by omega), a75 q q1 q2, a76 q q1 q2]
    by_cases e : q < J 50 48
    · rw [if_pos e, if_pos e]; exact d10 q q1 e
    · rw [if_neg e, if_neg e]; exact d11 q (by omega) (by omega)
  · rw [hn] at q1
    rw [a24 q (by omega) q2, a25 q (by omega) q2]
    exact d11 q (by omega) q2
  · rw [a24 q q1 q2, a25 q q1 q2, e3]
    exact d12 q q1 q2
theorem st_back_0 {X : Nat × (Nat → Int32)} {d : Nat} {J M : zA} {R : zR} (hr : Rel X J M R)  (h08 : J 0 8 = 0) : zW X (d + 20) 130 0 (gEn 130 [(.ref 0)]) [] J M R (stP X (d + 20) 229 []) := by
  have hr0 := hr
  obtain ⟨hR, hG, hY, hD, hP, hC, hAc, hS, hTp, hX, hW⟩ := hr0
  have hRr : zRoR R := zRoR_of hR
  have hP0 := hP
  obtain ⟨p1, p2, p3⟩ := hP0
  show zW _ _ _ _ [some (.ref 0)] _ _ _ _ _
  refine z_aload0 gi_130_0 ?_
  refine z_getI (v := 0) gi_130_1 gk_0 (h08) ?_
  refine z_if_neF gi_130_4 zr_0 (by decide) ?_
  refine z_pushJ gp_130_7 ?_
  refine z_iret rfl gr_130 ?_
  refine ⟨_, rfl, ?_⟩
  show zW _ _ _ _ [some (.ref 50), none] _ _ _ _ _
  refine z_aload0 gi_229_0 ?_
  refine z_getI (v := 0) gi_229_1 gk_50 (p1.symm.trans h08) ?_
  refine z_if_neF gi_229_4 zr_0 (by decide) ?_
  refine z_pushJ gp_229_7 ?_
  refine z_iret rfl gr_229 ?_
  refine ⟨?_, ?_⟩
  · first | rfl | exact congrArg (fun v => some (zi v)) (by omega) | (exfalso; omega)
  · exact hr
theorem st_back_1 {X : Nat × (Nat → Int32)} {d : Nat} {J M : zA} {R : zR} (hr : Rel X J M R)  (h08 : J 0 8 = 1) : zW X (d + 20) 130 0 (gEn 130 [(.ref 0)]) [] J M R (stP X (d + 20) 229 []) := by
  have hr0 := hr
  obtain ⟨hR, hG, hY, hD, hP, hC, hAc, hS, hTp, hX, hW⟩ := hr0
  have hRr : zRoR R := zRoR_of hR
  have hY0 := hY
  obtain ⟨y1, y2, y3⟩ := hY0
  have yn := zNn y3
  have hP0 := hP
  obtain ⟨p1, p2, p3⟩ := hP0
  have hP1 : RelP1 J := p3 h08
  have hP2 := hP1
  obtain ⟨⟨b1, b2, b3, b4, b5, b6⟩, b7, b8, b9, b10, b11, b12⟩ := hP2
  show zW _ _ _ _ [some (.ref 0)] _ _ _ _ _
  refine z_aload0 gi_130_0 ?_
  refine z_getI (v := 1) gi_130_1 gk_0 (h08) ?_
  refine z_if_neT gi_130_4 zr_1 (by decide) ?_
  refine z_aload0 rfl ?_
  refine z_getR (r := 23) rfl gk_0 (hR _ rm_0_6) ?_
  refine z_aload0 rfl ?_
  refine z_getR (r := 26) rfl gk_0 (hR _ rm_0_7) ?_
  refine z_cV1 rfl gk_23 go_23 (Nat.le_of_ble_eq_true rfl) gc_23_RR ?_
  refine z_aload1 gi_23_0 ?_
  refine z_getR (r := 27) gi_23_1 gk_26 (hR _ rm_26_1) ?_
  refine z_pushJ gp_23_4 ?_
  refine z_aload0 gi_23_5 ?_
  refine z_getR (r := 24) gi_23_6 gk_23 (hR _ rm_23_1) ?_
  refine z_pushJ gp_23_9 ?_
  refine z_pushJ gp_23_10 ?_
  refine z_copyI gi_23_12 gk_27 gk_24 (by decide) (by decide) (by decide) (by decide) (by decide) (by decide) (by decide) (by decide) ?_
  refine z_aload1 gi_23_15 ?_
  refine z_getR (r := 28) gi_23_16 gk_26 (hR _ rm_26_2) ?_
  refine z_pushJ gp_23_19 ?_
  refine z_aload0 gi_23_20 ?_
  refine z_getR (r := 25) gi_23_21 gk_23 (hR _ rm_23_2) ?_
  refine z_pushJ gp_23_24 ?_
  refine z_pushJ gp_23_25 ?_
  refine z_copyI gi_23_27 gk_28 gk_25 (by decide) (by decide) (by decide) (by decide) (by decide) (by decide) (by decide) (by decide) ?_
  refine z_aload0 gi_23_30 ?_
  refine z_aload1 gi_23_31 ?_
  refine z_getI (v := J 26 3) gi_23_32 gk_26 ((zC_n (by decide)).trans ((zC_n (by decide)).trans (rfl))) ?_
  refine z_putI (y := 3) gi_23_35 rfl gk_23 ?_
  refine z_aload0 gi_23_38 ?_
  refine z_aload1 gi_23_39 ?_
  refine z_getI (v := J 26 4) gi_23_40 gk_26 ((zU_n (by decide)).trans ((zC_n (by decide)).trans ((zC_n (by decide)).trans (rfl)))) ?_
  refine z_putI (y := 4) gi_23_43 rfl gk_23 ?_
  refine z_aload0 gi_23_46 ?_
  refine z_aload1 gi_23_47 ?_
  refine z_getI (v := J 26 5) gi_23_48 gk_26 ((zU_n (by decide)).trans ((zU_n (by decide)).trans ((zC_n (by decide)).trans ((zC_n (by decide)).trans (rfl))))) ?_
  refine z_putI (y := 5) gi_23_51 rfl gk_23 ?_
  refine z_aload0 gi_23_54 ?_
  refine z_aload1 gi_23_55 ?_
  refine z_getI (v := J 26 6) gi_23_56 gk_26 ((zU_n (by decide)).trans ((zU_n (by decide)).trans ((zU_n (by decide)).trans ((zC_n (by decide)).trans ((zC_n (by decide)).trans (rfl)))))) ?_
  refine z_putI (y := 6) gi_23_59 rfl gk_23 ?_
  refine z_aload0 gi_23_62 ?_
  refine z_aload1 gi_23_63 ?_
  refine z_getI (v := J 26 7) gi_23_64 gk_26 ((zU_n (by decide)).trans ((zU_n (by decide)).trans ((zU_n (by decide)).trans ((zU_n (by decide)).trans ((zC_n (by decide)).trans ((zC_n (by decide)).trans (rfl))))))) ?_
  refine z_putI (y := 7) gi_23_67 rfl gk_23 ?_
  refine z_aload0 gi_23_70 ?_
  refine z_aload1 gi_23_71 ?_
  refine z_getI (v := J 26 8) gi_23_72 gk_26 ((zU_n (by decide)).trans ((zU_n (by decide)).trans ((zU_n (by decide)).trans ((zU_n (by decide)).trans ((zU_n (by decide)).trans ((zC_n (by decide)).trans ((zC_n (by decide)).trans (rfl)))))))) ?_
  refine z_putI (y := 8) gi_23_75 rfl gk_23 ?_
  refine z_vret gi_23_78 gr_23 ?_
  show zW _ _ _ _ _ _ _ _ _ _
  refine z_aload0 rfl ?_
  refine z_getR (r := 23) rfl gk_0 (hR _ rm_0_6) ?_
  refine z_getI (v := J 26 3) rfl gk_23 ((zU_x (by decide)).trans ((zU_x (by decide)).trans ((zU_x (by decide)).trans ((zU_x (by decide)).trans ((zU_x (by decide)).trans (zU_e)))))) ?_
  refine z_iret rfl gr_130 ?_
  refine ⟨_, rfl, ?_⟩
  show zW _ _ _ _ [some (.ref 50), none] _ _ _ _ _
  refine z_aload0 gi_229_0 ?_
  refine z_getI (v := 1) gi_229_1 gk_50 ((zU_n (by decide)).trans ((zU_n (by decide)).trans ((zU_n (by decide)).trans ((zU_n (by decide)).trans ((zU_n (by decide)).trans ((zU_n (by decide)).trans ((zC_n (by decide)).trans ((zC_n (by decide)).trans (p1.symm.trans h08))))))))) ?_
  refine z_if_neT gi_229_4 zr_1 (by decide) ?_
  refine z_aload0 rfl ?_
  refine z_aload0 rfl ?_
  refine z_getI (v := J 50 49) rfl gk_50 ((zU_n (by decide)).trans ((zU_n (by decide)).trans ((zU_n (by decide)).trans ((zU_n (by decide)).trans ((zU_n (by decide)).trans ((zU_n (by decide)).trans ((zC_n (by decide)).trans ((zC_n (by decide)).trans (rfl))))))))) ?_
  refine z_putI (y := 44) rfl rfl gk_50 ?_
  refine z_aload0 rfl ?_
  refine z_aload0 rfl ?_
  refine z_getI (v := J 50 50) rfl gk_50 ((zU_x (by decide)).trans ((zU_n (by decide)).trans ((zU_n (by decide)).trans ((zU_n (by decide)).trans ((zU_n (by decide)).trans ((zU_n (by decide)).trans ((zU_n (by decide)).trans ((zC_n (by decide)).trans ((zC_n (by decide)).trans (rfl)))))))))) ?_
  refine z_putI (y := 45) rfl rfl gk_50 ?_
  refine z_pushJ gp_229_26 ?_
  refine z_istore (ls1 := [some (.ref 50), some (zi 0)]) rfl rfl ?_
  show zW _ _ _ _ [some (.ref 50), some (zi 0)] [] _ _ _ _
  refine zS_01 (c := 75) (f := (fun y => if y < J 50 48 then J 78 y else 0)) ?_
  refine zS_01 (c := 76) (f := (fun y => if y < J 50 48 then J 79 y else 0)) ?_
  refine back_z hRr (n := J 8 2) (m := J 50 48) (by exact y2.symm) (by exact rfl) yn (by omega) (J 8 2).toNat 0 (by omega) (by decide) ?_
  refine z_pushJ gp_229_90 ?_
  refine z_istore (ls1 := [some (.ref 50), some (zi 0)]) rfl rfl ?_
  refine z_iload1 gi_229_92 ?_
  refine z_pushJ gp_229_93 ?_
  refine z_icmp_geF gi_229_94 zr_0 zr_4 (by decide) ?_
  refine z_aload0 gi_229_97 ?_
  refine z_getR (r := 77) gi_229_98 gk_50 (hRr _ rm_50_46 (by decide)) ?_
  refine z_iload1 gi_229_101 ?_
  refine z_aload0 gi_229_102 ?_
  refine z_getR (r := 80) gi_229_103 gk_50 (hRr _ rm_50_53 (by decide)) ?_
  refine z_iload1 gi_229_106 ?_
  refine z_iald (v := J 80 0) gi_229_107 gk_80 (by decide) (by decide) ((zS_n (by decide)).trans ((zS_n (by decide)).trans ((zU_n (by decide)).trans ((zU_n (by decide)).trans ((zU_n (by decide)).trans ((zU_n (by decide)).trans ((zU_n (by decide)).trans ((zU_n (by decide)).trans ((zU_n (by decide)).trans ((zU_n (by decide)).trans ((zC_n (by decide)).trans ((zC_n (by decide)).trans (rfl))))))))))))) ?_
  refine z_iast (e := J 80 0) gi_229_108 gk_77 (by decide) (by decide) rfl ?_
  refine z_iinc (c := 1) (e := 1) (ls1 := [some (.ref 50), some (zi 1)]) gi_229_109 rfl rfl rfl rfl ?_
  refine z_goto gi_229_112 ?_
  show zW _ _ _ _ [some (.ref 50), some (zi 1)] [] _ _ _ _
  refine z_iload1 gi_229_92 ?_
  refine z_pushJ gp_229_93 ?_
  refine z_icmp_geF gi_229_94 zr_1 zr_4 (by decide) ?_
  refine z_aload0 gi_229_97 ?_
  refine z_getR (r := 77) gi_229_98 gk_50 (hRr _ rm_50_46 (by decide)) ?_
  refine z_iload1 gi_229_101 ?_
  refine z_aload0 gi_229_102 ?_
  refine z_getR (r := 80) gi_229_103 gk_50 (hRr _ rm_50_53 (by decide)) ?_
  refine z_iload1 gi_229_106 ?_
  refine z_iald (v := J 80 1) gi_229_107 gk_80 (by decide) (by decide) ((zU_n (by decide)).trans ((zS_n (by decide)).trans ((zS_n (by decide)).trans ((zU_n (by decide)).trans ((zU_n (by decide)).trans ((zU_n (by decide)).trans ((zU_n (by decide)).trans ((zU_n (by decide)).trans ((zU_n (by decide)).trans ((zU_n (by decide)).trans ((zU_n (by decide)).trans ((zC_n (by decide)).trans ((zC_n (by decide)).trans (rfl)))))))))))))) ?_
  refine z_iast (e := J 80 1) gi_229_108 gk_77 (by decide) (by decide) rfl ?_
  refine z_iinc (c := 1) (e := 2) (ls1 := [some (.ref 50), some (zi 2)]) gi_229_109 rfl rfl rfl rfl ?_
  refine z_goto gi_229_112 ?_
  show zW _ _ _ _ [some (.ref 50), some (zi 2)] [] _ _ _ _
  refine z_iload1 gi_229_92 ?_
  refine z_pushJ gp_229_93 ?_
  refine z_icmp_geF gi_229_94 zr_2 zr_4 (by decide) ?_
  refine z_aload0 gi_229_97 ?_
  refine z_getR (r := 77) gi_229_98 gk_50 (hRr _ rm_50_46 (by decide)) ?_
  refine z_iload1 gi_229_101 ?_
  refine z_aload0 gi_229_102 ?_
  refine z_getR (r := 80) gi_229_103 gk_50 (hRr _ rm_50_53 (by decide)) ?_
  refine z_iload1 gi_229_106 ?_
  refine z_iald (v := J 80 2) gi_229_107 gk_80 (by decide) (by decide) ((zU_n (by decide)).trans ((zU_n (by decide)).trans ((zS_n (by decide)).trans ((zS_n (by decide)).trans ((zU_n (by decide)).trans ((zU_n (by decide)).trans ((zU_n (by decide)).trans ((zU_n (by decide)).trans ((zU_n (by decide)).trans ((zU_n (by decide)).trans ((zU_n (by decide)).trans ((zU_n (by decide)).trans ((zC_n (by decide)).trans ((zC_n (by decide)).trans (rfl))))))))))))))) ?_
  refine z_iast (e := J 80 2) gi_229_108 gk_77 (by decide) (by decide) rfl ?_
  refine z_iinc (c := 1) (e := 3) (ls1 := [some (.ref 50), some (zi 3)]) gi_229_109 rfl rfl rfl rfl ?_
  refine z_goto gi_229_112 ?_
  show zW _ _ _ _ [some (.ref 50), some (zi 3)] [] _ _ _ _
  refine z_iload1 gi_229_92 ?_
  refine z_pushJ gp_229_93 ?_
  refine z_icmp_geF gi_229_94 zr_3 zr_4 (by decide) ?_
  refine z_aload0 gi_229_97 ?_
  refine z_getR (r := 77) gi_229_98 gk_50 (hRr _ rm_50_46 (by decide)) ?_
  refine z_iload1 gi_229_101 ?_
  refine z_aload0 gi_229_102 ?_
  refine z_getR (r := 80) gi_229_103 gk_50 (hRr _ rm_50_53 (by decide)) ?_
  refine z_iload1 gi_229_106 ?_
  refine z_iald (v := J 80 3) gi_229_107 gk_80 (by decide) (by decide) ((zU_n (by decide)).trans ((zU_n (by decide)).trans ((zU_n (by decide)).trans ((zS_n (by decide)).trans ((zS_n (by decide)).trans ((zU_n (by decide)).trans ((zU_n (by decide)).trans ((zU_n (by decide)).trans ((zU_n (by decide)).trans ((zU_n (by decide)).trans ((zU_n (by decide)).trans ((zU_n (by decide)).trans ((zU_n (by decide)).trans ((zC_n (by decide)).trans ((zC_n (by decide)).trans (rfl)))))))))))))))) ?_
  refine z_iast (e := J 80 3) gi_229_108 gk_77 (by decide) (by decide) rfl ?_
  refine z_iinc (c := 1) (e := 4) (ls1 := [some (.ref 50), some (zi 4)]) gi_229_109 rfl rfl rfl rfl ?_
  refine z_goto gi_229_112 ?_
  show zW _ _ _ _ [some (.ref 50), some (zi 4)] [] _ _ _ _
  refine z_iload1 gi_229_92 ?_
  refine z_pushJ gp_229_93 ?_
  refine z_icmp_geT gi_229_94 zr_4 zr_4 (by decide) ?_
  refine z_aload0 rfl ?_
  refine z_getI (v := J 50 50) rfl gk_50 ((zU_n (by decide)).trans ((zU_n (by decide)).trans ((zU_n (by decide)).trans ((zU_n (by decide)).trans ((zS_n (by decide)).trans ((zS_n (by decide)).trans (zU_e))))))) ?_
  refine z_iret rfl gr_229 ?_
  refine ⟨?_, ?_⟩
  · first | rfl | exact congrArg (fun v => some (zi v)) (by omega) | (exfalso; omega)
  · have hk := (zK_x (a := 77) (x := 3) (v := J 80 3) (zK_x (a := 77) (x := 2) (v := J 80 2) (zK_x (a := 77) (x := 1) (v := J 80 1) (zK_x (a := 77) (x := 0) (v := J 80 0) (zK_S (c := 76) (f := (fun y => if y < J 50 48 then J 79 y else 0)) (n := (J 8 2)) (zK_S (c := 75) (f := (fun y => if y < J 50 48 then J 78 y else 0)) (n := (J 8 2)) (zK_x (a := 50) (x := 45) (v := J 50 50) (zK_x (a := 50) (x := 44) (v := J 50 49) (zK_x (a := 23) (x := 8) (v := J 26 8) (zK_x (a := 23) (x := 7) (v := J 26 7) (zK_x (a := 23) (x := 6) (v := J 26 6) (zK_x (a := 23) (x := 5) (v := J 26 5) (zK_x (a := 23) (x := 4) (v := J 26 4) (zK_x (a := 23) (x := 3) (v := J 26 3) (zK_c (a := 28) (b := 25) (sp := 0) (dp := 0) (n := 8) (zK_c (a := 27) (b := 24) (sp := 0) (dp := 0) (n := 8) (zK_r (k := (kL [24, 25, 75, 76] [(23, 3), (23, 4), (23, 5), (23, 6), (23, 7), (23, 8), (50, 44), (50, 45), (77, 0), (77, 1), (77, 2), (77, 3)])) (A := J)) (fun _ => rfl)) (fun _ => rfl)) rfl) rfl) rfl) rfl) rfl) rfl) rfl) rfl) (fun _ => rfl)) (fun _ => rfl)) rfl) rfl) rfl) rfl)
    exact ⟨hR, hG, RelY_k hk (by repeat' constructor) (fun p => by repeat' constructor) hY, (RelD_back (J := J) hP1 hY ((zU_n (by decide)).trans ((zU_n (by decide)).trans ((zU_n (by decide)).trans ((zU_n (by decide)).trans ((zS_n (by decide)).trans ((zS_n (by decide)).trans ((zU_n (by decide)).trans ((zU_n (by decide)).trans ((zU_x (by decide)).trans ((zU_x (by decide)).trans ((zU_x (by decide)).trans ((zU_x (by decide)).trans ((zU_x (by decide)).trans (zU_e)))))))))))))) ((zU_n (by decide)).trans ((zU_n (by decide)).trans ((zU_n (by decide)).trans ((zU_n (by decide)).trans ((zS_n (by decide)).trans ((zS_n (by decide)).trans ((zU_n (by decide)).trans ((zU_n (by decide)).trans ((zU_x (by decide)).trans ((zU_x (by decide)).trans ((zU_x (by decide)).trans ((zU_x (by decide)).trans (zU_e))))))))))))) ((zU_n (by decide)).trans ((zU_n (by decide)).trans ((zU_n (by decide)).trans ((zU_n (by decide)).trans ((zS_n (by decide)).trans ((zS_n (by decide)).trans ((zU_n (by decide)).trans ((zU_n (by decide)).trans ((zU_x (by decide)).trans ((zU_x (by decide)).trans ((zU_x (by decide)).trans (zU_e)))))))))))) ((zU_n (by decide)).trans ((zU_n (by decide)).trans ((zU_n (by decide)).trans ((zU_n (by decide)).trans ((zS_n (by decide)).trans ((zS_n (by decide)).trans ((zU_n (by decide)).trans ((zU_n (by decide)).trans ((zU_x (by decide)).trans ((zU_x (by decide)).trans (zU_e))))))))))) ((zU_n (by decide)).trans ((zU_n (by decide)).trans ((zU_n (by decide)).trans ((zU_n (by decide)).trans ((zS_n (by decide)).trans ((zS_n (by decide)).trans ((zU_n (by decide)).trans ((zU_n (by decide)).trans ((zU_x (by decide)).trans (zU_e)))))))))) ((zU_n (by decide)).trans ((zU_n (by decide)).trans ((zU_n (by decide)).trans ((zU_n (by decide)).trans ((zS_n (by decide)).trans ((zS_n (by decide)).trans ((zU_n (by decide)).trans ((zU_n (by decide)).trans (zU_e))))))))) ((zU_n (by decide)).trans ((zU_n (by decide)).trans ((zU_n (by decide)).trans ((zU_n (by decide)).trans ((zS_n (by decide)).trans ((zS_n (by decide)).trans (zU_e))))))) ((zU_n (by decide)).trans ((zU_n (by decide)).trans ((zU_n (by decide)).trans ((zU_n (by decide)).trans ((zS_n (by decide)).trans ((zS_n (by decide)).trans ((zU_x (by decide)).trans (zU_e)))))))) ((zU_x (by decide)).trans ((zU_x (by decide)).trans ((zU_x (by decide)).trans (zU_e)))) ((zU_x (by decide)).trans ((zU_x (by decide)).trans (zU_e))) ((zU_x (by decide)).trans (zU_e)) (zU_e) ((zU_n (by decide)).trans ((zU_n (by decide)).trans ((zU_n (by decide)).trans ((zU_n (by decide)).trans ((zS_n (by decide)).trans ((zS_n (by decide)).trans ((zU_n (by decide)).trans ((zU_n (by decide)).trans ((zU_n (by decide)).trans ((zU_n (by decide)).trans ((zU_n (by decide)).trans ((zU_n (by decide)).trans ((zU_n (by decide)).trans ((zU_n (by decide)).trans ((zC_n (by decide)).trans ((zC_n (by decide)).trans (rfl))))))))))))))))) (fun q q1 q2 => (zU_n (by decide)).trans ((zU_n (by decide)).trans ((zU_n (by decide)).trans ((zU_n (by decide)).trans ((zS_n (by decide)).trans ((zS_n (by decide)).trans ((zU_n (by decide)).trans ((zU_n (by decide)).trans ((zU_n (by decide)).trans ((zU_n (by decide)).trans ((zU_n (by decide)).trans ((zU_n (by decide)).trans ((zU_n (by decide)).trans ((zU_n (by decide)).trans ((zC_n (by decide)).trans ((zC_at ⟨q1, by omega⟩).trans (rfl))))))))))))))))) (fun q q1 q2 => (zU_n (by decide)).trans ((zU_n (by decide)).trans ((zU_n (by decide)).trans ((zU_n (by decide)).trans ((zS_n (by decide)).trans ((zS_n (by decide)).trans ((zU_n (by decide)).trans ((zU_n (by decide)).trans ((zU_n (by decide)).trans ((zU_n (by decide)).trans ((zU_n (by decide)).trans ((zU_n (by decide)).trans ((zU_n (by decide)).trans ((zU_n (by decide)).trans ((zC_at ⟨q1, by omega⟩).trans ((zC_n (by decide)).trans (rfl))))))))))))))))) (fun q q1 q2 => (zU_n (by decide)).trans ((zU_n (by decide)).trans ((zU_n (by decide)).trans ((zU_n (by decide)).trans ((zS_n (by decide)).trans (zS_at ⟨q1, q2⟩)))))) (fun q q1 q2 => (zU_n (by decide)).trans ((zU_n (by decide)).trans ((zU_n (by decide)).trans ((zU_n (by decide)).trans (zS_at ⟨q1, q2⟩)))))), RelP_k hk (by repeat' constructor) (fun p => by repeat' constructor) hP, RelC_k hk (by repeat' constructor) (fun p => by repeat' constructor) hC, RelA_k hk (by repeat' constructor) (fun p => by repeat' constructor) hAc, RelS_k hk (zK_r (k := kM)) (fun x j a b => ⟨kL_38 (by decide) (by decide) x j a b, kM_38 x j a b⟩) (fun p => ⟨rfl, rfl, rfl⟩) rfl hS, RelT_k hk (by repeat' constructor) (fun p => by repeat' constructor) hTp, RelX_k hk (by repeat' constructor) (fun p => by repeat' constructor) hX, RelW_k hk ⟨rfl, rfl⟩ trivial hW⟩
