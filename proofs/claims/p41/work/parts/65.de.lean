theorem zC_0 {J : zA} {a b : Nat} : zC J a b 0 0 0 = J := by
  funext x y
  unfold zC
  split
  · rename_i h
    rw [if_neg (by omega), h]
  · rfl
theorem zC_s {J : zA} {a b : Nat} {i : Int} (hi : 0 ≤ i) : zU (zC J a b 0 0 i) b i (J a i) = zC J a b 0 0 (i + 1) := by
  funext x y
  unfold zU zC
  by_cases h : x = b
  · rw [if_pos h, if_pos h, if_pos h]
    by_cases e : y = i
    · rw [if_pos e, if_pos (by omega), e, show (0 : Int) + (i - 0) = i by omega]
    · rw [if_neg e]
      by_cases c : 0 ≤ y ∧ y < 0 + i
      · rw [if_pos c, if_pos (by omega)]
      · rw [if_neg c, if_neg (by omega)]
  · rw [if_neg h, if_neg h, if_neg h]
theorem zU_C {J : zA} {a b c : Nat} {s t m x v : Int} (h1 : c ≠ a) (h2 : c ≠ b) : zU (zC J a b s t m) c x v = zC (zU J c x v) a b s t m := by
  funext y z
  by_cases e : y = b
  · subst e
    rw [zU_n (Ne.symm h2)]
    unfold zC
    rw [if_pos rfl, if_pos rfl]
    split
    · rw [zU_n (Ne.symm h1)]
    · rw [zU_n (Ne.symm h2)]
  · by_cases e2 : y = c
    · subst e2
      rw [zU_i]
      unfold zC
      rw [if_neg e, if_neg e, zU_i]
    · rw [zU_n e2]
      unfold zC
      rw [if_neg e, if_neg e, zU_n e2]
theorem zC_at {J : zA} {a b : Nat} {n y : Int} (h : 0 ≤ y ∧ y < n) : zC J a b 0 0 n b y = J a y := by
  unfold zC
  rw [if_pos rfl, if_pos (by omega), show (0 : Int) + (y - 0) = y by omega]
theorem zC_out {J : zA} {a b : Nat} {n y : Int} (h : ¬ (0 ≤ y ∧ y < n)) : zC J a b 0 0 n b y = J b y := by
  unfold zC
  rw [if_pos rfl, if_neg (by omega)]
theorem image_z {X : Nat × (Nat → Int32)} {d : Nat} {J M : zA} {R : zR} {P : zP} {n : Int} (hR : zRoR R) (hz : J 50 1 = n) (hn : 0 ≤ n ∧ n ≤ 8) : ∀ (j : Nat) (i : Int), i + j = n → 0 ≤ i → zW X d 228 69 [some (.ref 50), some (zi n)] [] (zC (zC J 75 78 0 0 n) 76 79 0 0 n) M R P → zW X d 228 31 [some (.ref 50), some (zi i)] [] (zC (zC J 75 78 0 0 i) 76 79 0 0 i) M R P := by
  intro j
  induction j with
  | zero =>
    intro i hi h0 K
    obtain rfl : i = n := by omega
    refine z_iload rfl rfl ?_
    refine z_aload rfl rfl ?_
    refine z_getI (v := i) rfl rfl (((zC_n (by decide)).trans (zC_n (by decide))).trans hz) ?_
    exact z_icmp_geT rfl (by omega) (by omega) (by omega) K
  | succ j ih =>
    intro i hi h0 K
    refine z_iload1 rfl ?_
    refine z_aload0 rfl ?_
    refine z_getI (v := n) rfl gk_50 (((zC_n (by decide)).trans (zC_n (by decide))).trans hz) ?_
    refine z_icmp_geF rfl (by omega) (by omega) (by omega) ?_
    refine z_aload0 rfl ?_
    refine z_getR (r := 78) rfl gk_50 (hR _ rm_50_51 (by decide)) ?_
    refine z_iload1 rfl ?_
    refine z_aload0 rfl ?_
    refine z_getR (r := 75) rfl gk_50 (hR _ rm_50_42 (by decide)) ?_
    refine z_iload1 rfl ?_
    refine z_iald (v := J 75 i) rfl gk_75 (by decide) (by omega) ((zC_n (by decide)).trans (zC_n (by decide))) ?_
    refine z_iast (e := J 75 i) rfl gk_78 (by decide) (by omega) rfl ?_
    refine z_aload0 rfl ?_
    refine z_getR (r := 79) rfl gk_50 (hR _ rm_50_52 (by decide)) ?_
    refine z_iload1 rfl ?_
    refine z_aload0 rfl ?_
    refine z_getR (r := 76) rfl gk_50 (hR _ rm_50_43 (by decide)) ?_
    refine z_iload1 rfl ?_
    refine z_iald (v := J 76 i) rfl gk_76 (by decide) (by omega) ((zU_n (by decide)).trans ((zC_n (by decide)).trans (zC_n (by decide)))) ?_
    refine z_iast (e := J 76 i) rfl gk_79 (by decide) (by omega) rfl ?_
    refine z_iinc (c := 1) (e := i + 1) (ls1 := [some (.ref 50), some (zi (i + 1))]) rfl rfl rfl rfl rfl ?_
    refine z_goto rfl ?_
    show zW _ _ _ _ [some (.ref 50), some (zi (i + 1))] [] _ _ _ _
    rw [zU_C (by decide) (by decide), zC_s h0, show J 76 i = zC J 75 78 0 0 (i + 1) 76 i from (zC_n (by decide)).symm, zC_s h0]
    exact ih (i + 1) (by omega) (by omega) K
theorem layDeed_z {X : Nat × (Nat → Int32)} {d : Nat} {J M : zA} {R : zR} {P : zP} {n : Int} (hR : zRoR R) (hz : J 50 1 = n) (hn : 0 ≤ n ∧ n ≤ 8) : ∀ (j : Nat) (i : Int), i + j = n → 0 ≤ i → zW X d 222 40 [some (.ref 50), some (zi n)] [] (zC (zC J 75 69 0 0 n) 76 70 0 0 n) M R P → zW X d 222 2 [some (.ref 50), some (zi i)] [] (zC (zC J 75 69 0 0 i) 76 70 0 0 i) M R P := by
  intro j
  induction j with
  | zero =>
    intro i hi h0 K
    obtain rfl : i = n := by omega
    refine z_iload rfl rfl ?_
    refine z_aload rfl rfl ?_
    refine z_getI (v := i) rfl rfl (((zC_n (by decide)).trans (zC_n (by decide))).trans hz) ?_
    exact z_icmp_geT rfl (by omega) (by omega) (by omega) K
  | succ j ih =>
    intro i hi h0 K
    refine z_iload1 rfl ?_
    refine z_aload0 rfl ?_
    refine z_getI (v := n) rfl gk_50 (((zC_n (by decide)).trans (zC_n (by decide))).trans hz) ?_
    refine z_icmp_geF rfl (by omega) (by omega) (by omega) ?_
    refine z_aload0 rfl ?_
    refine z_getR (r := 69) rfl gk_50 (hR _ rm_50_28 (by decide)) ?_
    refine z_iload1 rfl ?_
    refine z_aload0 rfl ?_
    refine z_getR (r := 75) rfl gk_50 (hR _ rm_50_42 (by decide)) ?_
    refine z_iload1 rfl ?_
    refine z_iald (v := J 75 i) rfl gk_75 (by decide) (by omega) ((zC_n (by decide)).trans (zC_n (by decide))) ?_
    refine z_iast (e := J 75 i) rfl gk_69 (by decide) (by omega) rfl ?_
    refine z_aload0 rfl ?_
    refine z_getR (r := 70) rfl gk_50 (hR _ rm_50_29 (by decide)) ?_
    refine z_iload1 rfl ?_
    refine z_aload0 rfl ?_
    refine z_getR (r := 76) rfl gk_50 (hR _ rm_50_43 (by decide)) ?_
    refine z_iload1 rfl ?_
    refine z_iald (v := J 76 i) rfl gk_76 (by decide) (by omega) ((zU_n (by decide)).trans ((zC_n (by decide)).trans (zC_n (by decide)))) ?_
    refine z_iast (e := J 76 i) rfl gk_70 (by decide) (by omega) rfl ?_
    refine z_iinc (c := 1) (e := i + 1) (ls1 := [some (.ref 50), some (zi (i + 1))]) rfl rfl rfl rfl rfl ?_
    refine z_goto rfl ?_
    show zW _ _ _ _ [some (.ref 50), some (zi (i + 1))] [] _ _ _ _
    rw [zU_C (by decide) (by decide), zC_s h0, show J 76 i = zC J 75 69 0 0 (i + 1) 76 i from (zC_n (by decide)).symm, zC_s h0]
    exact ih (i + 1) (by omega) (by omega) K
theorem RelP_img {J J2 : zA} (hD : RelD J) (hY : RelY J) (e0 : J2 0 8 = 1) (e1 : J2 50 47 = 1) (f3 : J2 26 3 = J 23 3) (f4 : J2 26 4 = J 23 4) (f5 : J2 26 5 = J 23 5) (f6 : J2 26 6 = J 23 6) (f7 : J2 26 7 = J 23 7) (f8 : J2 26 8 = J 23 8) (g0 : J2 50 50 = J 50 45) (g1 : J2 50 49 = J 50 44) (g2 : J2 50 48 = J 50 1) (k0 : J2 80 0 = J 77 0) (k1 : J2 80 1 = J 77 1) (k2 : J2 80 2 = J 77 2) (k3 : J2 80 3 = J 77 3) (hn : J2 8 2 = J 8 2) (a27 : ∀ p, 0 ≤ p → p < 8 → J2 27 p = J 24 p) (a28 : ∀ p, 0 ≤ p → p < 8 → J2 28 p = J 25 p) (a78 : ∀ p, 0 ≤ p → p < J 50 1 → J2 78 p = J 75 p) (a79 : ∀ p, 0 ≤ p → p < J 50 1 → J2 79 p = J 76 p) : RelP J2 := by
  obtain ⟨⟨d1, d2, d3, d4, d5, d6⟩, d7, d8, d9, d10, d11⟩ := hD
  have yn := zNn hY.2.2
  have y2 := hY.2.1
  refine ⟨by rw [e0, e1], Or.inr e0, fun _ => ⟨⟨?_, ?_, ?_, ?_, ?_, ?_⟩, ?_, ?_, ?_, fun p p1 p2 => ?_, fun p p1 p2 => ?_, fun p p1 p2 => ?_⟩⟩
  · rw [f3, g0, d1]
  · rw [f4, g1, d2]
  · rw [f5, k0, d3]
  · rw [f6, k1, d4]
  · rw [f7, k2, d5]
  · rw [f8, k3, d6]
  · rw [f3]; exact d7
  · rw [f4, hn]; exact d8
  · rw [g2, hn]; omega
  · rw [g2] at p2
    rw [a27 p p1 (by omega), a28 p p1 (by omega), a78 p p1 p2, a79 p p1 p2]
    exact d9 p p1 (by omega)
  · rw [g2] at p1
    rw [a27 p (by omega) p2, a28 p (by omega) p2]
    exact d10 p (by omega) p2
  · rw [a27 p p1 p2, a28 p p1 p2, f3]
    exact d11 p p1 p2
theorem zC_01 {X : Nat × (Nat → Int32)} {d k pc : Nat} {ls : List (Option Value)} {st : List Value} {J M : zA} {R : zR} {P : zP} {a b a2 b2 : Nat} (h : zW X d k pc ls st (zC (zC J a b 0 0 0) a2 b2 0 0 0) M R P) : zW X d k pc ls st J M R P := by
  rw [zC_0, zC_0] at h
  exact h
theorem st_image {X : Nat × (Nat → Int32)} {d : Nat} {J M : zA} {R : zR} (hr : Rel X J M R)   : zW X (d + 20) 129 0 (gEn 129 [(.ref 0)]) [] J M R (stP X (d + 20) 228 []) := by
  have hr0 := hr
  obtain ⟨hR, hG, hY, hD, hP, hC, hAc, hS, hTp, hX, hW⟩ := hr0
  have hRr : zRoR R := zRoR_of hR
  have hY0 := hY
  obtain ⟨y1, y2, y3⟩ := hY0
  have yn := zNn y3
  have hD0 := hD
  obtain ⟨⟨d1, d2, d3, d4, d5, d6⟩, d7, d8, d9, d10, d11⟩ := hD0
  show zW _ _ _ _ [some (.ref 0)] _ _ _ _ _
  refine z_aload0 rfl ?_
  refine z_getR (r := 26) rfl gk_0 (hR _ rm_0_7) ?_
  refine z_aload0 rfl ?_
  refine z_getR (r := 23) rfl gk_0 (hR _ rm_0_6) ?_
  refine z_cV1 rfl gk_26 go_23 (Nat.le_of_ble_eq_true rfl) gc_23_RR ?_
  refine z_aload1 gi_23_0 ?_
  refine z_getR (r := 24) gi_23_1 gk_23 (hR _ rm_23_1) ?_
  refine z_pushJ gp_23_4 ?_
  refine z_aload0 gi_23_5 ?_
  refine z_getR (r := 27) gi_23_6 gk_26 (hR _ rm_26_1) ?_
  refine z_pushJ gp_23_9 ?_
  refine z_pushJ gp_23_10 ?_
  refine z_copyI gi_23_12 gk_24 gk_27 (by decide) (by decide) (by decide) (by decide) (by decide) (by decide) (by decide) (by decide) ?_
  refine z_aload1 gi_23_15 ?_
  refine z_getR (r := 25) gi_23_16 gk_23 (hR _ rm_23_2) ?_
  refine z_pushJ gp_23_19 ?_
  refine z_aload0 gi_23_20 ?_
  refine z_getR (r := 28) gi_23_21 gk_26 (hR _ rm_26_2) ?_
  refine z_pushJ gp_23_24 ?_
  refine z_pushJ gp_23_25 ?_
  refine z_copyI gi_23_27 gk_25 gk_28 (by decide) (by decide) (by decide) (by decide) (by decide) (by decide) (by decide) (by decide) ?_
  refine z_aload0 gi_23_30 ?_
  refine z_aload1 gi_23_31 ?_
  refine z_getI (v := J 23 3) gi_23_32 gk_23 ((zC_n (by decide)).trans ((zC_n (by decide)).trans (rfl))) ?_
  refine z_putI (y := 3) gi_23_35 rfl gk_26 ?_
  refine z_aload0 gi_23_38 ?_
  refine z_aload1 gi_23_39 ?_
  refine z_getI (v := J 23 4) gi_23_40 gk_23 ((zU_n (by decide)).trans ((zC_n (by decide)).trans ((zC_n (by decide)).trans (rfl)))) ?_
  refine z_putI (y := 4) gi_23_43 rfl gk_26 ?_
  refine z_aload0 gi_23_46 ?_
  refine z_aload1 gi_23_47 ?_
  refine z_getI (v := J 23 5) gi_23_48 gk_23 ((zU_n (by decide)).trans ((zU_n (by decide)).trans ((zC_n (by decide)).trans ((zC_n (by decide)).trans (rfl))))) ?_
  refine z_putI (y := 5) gi_23_51 rfl gk_26 ?_
  refine z_aload0 gi_23_54 ?_
  refine z_aload1 gi_23_55 ?_
  refine z_getI (v := J 23 6) gi_23_56 gk_23 ((zU_n (by decide)).trans ((zU_n (by decide)).trans ((zU_n (by decide)).trans ((zC_n (by decide)).trans ((zC_n (by decide)).trans (rfl)))))) ?_
  refine z_putI (y := 6) gi_23_59 rfl gk_26 ?_
  refine z_aload0 gi_23_62 ?_
  refine z_aload1 gi_23_63 ?_
  refine z_getI (v := J 23 7) gi_23_64 gk_23 ((zU_n (by decide)).trans ((zU_n (by decide)).trans ((zU_n (by decide)).trans ((zU_n (by decide)).trans ((zC_n (by decide)).trans ((zC_n (by decide)).trans (rfl))))))) ?_
  refine z_putI (y := 7) gi_23_67 rfl gk_26 ?_
  refine z_aload0 gi_23_70 ?_
  refine z_aload1 gi_23_71 ?_
  refine z_getI (v := J 23 8) gi_23_72 gk_23 ((zU_n (by decide)).trans ((zU_n (by decide)).trans ((zU_n (by decide)).trans ((zU_n (by decide)).trans ((zU_n (by decide)).trans ((zC_n (by decide)).trans ((zC_n (by decide)).trans (rfl)))))))) ?_
  refine z_putI (y := 8) gi_23_75 rfl gk_26 ?_
  refine z_vret gi_23_78 gr_23 ?_
  show zW _ _ _ _ _ _ _ _ _ _
  refine z_aload0 rfl ?_
  refine z_pushJ gp_129_12 ?_
  refine z_putZ (y := 8) rfl rfl gk_0 (by decide) ?_
  refine z_aload0 rfl ?_
  refine z_getR (r := 23) rfl gk_0 (hR _ rm_0_6) ?_
  refine z_getI (v := J 23 3) rfl gk_23 ((zU_n (by decide)).trans ((zU_n (by decide)).trans ((zU_n (by decide)).trans ((zU_n (by decide)).trans ((zU_n (by decide)).trans ((zU_n (by decide)).trans ((zU_n (by decide)).trans ((zC_n (by decide)).trans ((zC_n (by decide)).trans (rfl)))))))))) ?_
  refine z_iret rfl gr_129 ?_
  refine ⟨_, rfl, ?_⟩
  show zW _ _ _ _ [some (.ref 50), none] _ _ _ _ _
  refine z_aload0 rfl ?_
  refine z_pushJ gp_228_1 ?_
  refine z_putZ (y := 47) rfl rfl gk_50 (by decide) ?_
  refine z_aload0 rfl ?_
  refine z_aload0 rfl ?_
  refine z_getI (v := J 8 2) rfl gk_50 ((zU_x (by decide)).trans ((zU_n (by decide)).trans ((zU_n (by decide)).trans ((zU_n (by decide)).trans ((zU_n (by decide)).trans ((zU_n (by decide)).trans ((zU_n (by decide)).trans ((zU_n (by decide)).trans ((zC_n (by decide)).trans ((zC_n (by decide)).trans (y2.symm))))))))))) ?_
  refine z_putI (y := 48) rfl rfl gk_50 ?_
  refine z_aload0 rfl ?_
  refine z_aload0 rfl ?_
  refine z_getI (v := J 50 44) rfl gk_50 ((zU_x (by decide)).trans ((zU_x (by decide)).trans ((zU_n (by decide)).trans ((zU_n (by decide)).trans ((zU_n (by decide)).trans ((zU_n (by decide)).trans ((zU_n (by decide)).trans ((zU_n (by decide)).trans ((zU_n (by decide)).trans ((zC_n (by decide)).trans ((zC_n (by decide)).trans (rfl)))))))))))) ?_
  refine z_putI (y := 49) rfl rfl gk_50 ?_
  refine z_aload0 rfl ?_
  refine z_aload0 rfl ?_
  refine z_getI (v := J 50 45) rfl gk_50 ((zU_x (by decide)).trans ((zU_x (by decide)).trans ((zU_x (by decide)).trans ((zU_n (by decide)).trans ((zU_n (by decide)).trans ((zU_n (by decide)).trans ((zU_n (by decide)).trans ((zU_n (by decide)).trans ((zU_n (by decide)).trans ((zU_n (by decide)).trans ((zC_n (by decide)).trans ((zC_n (by decide)).trans (rfl))))))))))))) ?_
  refine z_putI (y := 50) rfl rfl gk_50 ?_
  refine z_pushJ gp_228_29 ?_
  refine z_istore (ls1 := [some (.ref 50), some (zi 0)]) rfl rfl ?_
  show zW _ _ _ _ [some (.ref 50), some (zi 0)] [] _ _ _ _
  refine zC_01 (a := 75) (b := 78) (a2 := 76) (b2 := 79) ?_
  refine image_z hRr (n := J 8 2) (by exact y2.symm) yn (J 8 2).toNat 0 (by omega) (by decide) ?_
  refine z_pushJ gp_228_69 ?_
  refine z_istore (ls1 := [some (.ref 50), some (zi 0)]) rfl rfl ?_
  refine z_iload1 gi_228_71 ?_
  refine z_pushJ gp_228_72 ?_
  refine z_icmp_geF gi_228_73 zr_0 zr_4 (by decide) ?_
  refine z_aload0 gi_228_76 ?_
  refine z_getR (r := 80) gi_228_77 gk_50 (hRr _ rm_50_53 (by decide)) ?_
  refine z_iload1 gi_228_80 ?_
  refine z_aload0 gi_228_81 ?_
  refine z_getR (r := 77) gi_228_82 gk_50 (hRr _ rm_50_46 (by decide)) ?_
  refine z_iload1 gi_228_85 ?_
  refine z_iald (v := J 77 0) gi_228_86 gk_77 (by decide) (by decide) ((zC_n (by decide)).trans ((zC_n (by decide)).trans ((zU_n (by decide)).trans ((zU_n (by decide)).trans ((zU_n (by decide)).trans ((zU_n (by decide)).trans ((zU_n (by decide)).trans ((zU_n (by decide)).trans ((zU_n (by decide)).trans ((zU_n (by decide)).trans ((zU_n (by decide)).trans ((zU_n (by decide)).trans ((zU_n (by decide)).trans ((zC_n (by decide)).trans ((zC_n (by decide)).trans (rfl)))))))))))))))) ?_
  refine z_iast (e := J 77 0) gi_228_87 gk_80 (by decide) (by decide) rfl ?_
  refine z_iinc (c := 1) (e := 1) (ls1 := [some (.ref 50), some (zi 1)]) gi_228_88 rfl rfl rfl rfl ?_
  refine z_goto gi_228_91 ?_
  show zW _ _ _ _ [some (.ref 50), some (zi 1)] [] _ _ _ _
  refine z_iload1 gi_228_71 ?_
  refine z_pushJ gp_228_72 ?_
  refine z_icmp_geF gi_228_73 zr_1 zr_4 (by decide) ?_
  refine z_aload0 gi_228_76 ?_
  refine z_getR (r := 80) gi_228_77 gk_50 (hRr _ rm_50_53 (by decide)) ?_
  refine z_iload1 gi_228_80 ?_
  refine z_aload0 gi_228_81 ?_
  refine z_getR (r := 77) gi_228_82 gk_50 (hRr _ rm_50_46 (by decide)) ?_
  refine z_iload1 gi_228_85 ?_
  refine z_iald (v := J 77 1) gi_228_86 gk_77 (by decide) (by decide) ((zU_n (by decide)).trans ((zC_n (by decide)).trans ((zC_n (by decide)).trans ((zU_n (by decide)).trans ((zU_n (by decide)).trans ((zU_n (by decide)).trans ((zU_n (by decide)).trans ((zU_n (by decide)).trans ((zU_n (by decide)).trans ((zU_n (by decide)).trans ((zU_n (by decide)).trans ((zU_n (by decide)).trans ((zU_n (by decide)).trans ((zU_n (by decide)).trans ((zC_n (by decide)).trans ((zC_n (by decide)).trans (rfl))))))))))))))))) ?_
  refine z_iast (e := J 77 1) gi_228_87 gk_80 (by decide) (by decide) rfl ?_
  refine z_iinc (c := 1) (e := 2) (ls1 := [some (.ref 50), some (zi 2)]) gi_228_88 rfl rfl rfl rfl ?_
  refine z_goto gi_228_91 ?_
  show zW _ _ _ _ [some (.ref 50), some (zi 2)] [] _ _ _ _
  refine z_iload1 gi_228_71 ?_
  refine z_pushJ gp_228_72 ?_
  refine z_icmp_geF gi_228_73 zr_2 zr_4 (by decide) ?_
  refine z_aload0 gi_228_76 ?_
  refine z_getR (r := 80) gi_228_77 gk_50 (hRr _ rm_50_53 (by decide)) ?_
  refine z_iload1 gi_228_80 ?_
  refine z_aload0 gi_228_81 ?_
  refine z_getR (r := 77) gi_228_82 gk_50 (hRr _ rm_50_46 (by decide)) ?_
  refine z_iload1 gi_228_85 ?_
  refine z_iald (v := J 77 2) gi_228_86 gk_77 (by decide) (by decide) ((zU_n (by decide)).trans ((zU_n (by decide)).trans ((zC_n (by decide)).trans ((zC_n (by decide)).trans ((zU_n (by decide)).trans ((zU_n (by decide)).trans ((zU_n (by decide)).trans ((zU_n (by decide)).trans ((zU_n (by decide)).trans ((zU_n (by decide)).trans ((zU_n (by decide)).trans ((zU_n (by decide)).trans ((zU_n (by decide)).trans ((zU_n (by decide)).trans ((zU_n (by decide)).trans ((zC_n (by decide)).trans ((zC_n (by decide)).trans (rfl)))))))))))))))))) ?_
  refine z_iast (e := J 77 2) gi_228_87 gk_80 (by decide) (by decide) rfl ?_
  refine z_iinc (c := 1) (e := 3) (ls1 := [some (.ref 50), some (zi 3)]) gi_228_88 rfl rfl rfl rfl ?_
  refine z_goto gi_228_91 ?_
  show zW _ _ _ _ [some (.ref 50), some (zi 3)] [] _ _ _ _
  refine z_iload1 gi_228_71 ?_
  refine z_pushJ gp_228_72 ?_
  refine z_icmp_geF gi_228_73 zr_3 zr_4 (by decide) ?_
  refine z_aload0 gi_228_76 ?_
  refine z_getR (r := 80) gi_228_77 gk_50 (hRr _ rm_50_53 (by decide)) ?_
  refine z_iload1 gi_228_80 ?_
  refine z_aload0 gi_228_81 ?_
  refine z_getR (r := 77) gi_228_82 gk_50 (hRr _ rm_50_46 (by decide)) ?_
  refine z_iload1 gi_228_85 ?_
  refine z_iald (v := J 77 3) gi_228_86 gk_77 (by decide) (by decide) ((zU_n (by decide)).trans ((zU_n (by decide)).trans ((zU_n (by decide)).trans ((zC_n (by decide)).trans ((zC_n (by decide)).trans ((zU_n (by decide)).trans ((zU_n (by decide)).trans ((zU_n (by decide)).trans ((zU_n (by decide)).trans ((zU_n (by decide)).trans ((zU_n (by decide)).trans ((zU_n (by decide)).trans ((zU_n (by decide)).trans ((zU_n (by decide)).trans ((zU_n (by decide)).trans ((zU_n (by decide)).trans ((zC_n (by decide)).trans ((zC_n (by decide)).trans (rfl))))))))))))))))))) ?_
  refine z_iast (e := J 77 3) gi_228_87 gk_80 (by decide) (by decide) rfl ?_
  refine z_iinc (c := 1) (e := 4) (ls1 := [some (.ref 50), some (zi 4)]) gi_228_88 rfl rfl rfl rfl ?_
  refine z_goto gi_228_91 ?_
  show zW _ _ _ _ [some (.ref 50), some (zi 4)] [] _ _ _ _
  refine z_iload1 gi_228_71 ?_
  refine z_pushJ gp_228_72 ?_
  refine z_icmp_geT gi_228_73 zr_4 zr_4 (by decide) ?_
  refine z_aload0 rfl ?_
  refine z_getI (v := J 50 45) rfl gk_50 ((zU_n (by decide)).trans ((zU_n (by decide)).trans ((zU_n (by decide)).trans ((zU_n (by decide)).trans ((zC_n (by decide)).trans ((zC_n (by decide)).trans ((zU_x (by decide)).trans ((zU_x (by decide)).trans ((zU_x (by decide)).trans ((zU_x (by decide)).trans ((zU_n (by decide)).trans ((zU_n (by decide)).trans ((zU_n (by decide)).trans ((zU_n (by decide)).trans ((zU_n (by decide)).trans ((zU_n (by decide)).trans ((zU_n (by decide)).trans ((zC_n (by decide)).trans ((zC_n (by decide)).trans (rfl)))))))))))))))))))) ?_
  refine z_iret rfl gr_228 ?_
  refine ⟨?_, ?_⟩
  · first | rfl | exact congrArg (fun v => some (zi v)) (by omega) | (exfalso; omega)
  · have hk := (zK_x (a := 80) (x := 3) (v := J 77 3) (zK_x (a := 80) (x := 2) (v := J 77 2) (zK_x (a := 80) (x := 1) (v := J 77 1) (zK_x (a := 80) (x := 0) (v := J 77 0) (zK_c (a := 76) (b := 79) (sp := 0) (dp := 0) (n := (J 8 2)) (zK_c (a := 75) (b := 78) (sp := 0) (dp := 0) (n := (J 8 2)) (zK_x (a := 50) (x := 50) (v := J 50 45) (zK_x (a := 50) (x := 49) (v := J 50 44) (zK_x (a := 50) (x := 48) (v := J 8 2) (zK_x (a := 50) (x := 47) (v := 1) (zK_x (a := 0) (x := 8) (v := 1) (zK_x (a := 26) (x := 8) (v := J 23 8) (zK_x (a := 26) (x := 7) (v := J 23 7) (zK_x (a := 26) (x := 6) (v := J 23 6) (zK_x (a := 26) (x := 5) (v := J 23 5) (zK_x (a := 26) (x := 4) (v := J 23 4) (zK_x (a := 26) (x := 3) (v := J 23 3) (zK_c (a := 25) (b := 28) (sp := 0) (dp := 0) (n := 8) (zK_c (a := 24) (b := 27) (sp := 0) (dp := 0) (n := 8) (zK_r (k := (kL [27, 28, 78, 79] [(26, 3), (26, 4), (26, 5), (26, 6), (26, 7), (26, 8), (0, 8), (50, 47), (50, 48), (50, 49), (50, 50), (80, 0), (80, 1), (80, 2), (80, 3)])) (A := J)) (fun _ => rfl)) (fun _ => rfl)) rfl) rfl) rfl) rfl) rfl) rfl) rfl) rfl) rfl) rfl) rfl) (fun _ => rfl)) (fun _ => rfl)) rfl) rfl) rfl) rfl)
    exact ⟨hR, hG, RelY_k hk (by repeat' constructor) (fun p => by repeat' constructor) hY, RelD_k hk (by repeat' constructor) (fun p => by repeat' constructor) hD, (RelP_img hD hY ((zU_n (by decide)).trans ((zU_n (by decide)).trans ((zU_n (by decide)).trans ((zU_n (by decide)).trans ((zC_n (by decide)).trans ((zC_n (by decide)).trans ((zU_n (by decide)).trans ((zU_n (by decide)).trans ((zU_n (by decide)).trans ((zU_n (by decide)).trans (zU_e))))))))))) ((zU_n (by decide)).trans ((zU_n (by decide)).trans ((zU_n (by decide)).trans ((zU_n (by decide)).trans ((zC_n (by decide)).trans ((zC_n (by decide)).trans ((zU_x (by decide)).trans ((zU_x (by decide)).trans ((zU_x (by decide)).trans (zU_e)))))))))) ((zU_n (by decide)).trans ((zU_n (by decide)).trans ((zU_n (by decide)).trans ((zU_n (by decide)).trans ((zC_n (by decide)).trans ((zC_n (by decide)).trans ((zU_n (by decide)).trans ((zU_n (by decide)).trans ((zU_n (by decide)).trans ((zU_n (by decide)).trans ((zU_n (by decide)).trans ((zU_x (by decide)).trans ((zU_x (by decide)).trans ((zU_x (by decide)).trans ((zU_x (by decide)).trans ((zU_x (by decide)).trans (zU_e))))))))))))))))) ((zU_n (by decide)).trans ((zU_n (by decide)).trans ((zU_n (by decide)).trans ((zU_n (by decide)).trans ((zC_n (by decide)).trans ((zC_n (by decide)).trans ((zU_n (by decide)).trans ((zU_n (by decide)).trans ((zU_n (by decide)).trans ((zU_n (by decide)).trans ((zU_n (by decide)).trans ((zU_x (by decide)).trans ((zU_x (by decide)).trans ((zU_x (by decide)).trans ((zU_x (by decide)).trans (zU_e)))))))))))))))) ((zU_n (by decide)).trans ((zU_n (by decide)).trans ((zU_n (by decide)).trans ((zU_n (by decide)).trans ((zC_n (by decide)).trans ((zC_n (by decide)).trans ((zU_n (by decide)).trans ((zU_n (by decide)).trans ((zU_n (by decide)).trans ((zU_n (by decide)).trans ((zU_n (by decide)).trans ((zU_x (by decide)).trans ((zU_x (by decide)).trans ((zU_x (by decide)).trans (zU_e))))))))))))))) ((zU_n (by decide)).trans ((zU_n (by decide)).trans ((zU_n (by decide)).trans ((zU_n (by decide)).trans ((zC_n (by decide)).trans ((zC_n (by decide)).trans ((zU_n (by decide)).trans ((zU_n (by decide)).trans ((zU_n (by decide)).trans ((zU_n (by decide)).trans ((zU_n (by decide)).trans ((zU_x (by decide)).trans ((zU_x (by decide)).trans (zU_e)))))))))))))) ((zU_n (by decide)).trans ((zU_n (by decide)).trans ((zU_n (by decide)).trans ((zU_n (by decide)).trans ((zC_n (by decide)).trans ((zC_n (by decide)).trans ((zU_n (by decide)).trans ((zU_n (by decide)).trans ((zU_n (by decide)).trans ((zU_n (by decide)).trans ((zU_n (by decide)).trans ((zU_x (by decide)).trans (zU_e))))))))))))) ((zU_n (by decide)).trans ((zU_n (by decide)).trans ((zU_n (by decide)).trans ((zU_n (by decide)).trans ((zC_n (by decide)).trans ((zC_n (by decide)).trans ((zU_n (by decide)).trans ((zU_n (by decide)).trans ((zU_n (by decide)).trans ((zU_n (by decide)).trans ((zU_n (by decide)).trans (zU_e)))))))))))) ((zU_n (by decide)).trans ((zU_n (by decide)).trans ((zU_n (by decide)).trans ((zU_n (by decide)).trans ((zC_n (by decide)).trans ((zC_n (by decide)).trans (zU_e))))))) ((zU_n (by decide)).trans ((zU_n (by decide)).trans ((zU_n (by decide)).trans ((zU_n (by decide)).trans ((zC_n (by decide)).trans ((zC_n (by decide)).trans ((zU_x (by decide)).trans (zU_e)))))))) (((zU_n (by decide)).trans ((zU_n (by decide)).trans ((zU_n (by decide)).trans ((zU_n (by decide)).trans ((zC_n (by decide)).trans ((zC_n (by decide)).trans ((zU_x (by decide)).trans ((zU_x (by decide)).trans (zU_e))))))))).trans y2) ((zU_x (by decide)).trans ((zU_x (by decide)).trans ((zU_x (by decide)).trans (zU_e)))) ((zU_x (by decide)).trans ((zU_x (by decide)).trans (zU_e))) ((zU_x (by decide)).trans (zU_e)) (zU_e) ((zU_n (by decide)).trans ((zU_n (by decide)).trans ((zU_n (by decide)).trans ((zU_n (by decide)).trans ((zC_n (by decide)).trans ((zC_n (by decide)).trans ((zU_n (by decide)).trans ((zU_n (by decide)).trans ((zU_n (by decide)).trans ((zU_n (by decide)).trans ((zU_n (by decide)).trans ((zU_n (by decide)).trans ((zU_n (by decide)).trans ((zU_n (by decide)).trans ((zU_n (by decide)).trans ((zU_n (by decide)).trans ((zU_n (by decide)).trans ((zC_n (by decide)).trans ((zC_n (by decide)).trans (rfl)))))))))))))))))))) (fun p p1 p2 => (zU_n (by decide)).trans ((zU_n (by decide)).trans ((zU_n (by decide)).trans ((zU_n (by decide)).trans ((zC_n (by decide)).trans ((zC_n (by decide)).trans ((zU_n (by decide)).trans ((zU_n (by decide)).trans ((zU_n (by decide)).trans ((zU_n (by decide)).trans ((zU_n (by decide)).trans ((zU_n (by decide)).trans ((zU_n (by decide)).trans ((zU_n (by decide)).trans ((zU_n (by decide)).trans ((zU_n (by decide)).trans ((zU_n (by decide)).trans ((zC_n (by decide)).trans ((zC_at ⟨p1, by omega⟩).trans (rfl)))))))))))))))))))) (fun p p1 p2 => (zU_n (by decide)).trans ((zU_n (by decide)).trans ((zU_n (by decide)).trans ((zU_n (by decide)).trans ((zC_n (by decide)).trans ((zC_n (by decide)).trans ((zU_n (by decide)).trans ((zU_n (by decide)).trans ((zU_n (by decide)).trans ((zU_n (by decide)).trans ((zU_n (by decide)).trans ((zU_n (by decide)).trans ((zU_n (by decide)).trans ((zU_n (by decide)).trans ((zU_n (by decide)).trans ((zU_n (by decide)).trans ((zU_n (by decide)).trans ((zC_at ⟨p1, by omega⟩).trans ((zC_n (by decide)).trans (rfl)))))))))))))))))))) (fun p p1 p2 => (zU_n (by decide)).trans ((zU_n (by decide)).trans ((zU_n (by decide)).trans ((zU_n (by decide)).trans ((zC_n (by decide)).trans ((zC_at ⟨p1, by omega⟩).trans ((zU_n (by decide)).trans ((zU_n (by decide)).trans ((zU_n (by decide)).trans ((zU_n (by decide)).trans ((zU_n (by decide)).trans ((zU_n (by decide)).trans ((zU_n (by decide)).trans ((zU_n (by decide)).trans ((zU_n (by decide)).trans ((zU_n (by decide)).trans ((zU_n (by decide)).trans ((zC_n (by decide)).trans ((zC_n (by decide)).trans (rfl)))))))))))))))))))) (fun p p1 p2 => (zU_n (by decide)).trans ((zU_n (by decide)).trans ((zU_n (by decide)).trans ((zU_n (by decide)).trans ((zC_at ⟨p1, by omega⟩).trans ((zC_n (by decide)).trans ((zU_n (by decide)).trans ((zU_n (by decide)).trans ((zU_n (by decide)).trans ((zU_n (by decide)).trans ((zU_n (by decide)).trans ((zU_n (by decide)).trans ((zU_n (by decide)).trans ((zU_n (by decide)).trans ((zU_n (by decide)).trans ((zU_n (by decide)).trans ((zU_n (by decide)).trans ((zC_n (by decide)).trans ((zC_n (by decide)).trans (rfl))))))))))))))))))))), RelC_k hk (by repeat' constructor) (fun p => by repeat' constructor) hC, RelA_k hk (by repeat' constructor) (fun p => by repeat' constructor) hAc, RelS_k hk (zK_r (k := kM)) (fun x j a b => ⟨kL_38 (by decide) (by decide) x j a b, kM_38 x j a b⟩) (fun p => ⟨rfl, rfl, rfl⟩) rfl hS, RelT_k hk (by repeat' constructor) (fun p => by repeat' constructor) hTp, RelX_k hk (by repeat' constructor) (fun p => by repeat' constructor) hX, RelW_k hk ⟨rfl, rfl⟩ trivial hW⟩
