theorem zC_out2 {J : zA} {a : Nat} {sp n y : Int} (h : n ≤ y) : zC J a a sp 0 n a y = J a y := by
  unfold zC
  rw [if_pos rfl, if_neg (by omega)]
theorem zC_in2 {J : zA} {a : Nat} {sp n y : Int} (h : 0 ≤ y ∧ y < n) : zC J a a sp 0 n a y = J a (sp + y) := by
  unfold zC
  rw [if_pos rfl, if_pos (by omega), show sp + (y - 0) = sp + y by omega]
theorem cpy1 {X : Nat × (Nat → Int32)} {M : zA} {R : zR} {D : Nat} {J : zA} {P : zP} {n : Int} (hR : zRoR R) (hn : J 50 19 = n) (hn0 : 0 ≤ n ∧ n ≤ 121) (ha : ∀ j, 130 ≤ j ∧ j < 130 + n → 0 ≤ J 62 j ∧ J 62 j ≤ 127) : ∀ (j : Nat) (i : Int), i + j = n → 0 ≤ i → zW X D 178 163 [some (.ref 50), some (zi 0), some (zi n)] [] (zC (zC J 62 62 130 0 n) 63 63 130 0 n) M R P → zW X D 178 105 [some (.ref 50), some (zi 0), some (zi i)] [] (zC (zC J 62 62 130 0 i) 63 63 130 0 i) M R P := by
  intro j
  induction j with
  | zero =>
    intro i hi h0 K
    obtain rfl : i = n := by omega
    refine z_iload rfl rfl ?_
    refine z_aload rfl rfl ?_
    refine z_getI (v := i) rfl rfl (((zC_n (by decide)).trans (zC_n (by decide))).trans hn) ?_
    exact z_icmp_geT rfl (by omega) (by omega) (by omega) K
  | succ j ih =>
    intro i hi h0 K
    refine z_iload2 rfl ?_
    refine z_aload0 rfl ?_
    refine z_getI (v := n) rfl gk_50 (((zC_n (by decide)).trans (zC_n (by decide))).trans hn) ?_
    refine z_icmp_geF rfl (by omega) (by omega) (by omega) ?_
    refine z_aload0 rfl ?_
    refine z_getR (r := 62) rfl gk_50 (hR _ rm_50_20 (by decide)) ?_
    refine z_pushJ gp_178_117 ?_
    refine z_iload1 rfl ?_
    refine z_imul (e := 0) rfl rfl ?_
    refine z_iload2 rfl ?_
    refine z_iadd (e := 0 + i) rfl rfl ?_
    refine z_aload0 rfl ?_
    refine z_getR (r := 62) rfl gk_50 (hR _ rm_50_20 (by decide)) ?_
    refine z_pushJ gp_178_128 ?_
    refine z_iload2 rfl ?_
    refine z_iadd (e := 130 + i) rfl rfl ?_
    refine z_bald (v := J 62 (130 + i)) rfl gk_62 (by decide) (by omega) ((zC_n (by decide)).trans (zC_out2 (by omega))) ?_
    refine z_bast (e := zb (J 62 (130 + i))) rfl gk_62 (by decide) (by omega) rfl ?_
    refine z_aload0 rfl ?_
    refine z_getR (r := 63) rfl gk_50 (hR _ rm_50_21 (by decide)) ?_
    refine z_pushJ gp_178_139 ?_
    refine z_iload1 rfl ?_
    refine z_imul (e := 0) rfl rfl ?_
    refine z_iload2 rfl ?_
    refine z_iadd (e := 0 + i) rfl rfl ?_
    refine z_aload0 rfl ?_
    refine z_getR (r := 63) rfl gk_50 (hR _ rm_50_21 (by decide)) ?_
    refine z_pushJ gp_178_150 ?_
    refine z_iload2 rfl ?_
    refine z_iadd (e := 130 + i) rfl rfl ?_
    refine z_iald (v := J 63 (130 + i)) rfl gk_63 (by decide) (by omega) ((zU_n (by decide)).trans ((zC_out2 (by omega)).trans (zC_n (by decide)))) ?_
    refine z_iast (e := J 63 (130 + i)) rfl gk_63 (by decide) (by omega) rfl ?_
    refine z_iinc (c := 1) (e := i + 1) (ls1 := [some (.ref 50), some (zi 0), some (zi (i + 1))]) rfl rfl rfl rfl rfl ?_
    refine z_goto rfl ?_
    show zW _ _ _ _ [some (.ref 50), some (zi 0), some (zi (i + 1))] [] _ _ _ _
    have qa := ha (130 + i) (by omega)
    rw [zb_id (x := J 62 (130 + i)) (by omega), show (0 : Int) + i = i by omega]
    rw [zU_C (a := 63) (b := 63) (by decide) (by decide), zC_a0 h0 rfl, show J 63 (130 + i) = (zC J 62 62 130 0 (i + 1)) 63 (130 + i) from (zC_n (by decide)).symm, zC_a0 h0 rfl]
    exact ih (i + 1) (by omega) (by omega) K
theorem cpy1_k {X : Nat × (Nat → Int32)} {M : zA} {R : zR} {D : Nat} {J : zA} {P : zP} {n : Int} (hR : zRoR R) (hn : J 50 19 = n) (hn0 : 0 ≤ n ∧ n ≤ 121) (ha : ∀ j, 130 ≤ j ∧ j < 130 + n → 0 ≤ J 62 j ∧ J 62 j ≤ 127) (K : zW X D 178 163 [some (.ref 50), some (zi 0), some (zi n)] [] (zC (zC J 62 62 130 0 n) 63 63 130 0 n) M R P) : zW X D 178 105 [some (.ref 50), some (zi 0), some (zi 0)] [] J M R P := by
  have h := cpy1 hR hn hn0 ha n.toNat 0 (by omega) (by decide) K
  rw [zC_none, zC_none] at h
  exact h
theorem cpy2 {X : Nat × (Nat → Int32)} {M : zA} {R : zR} {D : Nat} {J : zA} {P : zP} {n : Int} (hR : zRoR R) (hn : J 64 0 = n) (hn0 : 0 ≤ n ∧ n ≤ 61) (ha : ∀ j, 61 ≤ j ∧ j < 61 + n → 0 ≤ J 65 j ∧ J 65 j ≤ 255) (hb : ∀ j, 61 ≤ j ∧ j < 61 + n → 0 ≤ J 66 j ∧ J 66 j ≤ 255) : ∀ (j : Nat) (i : Int), i + j = n → 0 ≤ i → zW X D 178 233 [some (.ref 50), some (zi 0), some (zi n)] [] (zC (zC J 65 65 61 0 n) 66 66 61 0 n) M R P → zW X D 178 177 [some (.ref 50), some (zi 0), some (zi i)] [] (zC (zC J 65 65 61 0 i) 66 66 61 0 i) M R P := by
  intro j
  induction j with
  | zero =>
    intro i hi h0 K
    obtain rfl : i = n := by omega
    refine z_iload rfl rfl ?_
    refine z_aload rfl rfl ?_
    refine z_getR (r := 64) rfl rfl (hR _ rm_50_22 (by decide)) ?_
    refine z_iload rfl rfl ?_
    refine z_iald (v := i) rfl rfl (by decide) (by decide) (((zC_n (by decide)).trans (zC_n (by decide))).trans hn) ?_
    exact z_icmp_geT rfl (by omega) (by omega) (by omega) K
  | succ j ih =>
    intro i hi h0 K
    refine z_iload2 rfl ?_
    refine z_aload0 rfl ?_
    refine z_getR (r := 64) rfl gk_50 (hR _ rm_50_22 (by decide)) ?_
    refine z_iload1 rfl ?_
    refine z_iald (v := n) rfl gk_64 (by decide) (by decide) (((zC_n (by decide)).trans (zC_n (by decide))).trans hn) ?_
    refine z_icmp_geF rfl (by omega) (by omega) (by omega) ?_
    refine z_aload0 rfl ?_
    refine z_getR (r := 65) rfl gk_50 (hR _ rm_50_23 (by decide)) ?_
    refine z_pushJ gp_178_191 ?_
    refine z_iload1 rfl ?_
    refine z_imul (e := 0) rfl rfl ?_
    refine z_iload2 rfl ?_
    refine z_iadd (e := 0 + i) rfl rfl ?_
    refine z_aload0 rfl ?_
    refine z_getR (r := 65) rfl gk_50 (hR _ rm_50_23 (by decide)) ?_
    refine z_pushJ gp_178_201 ?_
    refine z_iload2 rfl ?_
    refine z_iadd (e := 61 + i) rfl rfl ?_
    refine z_hald (v := J 65 (61 + i)) rfl gk_65 (by decide) (by omega) ((zC_n (by decide)).trans (zC_out2 (by omega))) ?_
    refine z_hast (e := zh (J 65 (61 + i))) rfl gk_65 (by decide) (by omega) rfl ?_
    refine z_aload0 rfl ?_
    refine z_getR (r := 66) rfl gk_50 (hR _ rm_50_24 (by decide)) ?_
    refine z_pushJ gp_178_211 ?_
    refine z_iload1 rfl ?_
    refine z_imul (e := 0) rfl rfl ?_
    refine z_iload2 rfl ?_
    refine z_iadd (e := 0 + i) rfl rfl ?_
    refine z_aload0 rfl ?_
    refine z_getR (r := 66) rfl gk_50 (hR _ rm_50_24 (by decide)) ?_
    refine z_pushJ gp_178_221 ?_
    refine z_iload2 rfl ?_
    refine z_iadd (e := 61 + i) rfl rfl ?_
    refine z_hald (v := J 66 (61 + i)) rfl gk_66 (by decide) (by omega) ((zU_n (by decide)).trans ((zC_out2 (by omega)).trans (zC_n (by decide)))) ?_
    refine z_hast (e := zh (J 66 (61 + i))) rfl gk_66 (by decide) (by omega) rfl ?_
    refine z_iinc (c := 1) (e := i + 1) (ls1 := [some (.ref 50), some (zi 0), some (zi (i + 1))]) rfl rfl rfl rfl rfl ?_
    refine z_goto rfl ?_
    show zW _ _ _ _ [some (.ref 50), some (zi 0), some (zi (i + 1))] [] _ _ _ _
    have qa := ha (61 + i) (by omega)
    have qb := hb (61 + i) (by omega)
    rw [zh_id (x := J 65 (61 + i)) (by omega), zh_id (x := J 66 (61 + i)) (by omega), show (0 : Int) + i = i by omega]
    rw [zU_C (a := 66) (b := 66) (by decide) (by decide), zC_a0 h0 rfl, show J 66 (61 + i) = (zC J 65 65 61 0 (i + 1)) 66 (61 + i) from (zC_n (by decide)).symm, zC_a0 h0 rfl]
    exact ih (i + 1) (by omega) (by omega) K
theorem cpy2_k {X : Nat × (Nat → Int32)} {M : zA} {R : zR} {D : Nat} {J : zA} {P : zP} {n : Int} (hR : zRoR R) (hn : J 64 0 = n) (hn0 : 0 ≤ n ∧ n ≤ 61) (ha : ∀ j, 61 ≤ j ∧ j < 61 + n → 0 ≤ J 65 j ∧ J 65 j ≤ 255) (hb : ∀ j, 61 ≤ j ∧ j < 61 + n → 0 ≤ J 66 j ∧ J 66 j ≤ 255) (K : zW X D 178 233 [some (.ref 50), some (zi 0), some (zi n)] [] (zC (zC J 65 65 61 0 n) 66 66 61 0 n) M R P) : zW X D 178 177 [some (.ref 50), some (zi 0), some (zi 0)] [] J M R P := by
  have h := cpy2 hR hn hn0 ha hb n.toNat 0 (by omega) (by decide) K
  rw [zC_none, zC_none] at h
  exact h
