theorem zC_sh {J : zA} {a : Nat} {n y : Int} (h : 0 ≤ y ∧ y < n) : zC J a a 1 0 n a y = J a (y + 1) := by
  unfold zC
  rw [if_pos rfl, if_pos (by omega), show (1 : Int) + (y - 0) = y + 1 by omega]
theorem zC_so {J : zA} {a : Nat} {n y : Int} (h : ¬ (0 ≤ y ∧ y < n)) : zC J a a 1 0 n a y = J a y := by
  unfold zC
  rw [if_pos rfl, if_neg (by omega)]
theorem zC_s0 {J : zA} {a : Nat} : zC J a a 1 0 0 = J := by
  funext x y
  unfold zC
  split
  · rename_i h
    rw [if_neg (by omega), h]
  · rfl
theorem zC_ss {J : zA} {a : Nat} {i : Int} (hi : 0 ≤ i) : zU (zC J a a 1 0 i) a i (J a (i + 1)) = zC J a a 1 0 (i + 1) := by
  funext x y
  unfold zU zC
  by_cases h : x = a
  · rw [if_pos h, if_pos h, if_pos h]
    by_cases e : y = i
    · rw [if_pos e, if_pos (by omega), e, show (1 : Int) + (i - 0) = i + 1 by omega]
    · rw [if_neg e]
      by_cases c : 0 ≤ y ∧ y < 0 + i
      · rw [if_pos c, if_pos (by omega)]
      · rw [if_neg c, if_neg (by omega)]
  · rw [if_neg h, if_neg h, if_neg h]
theorem zC4_0 {J : zA} : (zC (zC (zC (zC J 57 57 1 0 0) 58 58 1 0 0) 59 59 1 0 0) 60 60 1 0 0) = J := by rw [zC_s0, zC_s0, zC_s0, zC_s0]
theorem zC4_s {J : zA} {i : Int} (hi : 0 ≤ i) : zU (zU (zU (zU (zC (zC (zC (zC J 57 57 1 0 i) 58 58 1 0 i) 59 59 1 0 i) 60 60 1 0 i) 57 i (J 57 (i + 1))) 58 i (J 58 (i + 1))) 59 i (J 59 (i + 1))) 60 i (J 60 (i + 1)) = (zC (zC (zC (zC J 57 57 1 0 (i + 1)) 58 58 1 0 (i + 1)) 59 59 1 0 (i + 1)) 60 60 1 0 (i + 1)) := by
  have e60 : J 60 (i + 1) = (zC (zC (zC J 57 57 1 0 (i + 1)) 58 58 1 0 (i + 1)) 59 59 1 0 (i + 1)) 60 (i + 1) := ((zC_n (by decide)).trans ((zC_n (by decide)).trans (zC_n (by decide)))).symm
  have e59 : J 59 (i + 1) = (zC (zC J 57 57 1 0 (i + 1)) 58 58 1 0 (i + 1)) 59 (i + 1) := ((zC_n (by decide)).trans (zC_n (by decide))).symm
  have e58 : J 58 (i + 1) = (zC J 57 57 1 0 (i + 1)) 58 (i + 1) := (zC_n (by decide)).symm
  rw [zU_C (a := 60) (by decide) (by decide), zU_C (a := 59) (by decide) (by decide), zU_C (a := 58) (by decide) (by decide), zC_ss hi, e58, zU_C (a := 60) (by decide) (by decide), zU_C (a := 59) (by decide) (by decide), zC_ss hi, e59, zU_C (a := 60) (by decide) (by decide), zC_ss hi, e60, zC_ss hi]
theorem zC4_in {X : Nat × (Nat → Int32)} {d k pc : Nat} {ls : List (Option Value)} {st : List Value} {J M : zA} {R : zR} {P : zP} (h : zW X d k pc ls st (zC (zC (zC (zC J 57 57 1 0 0) 58 58 1 0 0) 59 59 1 0 0) 60 60 1 0 0) M R P) : zW X d k pc ls st J M R P := by
  rw [zC4_0] at h
  exact h
theorem shift40_z {X : Nat × (Nat → Int32)} {d : Nat} {J M : zA} {R : zR} {P : zP} {w p v t : Int} (hR : zRoR R) : ∀ (j : Nat) (i : Int), i + j = 39 → 0 ≤ i → zW X d 157 111 [some (.ref 50), some (zi w), some (zi p), some (zi v), some (zi t), some (zi 40)] [] (zC (zC (zC (zC J 57 57 1 0 39) 58 58 1 0 39) 59 59 1 0 39) 60 60 1 0 39) M R P → zW X d 157 34 [some (.ref 50), some (zi w), some (zi p), some (zi v), some (zi t), some (zi (i + 1))] [] (zC (zC (zC (zC J 57 57 1 0 i) 58 58 1 0 i) 59 59 1 0 i) 60 60 1 0 i) M R P := by
  intro j
  induction j with
  | zero =>
    intro i hi h0 K
    obtain rfl : i = 39 := by omega
    refine z_iload rfl rfl ?_
    refine z_pushI (z := 40) rfl rfl ?_
    exact z_icmp_geT rfl (by omega) (by omega) (by omega) K
  | succ j ih =>
    intro i hi h0 K
    refine z_iload5 rfl ?_
    refine z_pushJ gp_157_36 ?_
    refine z_icmp_geF rfl (by omega) zr_40 (by omega) ?_
    refine z_aload0 rfl ?_
    refine z_getR (r := 57) rfl gk_50 (hR _ rm_50_10 (by decide)) ?_
    refine z_iload5 rfl ?_
    refine z_pushJ gp_157_47 ?_
    refine z_isub (e := i + 1 - 1) rfl rfl ?_
    refine z_aload0 rfl ?_
    refine z_getR (r := 57) rfl gk_50 (hR _ rm_50_10 (by decide)) ?_
    refine z_iload5 rfl ?_
    refine z_iald (v := J 57 (i + 1)) rfl gk_57 (by decide) (by omega) ((zC_n (by decide)).trans ((zC_n (by decide)).trans ((zC_n (by decide)).trans (zC_so (by omega))))) ?_
    refine z_iast (e := J 57 (i + 1)) rfl gk_57 (by decide) (by omega) rfl ?_
    refine z_aload0 rfl ?_
    refine z_getR (r := 58) rfl gk_50 (hR _ rm_50_11 (by decide)) ?_
    refine z_iload5 rfl ?_
    refine z_pushJ gp_157_63 ?_
    refine z_isub (e := i + 1 - 1) rfl rfl ?_
    refine z_aload0 rfl ?_
    refine z_getR (r := 58) rfl gk_50 (hR _ rm_50_11 (by decide)) ?_
    refine z_iload5 rfl ?_
    refine z_iald (v := J 58 (i + 1)) rfl gk_58 (by decide) (by omega) ((zU_n (by decide)).trans ((zC_n (by decide)).trans ((zC_n (by decide)).trans ((zC_so (by omega)).trans (zC_n (by decide)))))) ?_
    refine z_iast (e := J 58 (i + 1)) rfl gk_58 (by decide) (by omega) rfl ?_
    refine z_aload0 rfl ?_
    refine z_getR (r := 59) rfl gk_50 (hR _ rm_50_12 (by decide)) ?_
    refine z_iload5 rfl ?_
    refine z_pushJ gp_157_79 ?_
    refine z_isub (e := i + 1 - 1) rfl rfl ?_
    refine z_aload0 rfl ?_
    refine z_getR (r := 59) rfl gk_50 (hR _ rm_50_12 (by decide)) ?_
    refine z_iload5 rfl ?_
    refine z_iald (v := J 59 (i + 1)) rfl gk_59 (by decide) (by omega) ((zU_n (by decide)).trans ((zU_n (by decide)).trans ((zC_n (by decide)).trans ((zC_so (by omega)).trans ((zC_n (by decide)).trans (zC_n (by decide))))))) ?_
    refine z_iast (e := J 59 (i + 1)) rfl gk_59 (by decide) (by omega) rfl ?_
    refine z_aload0 rfl ?_
    refine z_getR (r := 60) rfl gk_50 (hR _ rm_50_13 (by decide)) ?_
    refine z_iload5 rfl ?_
    refine z_pushJ gp_157_95 ?_
    refine z_isub (e := i + 1 - 1) rfl rfl ?_
    refine z_aload0 rfl ?_
    refine z_getR (r := 60) rfl gk_50 (hR _ rm_50_13 (by decide)) ?_
    refine z_iload5 rfl ?_
    refine z_iald (v := J 60 (i + 1)) rfl gk_60 (by decide) (by omega) ((zU_n (by decide)).trans ((zU_n (by decide)).trans ((zU_n (by decide)).trans ((zC_so (by omega)).trans ((zC_n (by decide)).trans ((zC_n (by decide)).trans (zC_n (by decide)))))))) ?_
    refine z_iast (e := J 60 (i + 1)) rfl gk_60 (by decide) (by omega) rfl ?_
    refine z_iinc (c := 1) (e := i + 1 + 1) (ls1 := [some (.ref 50), some (zi w), some (zi p), some (zi v), some (zi t), some (zi (i + 1 + 1))]) rfl rfl rfl rfl rfl ?_
    refine z_goto rfl ?_
    show zW _ _ _ _ [some (.ref 50), some (zi w), some (zi p), some (zi v), some (zi t), some (zi (i + 1 + 1))] [] _ _ _ _
    rw [show i + 1 - 1 = i by omega, zC4_s h0]
    exact ih (i + 1) (by omega) (by omega) K
theorem st_mend4_p0 {X : Nat × (Nat → Int32)} {d : Nat} {J M : zA} {R : zR} {p v : Int} (hr : Rel X J M R) (hp : -2147483648 ≤ p ∧ p < 2147483648) (hv : -2147483648 ≤ v ∧ v < 2147483648) (hV : zV (J 8 2) p (0)) (hf : zT 2 (0) ≤ v ∧ v ≤ zT 3 (0)) (he : ¬ (cN J) p (0) = v) (h40 : J 29 5 = 40) : zW X (d + 20) 104 0 (gEn 104 [(.ref 0), (zi p), (zi 0), (zi v)]) [] J M R (stP X (d + 20) 162 [(zi p), (zi 0), (zi v)]) := by
  have hr0 := hr
  obtain ⟨hR, hG, hY, hD, hP, hC, hAc, hS, hTp, hX, hW⟩ := hr0
  have hRr : zRoR R := zRoR_of hR
  have hY0 := hY
  obtain ⟨y1, y2, y3⟩ := hY0
  have yn := zNn y3
  have hC0 := hC
  obtain ⟨c1, c2, c3, c4, c5, c6⟩ := hC0
  have nr := zN_r y3 hV
  have nf := zN_fit y3 hV
  have hf2 : zFit (0) v := hf
  show zW _ _ _ _ [some (.ref 0), some (zi p), some (zi 0), some (zi v), none] _ _ _ _ _
  refine z_aload0 gi_104_0 ?_
  refine z_getR (r := 8) gi_104_1 gk_0 (hR _ rm_0_1) ?_
  refine z_iload1 gi_104_4 ?_
  refine z_iload2 gi_104_5 ?_
  refine z_callVP (As := [_, _]) (v := 1) gi_104_6 rfl gk_8 (Nat.le_of_ble_eq_true rfl) (Nat.le_of_ble_eq_true rfl) (isNumber_1 hR rfl yn hp (by decide) hV) ?_
  refine z_if_eqF gi_104_9 zr_1 (by decide) ?_
  refine z_iload2 gi_104_12 ?_
  refine z_iload3 gi_104_13 ?_
  refine z_callSP (As := [_, _]) (v := 1) gi_104_14 rfl (Nat.le_of_ble_eq_true rfl) (Nat.le_of_ble_eq_true rfl) (isFit_1 hv (by decide) (by omega) hf) ?_
  refine z_if_neT gi_104_17 zr_1 (by decide) ?_
  refine z_aload0 gi_104_22 ?_
  refine z_getR (r := 8) gi_104_23 gk_0 (hR _ rm_0_1) ?_
  refine z_iload1 gi_104_26 ?_
  refine z_iload2 gi_104_27 ?_
  refine z_callVP (As := [_, _]) (v := (cN J) p (0)) gi_104_28 rfl gk_8 (Nat.le_of_ble_eq_true rfl) (Nat.le_of_ble_eq_true rfl) (told_k hR zK_r rfl rfl y3 hp (by decide)) ?_
  refine z_istore (ls1 := [some (.ref 0), some (zi p), some (zi 0), some (zi v), some (zi ((cN J) p (0)))]) gi_104_31 rfl ?_
  refine z_iload4 gi_104_33 ?_
  refine z_iload3 gi_104_35 ?_
  refine z_icmp_eqF gi_104_36 (by omega) (by omega) (by omega) ?_
  refine z_aload0 gi_104_39 ?_
  refine z_getR (r := 29) gi_104_40 gk_0 (hR _ rm_0_9) ?_
  refine z_iload1 gi_104_43 ?_
  refine z_iload2 gi_104_44 ?_
  refine z_iload4 gi_104_45 ?_
  refine z_iload3 gi_104_47 ?_
  refine z_cV4 gi_104_48 gk_29 go_14 (Nat.le_of_ble_eq_true rfl) gc_14_RIIII ?_
  refine z_aload0 gi_14_0 ?_
  refine z_getI (v := 40) gi_14_1 gk_29 (h40) ?_
  refine z_pushJ gp_14_4 ?_
  refine z_icmp_ltF gi_14_6 zr_40 zr_40 (by decide) ?_
  refine z_aload0 gi_14_9 ?_
  refine z_cV0 gi_14_10 gk_29 go_15 (Nat.le_of_ble_eq_true rfl) gc_15_R ?_
  refine z_aload0 gi_15_0 ?_
  refine z_pushJ gp_15_1 ?_
  refine z_putI (y := 5) gi_15_3 rfl gk_29 ?_
  refine z_aload0 gi_15_6 ?_
  refine z_getR (r := 30) gi_15_7 gk_29 (hR _ rm_29_1) ?_
  refine z_pushJ gp_15_10 ?_
  refine z_aload0 gi_15_11 ?_
  refine z_getR (r := 30) gi_15_12 gk_29 (hR _ rm_29_1) ?_
  refine z_pushJ gp_15_15 ?_
  refine z_aload0 gi_15_16 ?_
  refine z_getI (v := 39) gi_15_17 gk_29 (zU_e) ?_
  refine z_copyI gi_15_20 gk_30 gk_30 (by decide) (by decide) (by decide) (by decide) (by decide) (by decide) (by decide) (by decide) ?_
  refine z_aload0 gi_15_23 ?_
  refine z_getR (r := 31) gi_15_24 gk_29 (hR _ rm_29_2) ?_
  refine z_pushJ gp_15_27 ?_
  refine z_aload0 gi_15_28 ?_
  refine z_getR (r := 31) gi_15_29 gk_29 (hR _ rm_29_2) ?_
  refine z_pushJ gp_15_32 ?_
  refine z_aload0 gi_15_33 ?_
  refine z_getI (v := 39) gi_15_34 gk_29 ((zC_n (by decide)).trans (zU_e)) ?_
  refine z_copyI gi_15_37 gk_31 gk_31 (by decide) (by decide) (by decide) (by decide) (by decide) (by decide) (by decide) (by decide) ?_
  refine z_aload0 gi_15_40 ?_
  refine z_getR (r := 32) gi_15_41 gk_29 (hR _ rm_29_3) ?_
  refine z_pushJ gp_15_44 ?_
  refine z_aload0 gi_15_45 ?_
  refine z_getR (r := 32) gi_15_46 gk_29 (hR _ rm_29_3) ?_
  refine z_pushJ gp_15_49 ?_
  refine z_aload0 gi_15_50 ?_
  refine z_getI (v := 39) gi_15_51 gk_29 ((zC_n (by decide)).trans ((zC_n (by decide)).trans (zU_e))) ?_
  refine z_copyI gi_15_54 gk_32 gk_32 (by decide) (by decide) (by decide) (by decide) (by decide) (by decide) (by decide) (by decide) ?_
  refine z_aload0 gi_15_57 ?_
  refine z_getR (r := 33) gi_15_58 gk_29 (hR _ rm_29_4) ?_
  refine z_pushJ gp_15_61 ?_
  refine z_aload0 gi_15_62 ?_
  refine z_getR (r := 33) gi_15_63 gk_29 (hR _ rm_29_4) ?_
  refine z_pushJ gp_15_66 ?_
  refine z_aload0 gi_15_67 ?_
  refine z_getI (v := 39) gi_15_68 gk_29 ((zC_n (by decide)).trans ((zC_n (by decide)).trans ((zC_n (by decide)).trans (zU_e)))) ?_
  refine z_copyI gi_15_71 gk_33 gk_33 (by decide) (by decide) (by decide) (by decide) (by decide) (by decide) (by decide) (by decide) ?_
  refine z_vret gi_15_74 gr_15 ?_
  show zW _ _ _ _ _ _ _ _ _ _
  refine z_aload0 gi_14_13 ?_
  refine z_getR (r := 30) gi_14_14 gk_29 (hR _ rm_29_1) ?_
  refine z_aload0 gi_14_17 ?_
  refine z_getI (v := 39) gi_14_18 gk_29 ((zC_n (by decide)).trans ((zC_n (by decide)).trans ((zC_n (by decide)).trans ((zC_n (by decide)).trans (zU_e))))) ?_
  refine z_iload1 gi_14_21 ?_
  refine z_iast (e := p) gi_14_22 gk_30 (by decide) (by decide) rfl ?_
  refine z_aload0 gi_14_23 ?_
  refine z_getR (r := 31) gi_14_24 gk_29 (hR _ rm_29_2) ?_
  refine z_aload0 gi_14_27 ?_
  refine z_getI (v := 39) gi_14_28 gk_29 ((zU_n (by decide)).trans ((zC_n (by decide)).trans ((zC_n (by decide)).trans ((zC_n (by decide)).trans ((zC_n (by decide)).trans (zU_e)))))) ?_
  refine z_iload2 gi_14_31 ?_
  refine z_iast (e := 0) gi_14_32 gk_31 (by decide) (by decide) rfl ?_
  refine z_aload0 gi_14_33 ?_
  refine z_getR (r := 32) gi_14_34 gk_29 (hR _ rm_29_3) ?_
  refine z_aload0 gi_14_37 ?_
  refine z_getI (v := 39) gi_14_38 gk_29 ((zU_n (by decide)).trans ((zU_n (by decide)).trans ((zC_n (by decide)).trans ((zC_n (by decide)).trans ((zC_n (by decide)).trans ((zC_n (by decide)).trans (zU_e))))))) ?_
  refine z_iload3 gi_14_41 ?_
  refine z_iast (e := (cN J) p (0)) gi_14_42 gk_32 (by decide) (by decide) rfl ?_
  refine z_aload0 gi_14_43 ?_
  refine z_getR (r := 33) gi_14_44 gk_29 (hR _ rm_29_4) ?_
  refine z_aload0 gi_14_47 ?_
  refine z_getI (v := 39) gi_14_48 gk_29 ((zU_n (by decide)).trans ((zU_n (by decide)).trans ((zU_n (by decide)).trans ((zC_n (by decide)).trans ((zC_n (by decide)).trans ((zC_n (by decide)).trans ((zC_n (by decide)).trans (zU_e)))))))) ?_
  refine z_iload4 gi_14_51 ?_
  refine z_iast (e := v) gi_14_53 gk_33 (by decide) (by decide) rfl ?_
  refine z_aload0 gi_14_54 ?_
  refine z_dup gi_14_55 rfl ?_
  refine z_getI (v := 39) gi_14_56 gk_29 ((zU_n (by decide)).trans ((zU_n (by decide)).trans ((zU_n (by decide)).trans ((zU_n (by decide)).trans ((zC_n (by decide)).trans ((zC_n (by decide)).trans ((zC_n (by decide)).trans ((zC_n (by decide)).trans (zU_e))))))))) ?_
  refine z_pushJ gp_14_59 ?_
  refine z_iadd (e := 40) gi_14_60 rfl ?_
  refine z_putI (y := 5) gi_14_61 rfl gk_29 ?_
  refine z_aload0 gi_14_64 ?_
  refine z_aload0 gi_14_65 ?_
  refine z_getI (v := 40) gi_14_66 gk_29 (zU_e) ?_
  refine z_putI (y := 6) gi_14_69 rfl gk_29 ?_
  refine z_vret gi_14_72 gr_14 ?_
  show zW _ _ _ _ _ _ _ _ _ _
  refine z_aload0 gi_104_51 ?_
  refine z_getR (r := 8) gi_104_52 gk_0 (hR _ rm_0_1) ?_
  refine z_iload1 gi_104_55 ?_
  refine z_iload2 gi_104_56 ?_
  refine z_iload3 gi_104_57 ?_
  refine z_callVx (As := [_, _, _]) gi_104_58 rfl gk_8 (Nat.le_of_ble_eq_true rfl) (Nat.le_of_ble_eq_true rfl) (tell_p (n := J 8 2) hR rfl yn hp (by decide) (by omega)) ?_
  show zW _ _ _ _ _ _ _ _ _ _
  refine z_iload4 gi_104_61 ?_
  refine z_iret gi_104_63 gr_104 ?_
  refine ⟨_, rfl, ?_⟩
  show zW _ _ _ _ [some (.ref 50), some (zi p), some (zi 0), some (zi v)] _ _ _ _ _
  refine z_aload0 gi_162_0 ?_
  refine z_iload1 gi_162_1 ?_
  refine z_iload2 gi_162_2 ?_
  refine z_callVP (As := [_, _]) (v := 1) gi_162_3 rfl gk_50 (Nat.le_of_ble_eq_true rfl) (Nat.le_of_ble_eq_true rfl) (isOne_1 hRr y2.symm yn hp (by decide) hV) ?_
  refine z_if_eqF gi_162_6 zr_1 (by decide) ?_
  refine z_iload2 gi_162_9 ?_
  refine z_iload3 gi_162_10 ?_
  refine z_callSP (As := [_, _]) (v := 1) gi_162_11 rfl (Nat.le_of_ble_eq_true rfl) (Nat.le_of_ble_eq_true rfl) (mayBe_1 hv (by decide) (by omega) hf) ?_
  refine z_if_eqF gi_162_14 zr_1 (by decide) ?_
  refine z_aload0 gi_162_17 ?_
  refine z_iload2 gi_162_18 ?_
  refine z_iload1 gi_162_19 ?_
  refine z_iload3 gi_162_20 ?_
  refine z_callVi (As := [_, _, _]) (le := [some _, some _, some _, some _, none, none]) gi_162_21 rfl gk_50 (Nat.le_of_ble_eq_true rfl) (Nat.le_of_ble_eq_true rfl) rfl ?_
  refine z_aload0 gi_157_0 ?_
  refine z_iload1 gi_157_1 ?_
  refine z_iload2 gi_157_2 ?_
  refine z_callVP (As := [_, _]) (v := (cN J) p (0)) gi_157_3 rfl gk_50 (Nat.le_of_ble_eq_true rfl) (Nat.le_of_ble_eq_true rfl) (valueAt_s hRr ((rN_z (zK_x (a := 9) (x := p * 5 + 0) (v := v) (zK_x (a := 29) (x := 6) (v := 40) (zK_x (a := 29) (x := 5) (v := 40) (zK_x (a := 33) (x := 39) (v := v) (zK_x (a := 32) (x := 39) (v := (cN J) p (0)) (zK_x (a := 31) (x := 39) (v := 0) (zK_x (a := 30) (x := 39) (v := p) (zK_c (a := 33) (b := 33) (sp := 1) (dp := 0) (n := 39) (zK_c (a := 32) (b := 32) (sp := 1) (dp := 0) (n := 39) (zK_c (a := 31) (b := 31) (sp := 1) (dp := 0) (n := 39) (zK_c (a := 30) (b := 30) (sp := 1) (dp := 0) (n := 39) (zK_x (a := 29) (x := 5) (v := 39) (zK_r (k := kHi) (A := J)) rfl) (fun _ => rfl)) (fun _ => rfl)) (fun _ => rfl)) (fun _ => rfl)) rfl) rfl) rfl) rfl) rfl) rfl) rfl)).trans y1.symm) y2.symm y3 hp (by decide) hV) ?_
  refine z_istore (ls1 := [some (.ref 50), some (zi 0), some (zi p), some (zi v), some (zi ((cN J) p (0))), none]) gi_157_6 rfl ?_
  refine z_iload4 gi_157_8 ?_
  refine z_iload3 gi_157_10 ?_
  refine z_icmp_neT gi_157_11 (by omega) (by omega) (by omega) ?_
  refine z_aload0 gi_157_17 ?_
  refine z_pushJ gp_157_18 ?_
  refine z_putI (y := 9) gi_157_19 rfl gk_50 ?_
  refine z_aload0 gi_157_22 ?_
  refine z_getI (v := 40) gi_157_23 gk_50 ((zU_x (by decide)).trans ((zU_n (by decide)).trans ((zU_n (by decide)).trans ((zU_n (by decide)).trans ((zU_n (by decide)).trans ((zU_n (by decide)).trans ((zU_n (by decide)).trans ((zU_n (by decide)).trans ((zC_n (by decide)).trans ((zC_n (by decide)).trans ((zC_n (by decide)).trans ((zC_n (by decide)).trans ((zU_n (by decide)).trans (c1.symm.trans h40)))))))))))))) ?_
  refine z_pushJ gp_157_26 ?_
  refine z_icmp_neF gi_157_28 zr_40 zr_40 (by decide) ?_
  refine z_pushJ gp_157_31 ?_
  refine z_istore (ls1 := [some (.ref 50), some (zi 0), some (zi p), some (zi v), some (zi ((cN J) p (0))), some (zi 1)]) gi_157_32 rfl ?_
  show zW _ _ _ _ [some (.ref 50), some (zi 0), some (zi p), some (zi v), some (zi ((cN J) p (0))), some (zi 1)] [] _ _ _ _
  refine zC4_in ?_
  refine shift40_z hRr 39 0 (by decide) (by decide) ?_
  refine z_aload0 gi_157_111 ?_
  refine z_dup gi_157_112 rfl ?_
  refine z_getI (v := 40) gi_157_113 gk_50 ((zC_n (by decide)).trans ((zC_n (by decide)).trans ((zC_n (by decide)).trans ((zC_n (by decide)).trans ((zU_x (by decide)).trans ((zU_n (by decide)).trans ((zU_n (by decide)).trans ((zU_n (by decide)).trans ((zU_n (by decide)).trans ((zU_n (by decide)).trans ((zU_n (by decide)).trans ((zU_n (by decide)).trans ((zC_n (by decide)).trans ((zC_n (by decide)).trans ((zC_n (by decide)).trans ((zC_n (by decide)).trans ((zU_n (by decide)).trans (c1.symm.trans h40)))))))))))))))))) ?_
  refine z_pushJ gp_157_116 ?_
  refine z_isub (e := 39) gi_157_117 rfl ?_
  refine z_putI (y := 8) gi_157_118 rfl gk_50 ?_
  refine z_aload0 gi_157_121 ?_
  refine z_getR (r := 57) gi_157_122 gk_50 (hRr _ rm_50_10 (by decide)) ?_
  refine z_aload0 gi_157_125 ?_
  refine z_getI (v := 39) gi_157_126 gk_50 (zU_e) ?_
  refine z_iload1 gi_157_129 ?_
  refine z_iast (e := 0) gi_157_130 gk_57 (by decide) (by decide) rfl ?_
  refine z_aload0 gi_157_131 ?_
  refine z_getR (r := 58) gi_157_132 gk_50 (hRr _ rm_50_11 (by decide)) ?_
  refine z_aload0 gi_157_135 ?_
  refine z_getI (v := 39) gi_157_136 gk_50 ((zU_n (by decide)).trans (zU_e)) ?_
  refine z_iload2 gi_157_139 ?_
  refine z_iast (e := p) gi_157_140 gk_58 (by decide) (by decide) rfl ?_
  refine z_aload0 gi_157_141 ?_
  refine z_getR (r := 59) gi_157_142 gk_50 (hRr _ rm_50_12 (by decide)) ?_
  refine z_aload0 gi_157_145 ?_
  refine z_getI (v := 39) gi_157_146 gk_50 ((zU_n (by decide)).trans ((zU_n (by decide)).trans (zU_e))) ?_
  refine z_iload4 gi_157_149 ?_
  refine z_iast (e := (cN J) p (0)) gi_157_151 gk_59 (by decide) (by decide) rfl ?_
  refine z_aload0 gi_157_152 ?_
  refine z_getR (r := 60) gi_157_153 gk_50 (hRr _ rm_50_13 (by decide)) ?_
  refine z_aload0 gi_157_156 ?_
  refine z_getI (v := 39) gi_157_157 gk_50 ((zU_n (by decide)).trans ((zU_n (by decide)).trans ((zU_n (by decide)).trans (zU_e)))) ?_
  refine z_iload3 gi_157_160 ?_
  refine z_iast (e := v) gi_157_161 gk_60 (by decide) (by decide) rfl ?_
  refine z_aload0 gi_157_162 ?_
  refine z_dup gi_157_163 rfl ?_
  refine z_getI (v := 39) gi_157_164 gk_50 ((zU_n (by decide)).trans ((zU_n (by decide)).trans ((zU_n (by decide)).trans ((zU_n (by decide)).trans (zU_e))))) ?_
  refine z_pushJ gp_157_167 ?_
  refine z_iadd (e := 40) gi_157_168 rfl ?_
  refine z_putI (y := 8) gi_157_169 rfl gk_50 ?_
  refine z_aload0 gi_157_172 ?_
  refine z_iload1 gi_157_173 ?_
  refine z_iload2 gi_157_174 ?_
  refine z_iload3 gi_157_175 ?_
  refine z_callVx (As := [_, _, _]) gi_157_176 rfl gk_50 (Nat.le_of_ble_eq_true rfl) (Nat.le_of_ble_eq_true rfl) (lays_p (n := J 8 2) hRr y2.symm yn hp (by decide) (by omega)) ?_
  show zW _ _ _ _ _ _ _ _ _ _
  refine z_iload4 gi_157_179 ?_
  refine z_iret gi_157_181 gr_157 ?_
  show zW _ _ _ _ _ _ _ _ _ _
  refine z_goto gi_162_24 ?_
  refine z_iret gi_162_28 gr_162 ?_
  refine ⟨?_, ?_⟩
  · first | rfl | exact congrArg (fun v => some (zi v)) (by omega) | (exfalso; omega)
  · have hs := (zK_u (a := 51) (x := p) (v := v) (zK_x (a := 50) (x := 8) (v := 40) (zK_x (a := 60) (x := 39) (v := v) (zK_x (a := 59) (x := 39) (v := (cN J) p (0)) (zK_x (a := 58) (x := 39) (v := p) (zK_x (a := 57) (x := 39) (v := 0) (zK_x (a := 50) (x := 8) (v := 39) (zK_c (a := 60) (b := 60) (sp := 1) (dp := 0) (n := 39) (zK_c (a := 59) (b := 59) (sp := 1) (dp := 0) (n := 39) (zK_c (a := 58) (b := 58) (sp := 1) (dp := 0) (n := 39) (zK_c (a := 57) (b := 57) (sp := 1) (dp := 0) (n := 39) (zK_x (a := 50) (x := 9) (v := 0) (zK_u (a := 9) (x := p * 5 + 0) (v := v) (zK_x (a := 29) (x := 6) (v := 40) (zK_x (a := 29) (x := 5) (v := 40) (zK_x (a := 33) (x := 39) (v := v) (zK_x (a := 32) (x := 39) (v := (cN J) p (0)) (zK_x (a := 31) (x := 39) (v := 0) (zK_x (a := 30) (x := 39) (v := p) (zK_c (a := 33) (b := 33) (sp := 1) (dp := 0) (n := 39) (zK_c (a := 32) (b := 32) (sp := 1) (dp := 0) (n := 39) (zK_c (a := 31) (b := 31) (sp := 1) (dp := 0) (n := 39) (zK_c (a := 30) (b := 30) (sp := 1) (dp := 0) (n := 39) (zK_x (a := 29) (x := 5) (v := 39) (zK_r (k := (kL [30, 31, 32, 33, 57, 58, 59, 60] [(29, 5), (30, 39), (31, 39), (32, 39), (33, 39), (29, 6), (50, 9), (50, 8), (57, 39), (58, 39), (59, 39), (60, 39)])) (A := J)) rfl) (fun _ => rfl)) (fun _ => rfl)) (fun _ => rfl)) (fun _ => rfl)) rfl) rfl) rfl) rfl) rfl) rfl)) rfl) (fun _ => rfl)) (fun _ => rfl)) (fun _ => rfl)) (fun _ => rfl)) rfl) rfl) rfl) rfl) rfl) rfl))
    have hY2 := RelY_k hs (by repeat' constructor) (fun p => by repeat' constructor) (RelY_p (p := p) (w := 0) hY (by omega) (by omega) hf2 (by omega) rfl rfl)
    have hok : zOkc (J 8 2) p (0) ((cN J) p (0)) v := ⟨hV, nf, hf2⟩
    have hk := (zK_x (a := 51) (x := p) (v := v) (zK_x (a := 50) (x := 8) (v := 40) (zK_x (a := 60) (x := 39) (v := v) (zK_x (a := 59) (x := 39) (v := (cN J) p (0)) (zK_x (a := 58) (x := 39) (v := p) (zK_x (a := 57) (x := 39) (v := 0) (zK_x (a := 50) (x := 8) (v := 39) (zK_c (a := 60) (b := 60) (sp := 1) (dp := 0) (n := 39) (zK_c (a := 59) (b := 59) (sp := 1) (dp := 0) (n := 39) (zK_c (a := 58) (b := 58) (sp := 1) (dp := 0) (n := 39) (zK_c (a := 57) (b := 57) (sp := 1) (dp := 0) (n := 39) (zK_x (a := 50) (x := 9) (v := 0) (zK_x (a := 9) (x := p * 5 + 0) (v := v) (zK_x (a := 29) (x := 6) (v := 40) (zK_x (a := 29) (x := 5) (v := 40) (zK_x (a := 33) (x := 39) (v := v) (zK_x (a := 32) (x := 39) (v := (cN J) p (0)) (zK_x (a := 31) (x := 39) (v := 0) (zK_x (a := 30) (x := 39) (v := p) (zK_c (a := 33) (b := 33) (sp := 1) (dp := 0) (n := 39) (zK_c (a := 32) (b := 32) (sp := 1) (dp := 0) (n := 39) (zK_c (a := 31) (b := 31) (sp := 1) (dp := 0) (n := 39) (zK_c (a := 30) (b := 30) (sp := 1) (dp := 0) (n := 39) (zK_x (a := 29) (x := 5) (v := 39) (zK_r (k := (kL [30, 31, 32, 33, 9, 57, 58, 59, 60, 51] [(29, 5), (30, 39), (31, 39), (32, 39), (33, 39), (29, 6), (50, 9), (50, 8), (57, 39), (58, 39), (59, 39), (60, 39)])) (A := J)) rfl) (fun _ => rfl)) (fun _ => rfl)) (fun _ => rfl)) (fun _ => rfl)) rfl) rfl) rfl) rfl) rfl) rfl) rfl) rfl) (fun _ => rfl)) (fun _ => rfl)) (fun _ => rfl)) (fun _ => rfl)) rfl) rfl) rfl) rfl) rfl) rfl) rfl)
    exact ⟨hR, hG, hY2, RelD_k hk (by repeat' constructor) (fun p => by repeat' constructor) hD, RelP_k hk (by repeat' constructor) (fun p => by repeat' constructor) hP, (RelC_mk (K := J) (d := 39) (o := 1) rfl rfl rfl rfl (by decide) (by decide) rfl rfl hC (by omega) (fun i i1 i2 => ⟨⟨(zU_n (by decide)).trans ((zU_n (by decide)).trans ((zU_n (by decide)).trans ((zU_n (by decide)).trans ((zU_n (by decide)).trans ((zU_n (by decide)).trans ((zU_n (by decide)).trans ((zC_n (by decide)).trans ((zC_n (by decide)).trans ((zC_n (by decide)).trans ((zC_n (by decide)).trans ((zU_n (by decide)).trans ((zU_n (by decide)).trans ((zU_n (by decide)).trans ((zU_n (by decide)).trans ((zU_n (by decide)).trans ((zU_n (by decide)).trans ((zU_n (by decide)).trans ((zU_x (by omega)).trans ((zC_n (by decide)).trans ((zC_n (by decide)).trans ((zC_n (by decide)).trans ((zC_sh (by omega)).trans ((zU_n (by decide)).trans (rfl)))))))))))))))))))))))), (zU_n (by decide)).trans ((zU_n (by decide)).trans ((zU_n (by decide)).trans ((zU_n (by decide)).trans ((zU_n (by decide)).trans ((zU_n (by decide)).trans ((zU_n (by decide)).trans ((zC_n (by decide)).trans ((zC_n (by decide)).trans ((zC_n (by decide)).trans ((zC_n (by decide)).trans ((zU_n (by decide)).trans ((zU_n (by decide)).trans ((zU_n (by decide)).trans ((zU_n (by decide)).trans ((zU_n (by decide)).trans ((zU_n (by decide)).trans ((zU_x (by omega)).trans ((zU_n (by decide)).trans ((zC_n (by decide)).trans ((zC_n (by decide)).trans ((zC_sh (by omega)).trans ((zC_n (by decide)).trans ((zU_n (by decide)).trans (rfl)))))))))))))))))))))))), (zU_n (by decide)).trans ((zU_n (by decide)).trans ((zU_n (by decide)).trans ((zU_n (by decide)).trans ((zU_n (by decide)).trans ((zU_n (by decide)).trans ((zU_n (by decide)).trans ((zC_n (by decide)).trans ((zC_n (by decide)).trans ((zC_n (by decide)).trans ((zC_n (by decide)).trans ((zU_n (by decide)).trans ((zU_n (by decide)).trans ((zU_n (by decide)).trans ((zU_n (by decide)).trans ((zU_n (by decide)).trans ((zU_x (by omega)).trans ((zU_n (by decide)).trans ((zU_n (by decide)).trans ((zC_n (by decide)).trans ((zC_sh (by omega)).trans ((zC_n (by decide)).trans ((zC_n (by decide)).trans ((zU_n (by decide)).trans (rfl)))))))))))))))))))))))), (zU_n (by decide)).trans ((zU_n (by decide)).trans ((zU_n (by decide)).trans ((zU_n (by decide)).trans ((zU_n (by decide)).trans ((zU_n (by decide)).trans ((zU_n (by decide)).trans ((zC_n (by decide)).trans ((zC_n (by decide)).trans ((zC_n (by decide)).trans ((zC_n (by decide)).trans ((zU_n (by decide)).trans ((zU_n (by decide)).trans ((zU_n (by decide)).trans ((zU_n (by decide)).trans ((zU_x (by omega)).trans ((zU_n (by decide)).trans ((zU_n (by decide)).trans ((zU_n (by decide)).trans ((zC_sh (by omega)).trans ((zC_n (by decide)).trans ((zC_n (by decide)).trans ((zC_n (by decide)).trans ((zU_n (by decide)).trans (rfl))))))))))))))))))))))))⟩, ⟨(zU_n (by decide)).trans ((zU_n (by decide)).trans ((zU_n (by decide)).trans ((zU_n (by decide)).trans ((zU_x (by omega)).trans ((zU_n (by decide)).trans ((zU_n (by decide)).trans ((zC_n (by decide)).trans ((zC_n (by decide)).trans ((zC_sh (by omega)).trans ((zC_n (by decide)).trans ((zU_n (by decide)).trans ((zU_n (by decide)).trans ((zU_n (by decide)).trans ((zU_n (by decide)).trans ((zU_n (by decide)).trans ((zU_n (by decide)).trans ((zU_n (by decide)).trans ((zU_n (by decide)).trans ((zC_n (by decide)).trans ((zC_n (by decide)).trans ((zC_n (by decide)).trans ((zC_n (by decide)).trans ((zU_n (by decide)).trans (rfl)))))))))))))))))))))))), (zU_n (by decide)).trans ((zU_n (by decide)).trans ((zU_n (by decide)).trans ((zU_n (by decide)).trans ((zU_n (by decide)).trans ((zU_x (by omega)).trans ((zU_n (by decide)).trans ((zC_n (by decide)).trans ((zC_n (by decide)).trans ((zC_n (by decide)).trans ((zC_sh (by omega)).trans ((zU_n (by decide)).trans ((zU_n (by decide)).trans ((zU_n (by decide)).trans ((zU_n (by decide)).trans ((zU_n (by decide)).trans ((zU_n (by decide)).trans ((zU_n (by decide)).trans ((zU_n (by decide)).trans ((zC_n (by decide)).trans ((zC_n (by decide)).trans ((zC_n (by decide)).trans ((zC_n (by decide)).trans ((zU_n (by decide)).trans (rfl)))))))))))))))))))))))), (zU_n (by decide)).trans ((zU_n (by decide)).trans ((zU_n (by decide)).trans ((zU_x (by omega)).trans ((zU_n (by decide)).trans ((zU_n (by decide)).trans ((zU_n (by decide)).trans ((zC_n (by decide)).trans ((zC_sh (by omega)).trans ((zC_n (by decide)).trans ((zC_n (by decide)).trans ((zU_n (by decide)).trans ((zU_n (by decide)).trans ((zU_n (by decide)).trans ((zU_n (by decide)).trans ((zU_n (by decide)).trans ((zU_n (by decide)).trans ((zU_n (by decide)).trans ((zU_n (by decide)).trans ((zC_n (by decide)).trans ((zC_n (by decide)).trans ((zC_n (by decide)).trans ((zC_n (by decide)).trans ((zU_n (by decide)).trans (rfl)))))))))))))))))))))))), (zU_n (by decide)).trans ((zU_n (by decide)).trans ((zU_x (by omega)).trans ((zU_n (by decide)).trans ((zU_n (by decide)).trans ((zU_n (by decide)).trans ((zU_n (by decide)).trans ((zC_sh (by omega)).trans ((zC_n (by decide)).trans ((zC_n (by decide)).trans ((zC_n (by decide)).trans ((zU_n (by decide)).trans ((zU_n (by decide)).trans ((zU_n (by decide)).trans ((zU_n (by decide)).trans ((zU_n (by decide)).trans ((zU_n (by decide)).trans ((zU_n (by decide)).trans ((zU_n (by decide)).trans ((zC_n (by decide)).trans ((zC_n (by decide)).trans ((zC_n (by decide)).trans ((zC_n (by decide)).trans ((zU_n (by decide)).trans (rfl))))))))))))))))))))))))⟩⟩) ((zU_n (by decide)).trans ((zU_n (by decide)).trans ((zU_n (by decide)).trans ((zU_n (by decide)).trans ((zU_n (by decide)).trans ((zU_n (by decide)).trans ((zU_n (by decide)).trans ((zC_n (by decide)).trans ((zC_n (by decide)).trans ((zC_n (by decide)).trans ((zC_n (by decide)).trans ((zU_n (by decide)).trans ((zU_n (by decide)).trans ((zU_n (by decide)).trans ((zU_n (by decide)).trans ((zU_n (by decide)).trans ((zU_n (by decide)).trans ((zU_n (by decide)).trans (zU_e))))))))))))))))))) ((zU_n (by decide)).trans ((zU_n (by decide)).trans ((zU_n (by decide)).trans ((zU_n (by decide)).trans ((zU_n (by decide)).trans ((zU_n (by decide)).trans ((zU_n (by decide)).trans ((zC_n (by decide)).trans ((zC_n (by decide)).trans ((zC_n (by decide)).trans ((zC_n (by decide)).trans ((zU_n (by decide)).trans ((zU_n (by decide)).trans ((zU_n (by decide)).trans ((zU_n (by decide)).trans ((zU_n (by decide)).trans ((zU_n (by decide)).trans (zU_e)))))))))))))))))) ((zU_n (by decide)).trans ((zU_n (by decide)).trans ((zU_n (by decide)).trans ((zU_n (by decide)).trans ((zU_n (by decide)).trans ((zU_n (by decide)).trans ((zU_n (by decide)).trans ((zC_n (by decide)).trans ((zC_n (by decide)).trans ((zC_n (by decide)).trans ((zC_n (by decide)).trans ((zU_n (by decide)).trans ((zU_n (by decide)).trans ((zU_n (by decide)).trans ((zU_n (by decide)).trans ((zU_n (by decide)).trans (zU_e))))))))))))))))) ((zU_n (by decide)).trans ((zU_n (by decide)).trans ((zU_n (by decide)).trans ((zU_n (by decide)).trans ((zU_n (by decide)).trans ((zU_n (by decide)).trans ((zU_n (by decide)).trans ((zC_n (by decide)).trans ((zC_n (by decide)).trans ((zC_n (by decide)).trans ((zC_n (by decide)).trans ((zU_n (by decide)).trans ((zU_n (by decide)).trans ((zU_n (by decide)).trans ((zU_n (by decide)).trans (zU_e)))))))))))))))) ((zU_n (by decide)).trans ((zU_n (by decide)).trans ((zU_n (by decide)).trans ((zU_n (by decide)).trans (zU_e))))) ((zU_n (by decide)).trans ((zU_n (by decide)).trans ((zU_n (by decide)).trans ((zU_n (by decide)).trans ((zU_n (by decide)).trans (zU_e)))))) ((zU_n (by decide)).trans ((zU_n (by decide)).trans ((zU_n (by decide)).trans (zU_e)))) ((zU_n (by decide)).trans ((zU_n (by decide)).trans (zU_e))) hok), RelA_k hk (by repeat' constructor) (fun p => by repeat' constructor) hAc, RelS_k hk (zK_r (k := kM)) (fun x j a b => ⟨kL_38 (by decide) (by decide) x j a b, kM_38 x j a b⟩) (fun p => ⟨rfl, rfl, rfl⟩) rfl hS, RelT_k hk (by repeat' constructor) (fun p => by repeat' constructor) hTp, RelX_k hk (by repeat' constructor) (fun p => by repeat' constructor) hX, RelW_k hk ⟨rfl, rfl⟩ trivial hW⟩
theorem st_mend4_g {X : Nat × (Nat → Int32)} {d : Nat} {J M : zA} {R : zR} {p w v : Int} (hr : Rel X J M R) (hp : -2147483648 ≤ p ∧ p < 2147483648) (hw : -2147483648 ≤ w ∧ w < 2147483648) (hv : -2147483648 ≤ v ∧ v < 2147483648) (hV : zV (J 8 2) p w) (hf : zT 2 w ≤ v ∧ v ≤ zT 3 w) (he : ¬ (cN J) p w = v) (h40 : J 29 5 = 40) (hg : 5 ≤ w) : zW X (d + 20) 104 0 (gEn 104 [(.ref 0), (zi p), (zi w), (zi v)]) [] J M R (stP X (d + 20) 162 [(zi p), (zi w), (zi v)]) := by
  have hr0 := hr
  obtain ⟨hR, hG, hY, hD, hP, hC, hAc, hS, hTp, hX, hW⟩ := hr0
  have hRr : zRoR R := zRoR_of hR
  have hY0 := hY
  obtain ⟨y1, y2, y3⟩ := hY0
  have yn := zNn y3
  have hC0 := hC
  obtain ⟨c1, c2, c3, c4, c5, c6⟩ := hC0
  have nr := zN_r y3 hV
  have nf := zN_fit y3 hV
  have hf2 : zFit w v := hf
  show zW _ _ _ _ [some (.ref 0), some (zi p), some (zi w), some (zi v), none] _ _ _ _ _
  refine z_aload0 gi_104_0 ?_
  refine z_getR (r := 8) gi_104_1 gk_0 (hR _ rm_0_1) ?_
  refine z_iload1 gi_104_4 ?_
  refine z_iload2 gi_104_5 ?_
  refine z_callVP (As := [_, _]) (v := 1) gi_104_6 rfl gk_8 (Nat.le_of_ble_eq_true rfl) (Nat.le_of_ble_eq_true rfl) (isNumber_1 hR rfl yn hp hw hV) ?_
  refine z_if_eqF gi_104_9 zr_1 (by decide) ?_
  refine z_iload2 gi_104_12 ?_
  refine z_iload3 gi_104_13 ?_
  refine z_callSP (As := [_, _]) (v := 1) gi_104_14 rfl (Nat.le_of_ble_eq_true rfl) (Nat.le_of_ble_eq_true rfl) (isFit_1 hv hw (by omega) hf) ?_
  refine z_if_neT gi_104_17 zr_1 (by decide) ?_
  refine z_aload0 gi_104_22 ?_
  refine z_getR (r := 8) gi_104_23 gk_0 (hR _ rm_0_1) ?_
  refine z_iload1 gi_104_26 ?_
  refine z_iload2 gi_104_27 ?_
  refine z_callVP (As := [_, _]) (v := (cN J) p w) gi_104_28 rfl gk_8 (Nat.le_of_ble_eq_true rfl) (Nat.le_of_ble_eq_true rfl) (told_k hR zK_r rfl rfl y3 hp hw) ?_
  refine z_istore (ls1 := [some (.ref 0), some (zi p), some (zi w), some (zi v), some (zi ((cN J) p w))]) gi_104_31 rfl ?_
  refine z_iload4 gi_104_33 ?_
  refine z_iload3 gi_104_35 ?_
  refine z_icmp_eqF gi_104_36 (by omega) (by omega) (by omega) ?_
  refine z_aload0 gi_104_39 ?_
  refine z_getR (r := 29) gi_104_40 gk_0 (hR _ rm_0_9) ?_
  refine z_iload1 gi_104_43 ?_
  refine z_iload2 gi_104_44 ?_
  refine z_iload4 gi_104_45 ?_
  refine z_iload3 gi_104_47 ?_
  refine z_cV4 gi_104_48 gk_29 go_14 (Nat.le_of_ble_eq_true rfl) gc_14_RIIII ?_
  refine z_aload0 gi_14_0 ?_
  refine z_getI (v := 40) gi_14_1 gk_29 (h40) ?_
  refine z_pushJ gp_14_4 ?_
  refine z_icmp_ltF gi_14_6 zr_40 zr_40 (by decide) ?_
  refine z_aload0 gi_14_9 ?_
  refine z_cV0 gi_14_10 gk_29 go_15 (Nat.le_of_ble_eq_true rfl) gc_15_R ?_
  refine z_aload0 gi_15_0 ?_
  refine z_pushJ gp_15_1 ?_
  refine z_putI (y := 5) gi_15_3 rfl gk_29 ?_
  refine z_aload0 gi_15_6 ?_
  refine z_getR (r := 30) gi_15_7 gk_29 (hR _ rm_29_1) ?_
  refine z_pushJ gp_15_10 ?_
  refine z_aload0 gi_15_11 ?_
  refine z_getR (r := 30) gi_15_12 gk_29 (hR _ rm_29_1) ?_
  refine z_pushJ gp_15_15 ?_
  refine z_aload0 gi_15_16 ?_
  refine z_getI (v := 39) gi_15_17 gk_29 (zU_e) ?_
  refine z_copyI gi_15_20 gk_30 gk_30 (by decide) (by decide) (by decide) (by decide) (by decide) (by decide) (by decide) (by decide) ?_
  refine z_aload0 gi_15_23 ?_
  refine z_getR (r := 31) gi_15_24 gk_29 (hR _ rm_29_2) ?_
  refine z_pushJ gp_15_27 ?_
  refine z_aload0 gi_15_28 ?_
  refine z_getR (r := 31) gi_15_29 gk_29 (hR _ rm_29_2) ?_
  refine z_pushJ gp_15_32 ?_
  refine z_aload0 gi_15_33 ?_
  refine z_getI (v := 39) gi_15_34 gk_29 ((zC_n (by decide)).trans (zU_e)) ?_
  refine z_copyI gi_15_37 gk_31 gk_31 (by decide) (by decide) (by decide) (by decide) (by decide) (by decide) (by decide) (by decide) ?_
  refine z_aload0 gi_15_40 ?_
  refine z_getR (r := 32) gi_15_41 gk_29 (hR _ rm_29_3) ?_
  refine z_pushJ gp_15_44 ?_
  refine z_aload0 gi_15_45 ?_
  refine z_getR (r := 32) gi_15_46 gk_29 (hR _ rm_29_3) ?_
  refine z_pushJ gp_15_49 ?_
  refine z_aload0 gi_15_50 ?_
  refine z_getI (v := 39) gi_15_51 gk_29 ((zC_n (by decide)).trans ((zC_n (by decide)).trans (zU_e))) ?_
  refine z_copyI gi_15_54 gk_32 gk_32 (by decide) (by decide) (by decide) (by decide) (by decide) (by decide) (by decide) (by decide) ?_
  refine z_aload0 gi_15_57 ?_
  refine z_getR (r := 33) gi_15_58 gk_29 (hR _ rm_29_4) ?_
  refine z_pushJ gp_15_61 ?_
  refine z_aload0 gi_15_62 ?_
  refine z_getR (r := 33) gi_15_63 gk_29 (hR _ rm_29_4) ?_
  refine z_pushJ gp_15_66 ?_
  refine z_aload0 gi_15_67 ?_
  refine z_getI (v := 39) gi_15_68 gk_29 ((zC_n (by decide)).trans ((zC_n (by decide)).trans ((zC_n (by decide)).trans (zU_e)))) ?_
  refine z_copyI gi_15_71 gk_33 gk_33 (by decide) (by decide) (by decide) (by decide) (by decide) (by decide) (by decide) (by decide) ?_
  refine z_vret gi_15_74 gr_15 ?_
  show zW _ _ _ _ _ _ _ _ _ _
  refine z_aload0 gi_14_13 ?_
  refine z_getR (r := 30) gi_14_14 gk_29 (hR _ rm_29_1) ?_
  refine z_aload0 gi_14_17 ?_
  refine z_getI (v := 39) gi_14_18 gk_29 ((zC_n (by decide)).trans ((zC_n (by decide)).trans ((zC_n (by decide)).trans ((zC_n (by decide)).trans (zU_e))))) ?_
  refine z_iload1 gi_14_21 ?_
  refine z_iast (e := p) gi_14_22 gk_30 (by decide) (by decide) rfl ?_
  refine z_aload0 gi_14_23 ?_
  refine z_getR (r := 31) gi_14_24 gk_29 (hR _ rm_29_2) ?_
  refine z_aload0 gi_14_27 ?_
  refine z_getI (v := 39) gi_14_28 gk_29 ((zU_n (by decide)).trans ((zC_n (by decide)).trans ((zC_n (by decide)).trans ((zC_n (by decide)).trans ((zC_n (by decide)).trans (zU_e)))))) ?_
  refine z_iload2 gi_14_31 ?_
  refine z_iast (e := w) gi_14_32 gk_31 (by decide) (by decide) rfl ?_
  refine z_aload0 gi_14_33 ?_
  refine z_getR (r := 32) gi_14_34 gk_29 (hR _ rm_29_3) ?_
  refine z_aload0 gi_14_37 ?_
  refine z_getI (v := 39) gi_14_38 gk_29 ((zU_n (by decide)).trans ((zU_n (by decide)).trans ((zC_n (by decide)).trans ((zC_n (by decide)).trans ((zC_n (by decide)).trans ((zC_n (by decide)).trans (zU_e))))))) ?_
  refine z_iload3 gi_14_41 ?_
  refine z_iast (e := (cN J) p w) gi_14_42 gk_32 (by decide) (by decide) rfl ?_
  refine z_aload0 gi_14_43 ?_
  refine z_getR (r := 33) gi_14_44 gk_29 (hR _ rm_29_4) ?_
  refine z_aload0 gi_14_47 ?_
  refine z_getI (v := 39) gi_14_48 gk_29 ((zU_n (by decide)).trans ((zU_n (by decide)).trans ((zU_n (by decide)).trans ((zC_n (by decide)).trans ((zC_n (by decide)).trans ((zC_n (by decide)).trans ((zC_n (by decide)).trans (zU_e)))))))) ?_
  refine z_iload4 gi_14_51 ?_
  refine z_iast (e := v) gi_14_53 gk_33 (by decide) (by decide) rfl ?_
  refine z_aload0 gi_14_54 ?_
  refine z_dup gi_14_55 rfl ?_
  refine z_getI (v := 39) gi_14_56 gk_29 ((zU_n (by decide)).trans ((zU_n (by decide)).trans ((zU_n (by decide)).trans ((zU_n (by decide)).trans ((zC_n (by decide)).trans ((zC_n (by decide)).trans ((zC_n (by decide)).trans ((zC_n (by decide)).trans (zU_e))))))))) ?_
  refine z_pushJ gp_14_59 ?_
  refine z_iadd (e := 40) gi_14_60 rfl ?_
  refine z_putI (y := 5) gi_14_61 rfl gk_29 ?_
  refine z_aload0 gi_14_64 ?_
  refine z_aload0 gi_14_65 ?_
  refine z_getI (v := 40) gi_14_66 gk_29 (zU_e) ?_
  refine z_putI (y := 6) gi_14_69 rfl gk_29 ?_
  refine z_vret gi_14_72 gr_14 ?_
  show zW _ _ _ _ _ _ _ _ _ _
  refine z_aload0 gi_104_51 ?_
  refine z_getR (r := 8) gi_104_52 gk_0 (hR _ rm_0_1) ?_
  refine z_iload1 gi_104_55 ?_
  refine z_iload2 gi_104_56 ?_
  refine z_iload3 gi_104_57 ?_
  refine z_callVx (As := [_, _, _]) gi_104_58 rfl gk_8 (Nat.le_of_ble_eq_true rfl) (Nat.le_of_ble_eq_true rfl) (tell_g (n := J 8 2) hR rfl yn hp hw (by omega)) ?_
  show zW _ _ _ _ _ _ _ _ _ _
  refine z_iload4 gi_104_61 ?_
  refine z_iret gi_104_63 gr_104 ?_
  refine ⟨_, rfl, ?_⟩
  show zW _ _ _ _ [some (.ref 50), some (zi p), some (zi w), some (zi v)] _ _ _ _ _
  refine z_aload0 gi_162_0 ?_
  refine z_iload1 gi_162_1 ?_
  refine z_iload2 gi_162_2 ?_
  refine z_callVP (As := [_, _]) (v := 1) gi_162_3 rfl gk_50 (Nat.le_of_ble_eq_true rfl) (Nat.le_of_ble_eq_true rfl) (isOne_1 hRr y2.symm yn hp hw hV) ?_
  refine z_if_eqF gi_162_6 zr_1 (by decide) ?_
  refine z_iload2 gi_162_9 ?_
  refine z_iload3 gi_162_10 ?_
  refine z_callSP (As := [_, _]) (v := 1) gi_162_11 rfl (Nat.le_of_ble_eq_true rfl) (Nat.le_of_ble_eq_true rfl) (mayBe_1 hv hw (by omega) hf) ?_
  refine z_if_eqF gi_162_14 zr_1 (by decide) ?_
  refine z_aload0 gi_162_17 ?_
  refine z_iload2 gi_162_18 ?_
  refine z_iload1 gi_162_19 ?_
  refine z_iload3 gi_162_20 ?_
  refine z_callVi (As := [_, _, _]) (le := [some _, some _, some _, some _, none, none]) gi_162_21 rfl gk_50 (Nat.le_of_ble_eq_true rfl) (Nat.le_of_ble_eq_true rfl) rfl ?_
  refine z_aload0 gi_157_0 ?_
  refine z_iload1 gi_157_1 ?_
  refine z_iload2 gi_157_2 ?_
  refine z_callVP (As := [_, _]) (v := (cN J) p w) gi_157_3 rfl gk_50 (Nat.le_of_ble_eq_true rfl) (Nat.le_of_ble_eq_true rfl) (valueAt_s hRr ((rN_z (zK_x (a := 9) (x := 40 + w) (v := v) (zK_x (a := 29) (x := 6) (v := 40) (zK_x (a := 29) (x := 5) (v := 40) (zK_x (a := 33) (x := 39) (v := v) (zK_x (a := 32) (x := 39) (v := (cN J) p w) (zK_x (a := 31) (x := 39) (v := w) (zK_x (a := 30) (x := 39) (v := p) (zK_c (a := 33) (b := 33) (sp := 1) (dp := 0) (n := 39) (zK_c (a := 32) (b := 32) (sp := 1) (dp := 0) (n := 39) (zK_c (a := 31) (b := 31) (sp := 1) (dp := 0) (n := 39) (zK_c (a := 30) (b := 30) (sp := 1) (dp := 0) (n := 39) (zK_x (a := 29) (x := 5) (v := 39) (zK_r (k := kHi) (A := J)) rfl) (fun _ => rfl)) (fun _ => rfl)) (fun _ => rfl)) (fun _ => rfl)) rfl) rfl) rfl) rfl) rfl) rfl) rfl)).trans y1.symm) y2.symm y3 hp hw hV) ?_
  refine z_istore (ls1 := [some (.ref 50), some (zi w), some (zi p), some (zi v), some (zi ((cN J) p w)), none]) gi_157_6 rfl ?_
  refine z_iload4 gi_157_8 ?_
  refine z_iload3 gi_157_10 ?_
  refine z_icmp_neT gi_157_11 (by omega) (by omega) (by omega) ?_
  refine z_aload0 gi_157_17 ?_
  refine z_pushJ gp_157_18 ?_
  refine z_putI (y := 9) gi_157_19 rfl gk_50 ?_
  refine z_aload0 gi_157_22 ?_
  refine z_getI (v := 40) gi_157_23 gk_50 ((zU_x (by decide)).trans ((zU_n (by decide)).trans ((zU_n (by decide)).trans ((zU_n (by decide)).trans ((zU_n (by decide)).trans ((zU_n (by decide)).trans ((zU_n (by decide)).trans ((zU_n (by decide)).trans ((zC_n (by decide)).trans ((zC_n (by decide)).trans ((zC_n (by decide)).trans ((zC_n (by decide)).trans ((zU_n (by decide)).trans (c1.symm.trans h40)))))))))))))) ?_
  refine z_pushJ gp_157_26 ?_
  refine z_icmp_neF gi_157_28 zr_40 zr_40 (by decide) ?_
  refine z_pushJ gp_157_31 ?_
  refine z_istore (ls1 := [some (.ref 50), some (zi w), some (zi p), some (zi v), some (zi ((cN J) p w)), some (zi 1)]) gi_157_32 rfl ?_
  show zW _ _ _ _ [some (.ref 50), some (zi w), some (zi p), some (zi v), some (zi ((cN J) p w)), some (zi 1)] [] _ _ _ _
  refine zC4_in ?_
  refine shift40_z hRr 39 0 (by decide) (by decide) ?_
  refine z_aload0 gi_157_111 ?_
  refine z_dup gi_157_112 rfl ?_
  refine z_getI (v := 40) gi_157_113 gk_50 ((zC_n (by decide)).trans ((zC_n (by decide)).trans ((zC_n (by decide)).trans ((zC_n (by decide)).trans ((zU_x (by decide)).trans ((zU_n (by decide)).trans ((zU_n (by decide)).trans ((zU_n (by decide)).trans ((zU_n (by decide)).trans ((zU_n (by decide)).trans ((zU_n (by decide)).trans ((zU_n (by decide)).trans ((zC_n (by decide)).trans ((zC_n (by decide)).trans ((zC_n (by decide)).trans ((zC_n (by decide)).trans ((zU_n (by decide)).trans (c1.symm.trans h40)))))))))))))))))) ?_
  refine z_pushJ gp_157_116 ?_
  refine z_isub (e := 39) gi_157_117 rfl ?_
  refine z_putI (y := 8) gi_157_118 rfl gk_50 ?_
  refine z_aload0 gi_157_121 ?_
  refine z_getR (r := 57) gi_157_122 gk_50 (hRr _ rm_50_10 (by decide)) ?_
  refine z_aload0 gi_157_125 ?_
  refine z_getI (v := 39) gi_157_126 gk_50 (zU_e) ?_
  refine z_iload1 gi_157_129 ?_
  refine z_iast (e := w) gi_157_130 gk_57 (by decide) (by decide) rfl ?_
  refine z_aload0 gi_157_131 ?_
  refine z_getR (r := 58) gi_157_132 gk_50 (hRr _ rm_50_11 (by decide)) ?_
  refine z_aload0 gi_157_135 ?_
  refine z_getI (v := 39) gi_157_136 gk_50 ((zU_n (by decide)).trans (zU_e)) ?_
  refine z_iload2 gi_157_139 ?_
  refine z_iast (e := p) gi_157_140 gk_58 (by decide) (by decide) rfl ?_
  refine z_aload0 gi_157_141 ?_
  refine z_getR (r := 59) gi_157_142 gk_50 (hRr _ rm_50_12 (by decide)) ?_
  refine z_aload0 gi_157_145 ?_
  refine z_getI (v := 39) gi_157_146 gk_50 ((zU_n (by decide)).trans ((zU_n (by decide)).trans (zU_e))) ?_
  refine z_iload4 gi_157_149 ?_
  refine z_iast (e := (cN J) p w) gi_157_151 gk_59 (by decide) (by decide) rfl ?_
  refine z_aload0 gi_157_152 ?_
  refine z_getR (r := 60) gi_157_153 gk_50 (hRr _ rm_50_13 (by decide)) ?_
  refine z_aload0 gi_157_156 ?_
  refine z_getI (v := 39) gi_157_157 gk_50 ((zU_n (by decide)).trans ((zU_n (by decide)).trans ((zU_n (by decide)).trans (zU_e)))) ?_
  refine z_iload3 gi_157_160 ?_
  refine z_iast (e := v) gi_157_161 gk_60 (by decide) (by decide) rfl ?_
  refine z_aload0 gi_157_162 ?_
  refine z_dup gi_157_163 rfl ?_
  refine z_getI (v := 39) gi_157_164 gk_50 ((zU_n (by decide)).trans ((zU_n (by decide)).trans ((zU_n (by decide)).trans ((zU_n (by decide)).trans (zU_e))))) ?_
  refine z_pushJ gp_157_167 ?_
  refine z_iadd (e := 40) gi_157_168 rfl ?_
  refine z_putI (y := 8) gi_157_169 rfl gk_50 ?_
  refine z_aload0 gi_157_172 ?_
  refine z_iload1 gi_157_173 ?_
  refine z_iload2 gi_157_174 ?_
  refine z_iload3 gi_157_175 ?_
  refine z_callVx (As := [_, _, _]) gi_157_176 rfl gk_50 (Nat.le_of_ble_eq_true rfl) (Nat.le_of_ble_eq_true rfl) (lays_g (n := J 8 2) hRr y2.symm yn hp hw (by omega)) ?_
  show zW _ _ _ _ _ _ _ _ _ _
  refine z_iload4 gi_157_179 ?_
  refine z_iret gi_157_181 gr_157 ?_
  show zW _ _ _ _ _ _ _ _ _ _
  refine z_goto gi_162_24 ?_
  refine z_iret gi_162_28 gr_162 ?_
  refine ⟨?_, ?_⟩
  · first | rfl | exact congrArg (fun v => some (zi v)) (by omega) | (exfalso; omega)
  · have hs := (zK_u (a := 56) (x := w - 5) (v := v) (zK_x (a := 50) (x := 8) (v := 40) (zK_x (a := 60) (x := 39) (v := v) (zK_x (a := 59) (x := 39) (v := (cN J) p w) (zK_x (a := 58) (x := 39) (v := p) (zK_x (a := 57) (x := 39) (v := w) (zK_x (a := 50) (x := 8) (v := 39) (zK_c (a := 60) (b := 60) (sp := 1) (dp := 0) (n := 39) (zK_c (a := 59) (b := 59) (sp := 1) (dp := 0) (n := 39) (zK_c (a := 58) (b := 58) (sp := 1) (dp := 0) (n := 39) (zK_c (a := 57) (b := 57) (sp := 1) (dp := 0) (n := 39) (zK_x (a := 50) (x := 9) (v := 0) (zK_u (a := 9) (x := 40 + w) (v := v) (zK_x (a := 29) (x := 6) (v := 40) (zK_x (a := 29) (x := 5) (v := 40) (zK_x (a := 33) (x := 39) (v := v) (zK_x (a := 32) (x := 39) (v := (cN J) p w) (zK_x (a := 31) (x := 39) (v := w) (zK_x (a := 30) (x := 39) (v := p) (zK_c (a := 33) (b := 33) (sp := 1) (dp := 0) (n := 39) (zK_c (a := 32) (b := 32) (sp := 1) (dp := 0) (n := 39) (zK_c (a := 31) (b := 31) (sp := 1) (dp := 0) (n := 39) (zK_c (a := 30) (b := 30) (sp := 1) (dp := 0) (n := 39) (zK_x (a := 29) (x := 5) (v := 39) (zK_r (k := (kL [30, 31, 32, 33, 57, 58, 59, 60] [(29, 5), (30, 39), (31, 39), (32, 39), (33, 39), (29, 6), (50, 9), (50, 8), (57, 39), (58, 39), (59, 39), (60, 39)])) (A := J)) rfl) (fun _ => rfl)) (fun _ => rfl)) (fun _ => rfl)) (fun _ => rfl)) rfl) rfl) rfl) rfl) rfl) rfl)) rfl) (fun _ => rfl)) (fun _ => rfl)) (fun _ => rfl)) (fun _ => rfl)) rfl) rfl) rfl) rfl) rfl) rfl))
    have hY2 := RelY_k hs (by repeat' constructor) (fun p => by repeat' constructor) (RelY_g (w := w) hY (by omega) hf2 (by omega) (by omega))
    have hok : zOkc (J 8 2) p w ((cN J) p w) v := ⟨hV, nf, hf2⟩
    have hk := (zK_x (a := 56) (x := w - 5) (v := v) (zK_x (a := 50) (x := 8) (v := 40) (zK_x (a := 60) (x := 39) (v := v) (zK_x (a := 59) (x := 39) (v := (cN J) p w) (zK_x (a := 58) (x := 39) (v := p) (zK_x (a := 57) (x := 39) (v := w) (zK_x (a := 50) (x := 8) (v := 39) (zK_c (a := 60) (b := 60) (sp := 1) (dp := 0) (n := 39) (zK_c (a := 59) (b := 59) (sp := 1) (dp := 0) (n := 39) (zK_c (a := 58) (b := 58) (sp := 1) (dp := 0) (n := 39) (zK_c (a := 57) (b := 57) (sp := 1) (dp := 0) (n := 39) (zK_x (a := 50) (x := 9) (v := 0) (zK_x (a := 9) (x := 40 + w) (v := v) (zK_x (a := 29) (x := 6) (v := 40) (zK_x (a := 29) (x := 5) (v := 40) (zK_x (a := 33) (x := 39) (v := v) (zK_x (a := 32) (x := 39) (v := (cN J) p w) (zK_x (a := 31) (x := 39) (v := w) (zK_x (a := 30) (x := 39) (v := p) (zK_c (a := 33) (b := 33) (sp := 1) (dp := 0) (n := 39) (zK_c (a := 32) (b := 32) (sp := 1) (dp := 0) (n := 39) (zK_c (a := 31) (b := 31) (sp := 1) (dp := 0) (n := 39) (zK_c (a := 30) (b := 30) (sp := 1) (dp := 0) (n := 39) (zK_x (a := 29) (x := 5) (v := 39) (zK_r (k := (kL [30, 31, 32, 33, 9, 57, 58, 59, 60, 56] [(29, 5), (30, 39), (31, 39), (32, 39), (33, 39), (29, 6), (50, 9), (50, 8), (57, 39), (58, 39), (59, 39), (60, 39)])) (A := J)) rfl) (fun _ => rfl)) (fun _ => rfl)) (fun _ => rfl)) (fun _ => rfl)) rfl) rfl) rfl) rfl) rfl) rfl) rfl) rfl) (fun _ => rfl)) (fun _ => rfl)) (fun _ => rfl)) (fun _ => rfl)) rfl) rfl) rfl) rfl) rfl) rfl) rfl)
    exact ⟨hR, hG, hY2, RelD_k hk (by repeat' constructor) (fun p => by repeat' constructor) hD, RelP_k hk (by repeat' constructor) (fun p => by repeat' constructor) hP, (RelC_mk (K := J) (d := 39) (o := 1) rfl rfl rfl rfl (by decide) (by decide) rfl rfl hC (by omega) (fun i i1 i2 => ⟨⟨(zU_n (by decide)).trans ((zU_n (by decide)).trans ((zU_n (by decide)).trans ((zU_n (by decide)).trans ((zU_n (by decide)).trans ((zU_n (by decide)).trans ((zU_n (by decide)).trans ((zC_n (by decide)).trans ((zC_n (by decide)).trans ((zC_n (by decide)).trans ((zC_n (by decide)).trans ((zU_n (by decide)).trans ((zU_n (by decide)).trans ((zU_n (by decide)).trans ((zU_n (by decide)).trans ((zU_n (by decide)).trans ((zU_n (by decide)).trans ((zU_n (by decide)).trans ((zU_x (by omega)).trans ((zC_n (by decide)).trans ((zC_n (by decide)).trans ((zC_n (by decide)).trans ((zC_sh (by omega)).trans ((zU_n (by decide)).trans (rfl)))))))))))))))))))))))), (zU_n (by decide)).trans ((zU_n (by decide)).trans ((zU_n (by decide)).trans ((zU_n (by decide)).trans ((zU_n (by decide)).trans ((zU_n (by decide)).trans ((zU_n (by decide)).trans ((zC_n (by decide)).trans ((zC_n (by decide)).trans ((zC_n (by decide)).trans ((zC_n (by decide)).trans ((zU_n (by decide)).trans ((zU_n (by decide)).trans ((zU_n (by decide)).trans ((zU_n (by decide)).trans ((zU_n (by decide)).trans ((zU_n (by decide)).trans ((zU_x (by omega)).trans ((zU_n (by decide)).trans ((zC_n (by decide)).trans ((zC_n (by decide)).trans ((zC_sh (by omega)).trans ((zC_n (by decide)).trans ((zU_n (by decide)).trans (rfl)))))))))))))))))))))))), (zU_n (by decide)).trans ((zU_n (by decide)).trans ((zU_n (by decide)).trans ((zU_n (by decide)).trans ((zU_n (by decide)).trans ((zU_n (by decide)).trans ((zU_n (by decide)).trans ((zC_n (by decide)).trans ((zC_n (by decide)).trans ((zC_n (by decide)).trans ((zC_n (by decide)).trans ((zU_n (by decide)).trans ((zU_n (by decide)).trans ((zU_n (by decide)).trans ((zU_n (by decide)).trans ((zU_n (by decide)).trans ((zU_x (by omega)).trans ((zU_n (by decide)).trans ((zU_n (by decide)).trans ((zC_n (by decide)).trans ((zC_sh (by omega)).trans ((zC_n (by decide)).trans ((zC_n (by decide)).trans ((zU_n (by decide)).trans (rfl)))))))))))))))))))))))), (zU_n (by decide)).trans ((zU_n (by decide)).trans ((zU_n (by decide)).trans ((zU_n (by decide)).trans ((zU_n (by decide)).trans ((zU_n (by decide)).trans ((zU_n (by decide)).trans ((zC_n (by decide)).trans ((zC_n (by decide)).trans ((zC_n (by decide)).trans ((zC_n (by decide)).trans ((zU_n (by decide)).trans ((zU_n (by decide)).trans ((zU_n (by decide)).trans ((zU_n (by decide)).trans ((zU_x (by omega)).trans ((zU_n (by decide)).trans ((zU_n (by decide)).trans ((zU_n (by decide)).trans ((zC_sh (by omega)).trans ((zC_n (by decide)).trans ((zC_n (by decide)).trans ((zC_n (by decide)).trans ((zU_n (by decide)).trans (rfl))))))))))))))))))))))))⟩, ⟨(zU_n (by decide)).trans ((zU_n (by decide)).trans ((zU_n (by decide)).trans ((zU_n (by decide)).trans ((zU_x (by omega)).trans ((zU_n (by decide)).trans ((zU_n (by decide)).trans ((zC_n (by decide)).trans ((zC_n (by decide)).trans ((zC_sh (by omega)).trans ((zC_n (by decide)).trans ((zU_n (by decide)).trans ((zU_n (by decide)).trans ((zU_n (by decide)).trans ((zU_n (by decide)).trans ((zU_n (by decide)).trans ((zU_n (by decide)).trans ((zU_n (by decide)).trans ((zU_n (by decide)).trans ((zC_n (by decide)).trans ((zC_n (by decide)).trans ((zC_n (by decide)).trans ((zC_n (by decide)).trans ((zU_n (by decide)).trans (rfl)))))))))))))))))))))))), (zU_n (by decide)).trans ((zU_n (by decide)).trans ((zU_n (by decide)).trans ((zU_n (by decide)).trans ((zU_n (by decide)).trans ((zU_x (by omega)).trans ((zU_n (by decide)).trans ((zC_n (by decide)).trans ((zC_n (by decide)).trans ((zC_n (by decide)).trans ((zC_sh (by omega)).trans ((zU_n (by decide)).trans ((zU_n (by decide)).trans ((zU_n (by decide)).trans ((zU_n (by decide)).trans ((zU_n (by decide)).trans ((zU_n (by decide)).trans ((zU_n (by decide)).trans ((zU_n (by decide)).trans ((zC_n (by decide)).trans ((zC_n (by decide)).trans ((zC_n (by decide)).trans ((zC_n (by decide)).trans ((zU_n (by decide)).trans (rfl)))))))))))))))))))))))), (zU_n (by decide)).trans ((zU_n (by decide)).trans ((zU_n (by decide)).trans ((zU_x (by omega)).trans ((zU_n (by decide)).trans ((zU_n (by decide)).trans ((zU_n (by decide)).trans ((zC_n (by decide)).trans ((zC_sh (by omega)).trans ((zC_n (by decide)).trans ((zC_n (by decide)).trans ((zU_n (by decide)).trans ((zU_n (by decide)).trans ((zU_n (by decide)).trans ((zU_n (by decide)).trans ((zU_n (by decide)).trans ((zU_n (by decide)).trans ((zU_n (by decide)).trans ((zU_n (by decide)).trans ((zC_n (by decide)).trans ((zC_n (by decide)).trans ((zC_n (by decide)).trans ((zC_n (by decide)).trans ((zU_n (by decide)).trans (rfl)))))))))))))))))))))))), (zU_n (by decide)).trans ((zU_n (by decide)).trans ((zU_x (by omega)).trans ((zU_n (by decide)).trans ((zU_n (by decide)).trans ((zU_n (by decide)).trans ((zU_n (by decide)).trans ((zC_sh (by omega)).trans ((zC_n (by decide)).trans ((zC_n (by decide)).trans ((zC_n (by decide)).trans ((zU_n (by decide)).trans ((zU_n (by decide)).trans ((zU_n (by decide)).trans ((zU_n (by decide)).trans ((zU_n (by decide)).trans ((zU_n (by decide)).trans ((zU_n (by decide)).trans ((zU_n (by decide)).trans ((zC_n (by decide)).trans ((zC_n (by decide)).trans ((zC_n (by decide)).trans ((zC_n (by decide)).trans ((zU_n (by decide)).trans (rfl))))))))))))))))))))))))⟩⟩) ((zU_n (by decide)).trans ((zU_n (by decide)).trans ((zU_n (by decide)).trans ((zU_n (by decide)).trans ((zU_n (by decide)).trans ((zU_n (by decide)).trans ((zU_n (by decide)).trans ((zC_n (by decide)).trans ((zC_n (by decide)).trans ((zC_n (by decide)).trans ((zC_n (by decide)).trans ((zU_n (by decide)).trans ((zU_n (by decide)).trans ((zU_n (by decide)).trans ((zU_n (by decide)).trans ((zU_n (by decide)).trans ((zU_n (by decide)).trans ((zU_n (by decide)).trans (zU_e))))))))))))))))))) ((zU_n (by decide)).trans ((zU_n (by decide)).trans ((zU_n (by decide)).trans ((zU_n (by decide)).trans ((zU_n (by decide)).trans ((zU_n (by decide)).trans ((zU_n (by decide)).trans ((zC_n (by decide)).trans ((zC_n (by decide)).trans ((zC_n (by decide)).trans ((zC_n (by decide)).trans ((zU_n (by decide)).trans ((zU_n (by decide)).trans ((zU_n (by decide)).trans ((zU_n (by decide)).trans ((zU_n (by decide)).trans ((zU_n (by decide)).trans (zU_e)))))))))))))))))) ((zU_n (by decide)).trans ((zU_n (by decide)).trans ((zU_n (by decide)).trans ((zU_n (by decide)).trans ((zU_n (by decide)).trans ((zU_n (by decide)).trans ((zU_n (by decide)).trans ((zC_n (by decide)).trans ((zC_n (by decide)).trans ((zC_n (by decide)).trans ((zC_n (by decide)).trans ((zU_n (by decide)).trans ((zU_n (by decide)).trans ((zU_n (by decide)).trans ((zU_n (by decide)).trans ((zU_n (by decide)).trans (zU_e))))))))))))))))) ((zU_n (by decide)).trans ((zU_n (by decide)).trans ((zU_n (by decide)).trans ((zU_n (by decide)).trans ((zU_n (by decide)).trans ((zU_n (by decide)).trans ((zU_n (by decide)).trans ((zC_n (by decide)).trans ((zC_n (by decide)).trans ((zC_n (by decide)).trans ((zC_n (by decide)).trans ((zU_n (by decide)).trans ((zU_n (by decide)).trans ((zU_n (by decide)).trans ((zU_n (by decide)).trans (zU_e)))))))))))))))) ((zU_n (by decide)).trans ((zU_n (by decide)).trans ((zU_n (by decide)).trans ((zU_n (by decide)).trans (zU_e))))) ((zU_n (by decide)).trans ((zU_n (by decide)).trans ((zU_n (by decide)).trans ((zU_n (by decide)).trans ((zU_n (by decide)).trans (zU_e)))))) ((zU_n (by decide)).trans ((zU_n (by decide)).trans ((zU_n (by decide)).trans (zU_e)))) ((zU_n (by decide)).trans ((zU_n (by decide)).trans (zU_e))) hok), RelA_k hk (by repeat' constructor) (fun p => by repeat' constructor) hAc, RelS_k hk (zK_r (k := kM)) (fun x j a b => ⟨kL_38 (by decide) (by decide) x j a b, kM_38 x j a b⟩) (fun p => ⟨rfl, rfl, rfl⟩) rfl hS, RelT_k hk (by repeat' constructor) (fun p => by repeat' constructor) hTp, RelX_k hk (by repeat' constructor) (fun p => by repeat' constructor) hX, RelW_k hk ⟨rfl, rfl⟩ trivial hW⟩
theorem st_mend4_p1 {X : Nat × (Nat → Int32)} {d : Nat} {J M : zA} {R : zR} {p v : Int} (hr : Rel X J M R) (hp : -2147483648 ≤ p ∧ p < 2147483648) (hv : -2147483648 ≤ v ∧ v < 2147483648) (hV : zV (J 8 2) p (1)) (hf : zT 2 (1) ≤ v ∧ v ≤ zT 3 (1)) (he : ¬ (cN J) p (1) = v) (h40 : J 29 5 = 40) : zW X (d + 20) 104 0 (gEn 104 [(.ref 0), (zi p), (zi 1), (zi v)]) [] J M R (stP X (d + 20) 162 [(zi p), (zi 1), (zi v)]) := by
  have hr0 := hr
  obtain ⟨hR, hG, hY, hD, hP, hC, hAc, hS, hTp, hX, hW⟩ := hr0
  have hRr : zRoR R := zRoR_of hR
  have hY0 := hY
  obtain ⟨y1, y2, y3⟩ := hY0
  have yn := zNn y3
  have hC0 := hC
  obtain ⟨c1, c2, c3, c4, c5, c6⟩ := hC0
  have nr := zN_r y3 hV
  have nf := zN_fit y3 hV
  have hf2 : zFit (1) v := hf
  show zW _ _ _ _ [some (.ref 0), some (zi p), some (zi 1), some (zi v), none] _ _ _ _ _
  refine z_aload0 gi_104_0 ?_
  refine z_getR (r := 8) gi_104_1 gk_0 (hR _ rm_0_1) ?_
  refine z_iload1 gi_104_4 ?_
  refine z_iload2 gi_104_5 ?_
  refine z_callVP (As := [_, _]) (v := 1) gi_104_6 rfl gk_8 (Nat.le_of_ble_eq_true rfl) (Nat.le_of_ble_eq_true rfl) (isNumber_1 hR rfl yn hp (by decide) hV) ?_
  refine z_if_eqF gi_104_9 zr_1 (by decide) ?_
  refine z_iload2 gi_104_12 ?_
  refine z_iload3 gi_104_13 ?_
  refine z_callSP (As := [_, _]) (v := 1) gi_104_14 rfl (Nat.le_of_ble_eq_true rfl) (Nat.le_of_ble_eq_true rfl) (isFit_1 hv (by decide) (by omega) hf) ?_
  refine z_if_neT gi_104_17 zr_1 (by decide) ?_
  refine z_aload0 gi_104_22 ?_
  refine z_getR (r := 8) gi_104_23 gk_0 (hR _ rm_0_1) ?_
  refine z_iload1 gi_104_26 ?_
  refine z_iload2 gi_104_27 ?_
  refine z_callVP (As := [_, _]) (v := (cN J) p (1)) gi_104_28 rfl gk_8 (Nat.le_of_ble_eq_true rfl) (Nat.le_of_ble_eq_true rfl) (told_k hR zK_r rfl rfl y3 hp (by decide)) ?_
  refine z_istore (ls1 := [some (.ref 0), some (zi p), some (zi 1), some (zi v), some (zi ((cN J) p (1)))]) gi_104_31 rfl ?_
  refine z_iload4 gi_104_33 ?_
  refine z_iload3 gi_104_35 ?_
  refine z_icmp_eqF gi_104_36 (by omega) (by omega) (by omega) ?_
  refine z_aload0 gi_104_39 ?_
  refine z_getR (r := 29) gi_104_40 gk_0 (hR _ rm_0_9) ?_
  refine z_iload1 gi_104_43 ?_
  refine z_iload2 gi_104_44 ?_
  refine z_iload4 gi_104_45 ?_
  refine z_iload3 gi_104_47 ?_
  refine z_cV4 gi_104_48 gk_29 go_14 (Nat.le_of_ble_eq_true rfl) gc_14_RIIII ?_
  refine z_aload0 gi_14_0 ?_
  refine z_getI (v := 40) gi_14_1 gk_29 (h40) ?_
  refine z_pushJ gp_14_4 ?_
  refine z_icmp_ltF gi_14_6 zr_40 zr_40 (by decide) ?_
  refine z_aload0 gi_14_9 ?_
  refine z_cV0 gi_14_10 gk_29 go_15 (Nat.le_of_ble_eq_true rfl) gc_15_R ?_
  refine z_aload0 gi_15_0 ?_
  refine z_pushJ gp_15_1 ?_
  refine z_putI (y := 5) gi_15_3 rfl gk_29 ?_
  refine z_aload0 gi_15_6 ?_
  refine z_getR (r := 30) gi_15_7 gk_29 (hR _ rm_29_1) ?_
  refine z_pushJ gp_15_10 ?_
  refine z_aload0 gi_15_11 ?_
  refine z_getR (r := 30) gi_15_12 gk_29 (hR _ rm_29_1) ?_
  refine z_pushJ gp_15_15 ?_
  refine z_aload0 gi_15_16 ?_
  refine z_getI (v := 39) gi_15_17 gk_29 (zU_e) ?_
  refine z_copyI gi_15_20 gk_30 gk_30 (by decide) (by decide) (by decide) (by decide) (by decide) (by decide) (by decide) (by decide) ?_
  refine z_aload0 gi_15_23 ?_
  refine z_getR (r := 31) gi_15_24 gk_29 (hR _ rm_29_2) ?_
  refine z_pushJ gp_15_27 ?_
  refine z_aload0 gi_15_28 ?_
  refine z_getR (r := 31) gi_15_29 gk_29 (hR _ rm_29_2) ?_
  refine z_pushJ gp_15_32 ?_
  refine z_aload0 gi_15_33 ?_
  refine z_getI (v := 39) gi_15_34 gk_29 ((zC_n (by decide)).trans (zU_e)) ?_
  refine z_copyI gi_15_37 gk_31 gk_31 (by decide) (by decide) (by decide) (by decide) (by decide) (by decide) (by decide) (by decide) ?_
  refine z_aload0 gi_15_40 ?_
  refine z_getR (r := 32) gi_15_41 gk_29 (hR _ rm_29_3) ?_
  refine z_pushJ gp_15_44 ?_
  refine z_aload0 gi_15_45 ?_
  refine z_getR (r := 32) gi_15_46 gk_29 (hR _ rm_29_3) ?_
  refine z_pushJ gp_15_49 ?_
  refine z_aload0 gi_15_50 ?_
  refine z_getI (v := 39) gi_15_51 gk_29 ((zC_n (by decide)).trans ((zC_n (by decide)).trans (zU_e))) ?_
  refine z_copyI gi_15_54 gk_32 gk_32 (by decide) (by decide) (by decide) (by decide) (by decide) (by decide) (by decide) (by decide) ?_
  refine z_aload0 gi_15_57 ?_
  refine z_getR (r := 33) gi_15_58 gk_29 (hR _ rm_29_4) ?_
  refine z_pushJ gp_15_61 ?_
  refine z_aload0 gi_15_62 ?_
  refine z_getR (r := 33) gi_15_63 gk_29 (hR _ rm_29_4) ?_
  refine z_pushJ gp_15_66 ?_
  refine z_aload0 gi_15_67 ?_
  refine z_getI (v := 39) gi_15_68 gk_29 ((zC_n (by decide)).trans ((zC_n (by decide)).trans ((zC_n (by decide)).trans (zU_e)))) ?_
  refine z_copyI gi_15_71 gk_33 gk_33 (by decide) (by decide) (by decide) (by decide) (by decide) (by decide) (by decide) (by decide) ?_
  refine z_vret gi_15_74 gr_15 ?_
  show zW _ _ _ _ _ _ _ _ _ _
  refine z_aload0 gi_14_13 ?_
  refine z_getR (r := 30) gi_14_14 gk_29 (hR _ rm_29_1) ?_
  refine z_aload0 gi_14_17 ?_
  refine z_getI (v := 39) gi_14_18 gk_29 ((zC_n (by decide)).trans ((zC_n (by decide)).trans ((zC_n (by decide)).trans ((zC_n (by decide)).trans (zU_e))))) ?_
  refine z_iload1 gi_14_21 ?_
  refine z_iast (e := p) gi_14_22 gk_30 (by decide) (by decide) rfl ?_
  refine z_aload0 gi_14_23 ?_
  refine z_getR (r := 31) gi_14_24 gk_29 (hR _ rm_29_2) ?_
  refine z_aload0 gi_14_27 ?_
  refine z_getI (v := 39) gi_14_28 gk_29 ((zU_n (by decide)).trans ((zC_n (by decide)).trans ((zC_n (by decide)).trans ((zC_n (by decide)).trans ((zC_n (by decide)).trans (zU_e)))))) ?_
  refine z_iload2 gi_14_31 ?_
  refine z_iast (e := 1) gi_14_32 gk_31 (by decide) (by decide) rfl ?_
  refine z_aload0 gi_14_33 ?_
  refine z_getR (r := 32) gi_14_34 gk_29 (hR _ rm_29_3) ?_
  refine z_aload0 gi_14_37 ?_
  refine z_getI (v := 39) gi_14_38 gk_29 ((zU_n (by decide)).trans ((zU_n (by decide)).trans ((zC_n (by decide)).trans ((zC_n (by decide)).trans ((zC_n (by decide)).trans ((zC_n (by decide)).trans (zU_e))))))) ?_
  refine z_iload3 gi_14_41 ?_
  refine z_iast (e := (cN J) p (1)) gi_14_42 gk_32 (by decide) (by decide) rfl ?_
  refine z_aload0 gi_14_43 ?_
  refine z_getR (r := 33) gi_14_44 gk_29 (hR _ rm_29_4) ?_
  refine z_aload0 gi_14_47 ?_
  refine z_getI (v := 39) gi_14_48 gk_29 ((zU_n (by decide)).trans ((zU_n (by decide)).trans ((zU_n (by decide)).trans ((zC_n (by decide)).trans ((zC_n (by decide)).trans ((zC_n (by decide)).trans ((zC_n (by decide)).trans (zU_e)))))))) ?_
  refine z_iload4 gi_14_51 ?_
  refine z_iast (e := v) gi_14_53 gk_33 (by decide) (by decide) rfl ?_
  refine z_aload0 gi_14_54 ?_
  refine z_dup gi_14_55 rfl ?_
  refine z_getI (v := 39) gi_14_56 gk_29 ((zU_n (by decide)).trans ((zU_n (by decide)).trans ((zU_n (by decide)).trans ((zU_n (by decide)).trans ((zC_n (by decide)).trans ((zC_n (by decide)).trans ((zC_n (by decide)).trans ((zC_n (by decide)).trans (zU_e))))))))) ?_
  refine z_pushJ gp_14_59 ?_
  refine z_iadd (e := 40) gi_14_60 rfl ?_
  refine z_putI (y := 5) gi_14_61 rfl gk_29 ?_
  refine z_aload0 gi_14_64 ?_
  refine z_aload0 gi_14_65 ?_
  refine z_getI (v := 40) gi_14_66 gk_29 (zU_e) ?_
  refine z_putI (y := 6) gi_14_69 rfl gk_29 ?_
  refine z_vret gi_14_72 gr_14 ?_
  show zW _ _ _ _ _ _ _ _ _ _
  refine z_aload0 gi_104_51 ?_
  refine z_getR (r := 8) gi_104_52 gk_0 (hR _ rm_0_1) ?_
  refine z_iload1 gi_104_55 ?_
  refine z_iload2 gi_104_56 ?_
  refine z_iload3 gi_104_57 ?_
  refine z_callVx (As := [_, _, _]) gi_104_58 rfl gk_8 (Nat.le_of_ble_eq_true rfl) (Nat.le_of_ble_eq_true rfl) (tell_p (n := J 8 2) hR rfl yn hp (by decide) (by omega)) ?_
  show zW _ _ _ _ _ _ _ _ _ _
  refine z_iload4 gi_104_61 ?_
  refine z_iret gi_104_63 gr_104 ?_
  refine ⟨_, rfl, ?_⟩
  show zW _ _ _ _ [some (.ref 50), some (zi p), some (zi 1), some (zi v)] _ _ _ _ _
  refine z_aload0 gi_162_0 ?_
  refine z_iload1 gi_162_1 ?_
  refine z_iload2 gi_162_2 ?_
  refine z_callVP (As := [_, _]) (v := 1) gi_162_3 rfl gk_50 (Nat.le_of_ble_eq_true rfl) (Nat.le_of_ble_eq_true rfl) (isOne_1 hRr y2.symm yn hp (by decide) hV) ?_
  refine z_if_eqF gi_162_6 zr_1 (by decide) ?_
  refine z_iload2 gi_162_9 ?_
  refine z_iload3 gi_162_10 ?_
  refine z_callSP (As := [_, _]) (v := 1) gi_162_11 rfl (Nat.le_of_ble_eq_true rfl) (Nat.le_of_ble_eq_true rfl) (mayBe_1 hv (by decide) (by omega) hf) ?_
  refine z_if_eqF gi_162_14 zr_1 (by decide) ?_
  refine z_aload0 gi_162_17 ?_
  refine z_iload2 gi_162_18 ?_
  refine z_iload1 gi_162_19 ?_
  refine z_iload3 gi_162_20 ?_
  refine z_callVi (As := [_, _, _]) (le := [some _, some _, some _, some _, none, none]) gi_162_21 rfl gk_50 (Nat.le_of_ble_eq_true rfl) (Nat.le_of_ble_eq_true rfl) rfl ?_
  refine z_aload0 gi_157_0 ?_
  refine z_iload1 gi_157_1 ?_
  refine z_iload2 gi_157_2 ?_
  refine z_callVP (As := [_, _]) (v := (cN J) p (1)) gi_157_3 rfl gk_50 (Nat.le_of_ble_eq_true rfl) (Nat.le_of_ble_eq_true rfl) (valueAt_s hRr ((rN_z (zK_x (a := 9) (x := p * 5 + 1) (v := v) (zK_x (a := 29) (x := 6) (v := 40) (zK_x (a := 29) (x := 5) (v := 40) (zK_x (a := 33) (x := 39) (v := v) (zK_x (a := 32) (x := 39) (v := (cN J) p (1)) (zK_x (a := 31) (x := 39) (v := 1) (zK_x (a := 30) (x := 39) (v := p) (zK_c (a := 33) (b := 33) (sp := 1) (dp := 0) (n := 39) (zK_c (a := 32) (b := 32) (sp := 1) (dp := 0) (n := 39) (zK_c (a := 31) (b := 31) (sp := 1) (dp := 0) (n := 39) (zK_c (a := 30) (b := 30) (sp := 1) (dp := 0) (n := 39) (zK_x (a := 29) (x := 5) (v := 39) (zK_r (k := kHi) (A := J)) rfl) (fun _ => rfl)) (fun _ => rfl)) (fun _ => rfl)) (fun _ => rfl)) rfl) rfl) rfl) rfl) rfl) rfl) rfl)).trans y1.symm) y2.symm y3 hp (by decide) hV) ?_
  refine z_istore (ls1 := [some (.ref 50), some (zi 1), some (zi p), some (zi v), some (zi ((cN J) p (1))), none]) gi_157_6 rfl ?_
  refine z_iload4 gi_157_8 ?_
  refine z_iload3 gi_157_10 ?_
  refine z_icmp_neT gi_157_11 (by omega) (by omega) (by omega) ?_
  refine z_aload0 gi_157_17 ?_
  refine z_pushJ gp_157_18 ?_
  refine z_putI (y := 9) gi_157_19 rfl gk_50 ?_
  refine z_aload0 gi_157_22 ?_
  refine z_getI (v := 40) gi_157_23 gk_50 ((zU_x (by decide)).trans ((zU_n (by decide)).trans ((zU_n (by decide)).trans ((zU_n (by decide)).trans ((zU_n (by decide)).trans ((zU_n (by decide)).trans ((zU_n (by decide)).trans ((zU_n (by decide)).trans ((zC_n (by decide)).trans ((zC_n (by decide)).trans ((zC_n (by decide)).trans ((zC_n (by decide)).trans ((zU_n (by decide)).trans (c1.symm.trans h40)))))))))))))) ?_
  refine z_pushJ gp_157_26 ?_
  refine z_icmp_neF gi_157_28 zr_40 zr_40 (by decide) ?_
  refine z_pushJ gp_157_31 ?_
  refine z_istore (ls1 := [some (.ref 50), some (zi 1), some (zi p), some (zi v), some (zi ((cN J) p (1))), some (zi 1)]) gi_157_32 rfl ?_
  show zW _ _ _ _ [some (.ref 50), some (zi 1), some (zi p), some (zi v), some (zi ((cN J) p (1))), some (zi 1)] [] _ _ _ _
  refine zC4_in ?_
  refine shift40_z hRr 39 0 (by decide) (by decide) ?_
  refine z_aload0 gi_157_111 ?_
  refine z_dup gi_157_112 rfl ?_
  refine z_getI (v := 40) gi_157_113 gk_50 ((zC_n (by decide)).trans ((zC_n (by decide)).trans ((zC_n (by decide)).trans ((zC_n (by decide)).trans ((zU_x (by decide)).trans ((zU_n (by decide)).trans ((zU_n (by decide)).trans ((zU_n (by decide)).trans ((zU_n (by decide)).trans ((zU_n (by decide)).trans ((zU_n (by decide)).trans ((zU_n (by decide)).trans ((zC_n (by decide)).trans ((zC_n (by decide)).trans ((zC_n (by decide)).trans ((zC_n (by decide)).trans ((zU_n (by decide)).trans (c1.symm.trans h40)))))))))))))))))) ?_
  refine z_pushJ gp_157_116 ?_
  refine z_isub (e := 39) gi_157_117 rfl ?_
  refine z_putI (y := 8) gi_157_118 rfl gk_50 ?_
  refine z_aload0 gi_157_121 ?_
  refine z_getR (r := 57) gi_157_122 gk_50 (hRr _ rm_50_10 (by decide)) ?_
  refine z_aload0 gi_157_125 ?_
  refine z_getI (v := 39) gi_157_126 gk_50 (zU_e) ?_
  refine z_iload1 gi_157_129 ?_
  refine z_iast (e := 1) gi_157_130 gk_57 (by decide) (by decide) rfl ?_
  refine z_aload0 gi_157_131 ?_
  refine z_getR (r := 58) gi_157_132 gk_50 (hRr _ rm_50_11 (by decide)) ?_
  refine z_aload0 gi_157_135 ?_
  refine z_getI (v := 39) gi_157_136 gk_50 ((zU_n (by decide)).trans (zU_e)) ?_
  refine z_iload2 gi_157_139 ?_
  refine z_iast (e := p) gi_157_140 gk_58 (by decide) (by decide) rfl ?_
  refine z_aload0 gi_157_141 ?_
  refine z_getR (r := 59) gi_157_142 gk_50 (hRr _ rm_50_12 (by decide)) ?_
  refine z_aload0 gi_157_145 ?_
  refine z_getI (v := 39) gi_157_146 gk_50 ((zU_n (by decide)).trans ((zU_n (by decide)).trans (zU_e))) ?_
  refine z_iload4 gi_157_149 ?_
  refine z_iast (e := (cN J) p (1)) gi_157_151 gk_59 (by decide) (by decide) rfl ?_
  refine z_aload0 gi_157_152 ?_
  refine z_getR (r := 60) gi_157_153 gk_50 (hRr _ rm_50_13 (by decide)) ?_
  refine z_aload0 gi_157_156 ?_
  refine z_getI (v := 39) gi_157_157 gk_50 ((zU_n (by decide)).trans ((zU_n (by decide)).trans ((zU_n (by decide)).trans (zU_e)))) ?_
  refine z_iload3 gi_157_160 ?_
  refine z_iast (e := v) gi_157_161 gk_60 (by decide) (by decide) rfl ?_
  refine z_aload0 gi_157_162 ?_
  refine z_dup gi_157_163 rfl ?_
  refine z_getI (v := 39) gi_157_164 gk_50 ((zU_n (by decide)).trans ((zU_n (by decide)).trans ((zU_n (by decide)).trans ((zU_n (by decide)).trans (zU_e))))) ?_
  refine z_pushJ gp_157_167 ?_
  refine z_iadd (e := 40) gi_157_168 rfl ?_
  refine z_putI (y := 8) gi_157_169 rfl gk_50 ?_
  refine z_aload0 gi_157_172 ?_
  refine z_iload1 gi_157_173 ?_
  refine z_iload2 gi_157_174 ?_
  refine z_iload3 gi_157_175 ?_
  refine z_callVx (As := [_, _, _]) gi_157_176 rfl gk_50 (Nat.le_of_ble_eq_true rfl) (Nat.le_of_ble_eq_true rfl) (lays_p (n := J 8 2) hRr y2.symm yn hp (by decide) (by omega)) ?_
  show zW _ _ _ _ _ _ _ _ _ _
  refine z_iload4 gi_157_179 ?_
  refine z_iret gi_157_181 gr_157 ?_
  show zW _ _ _ _ _ _ _ _ _ _
  refine z_goto gi_162_24 ?_
  refine z_iret gi_162_28 gr_162 ?_
  refine ⟨?_, ?_⟩
  · first | rfl | exact congrArg (fun v => some (zi v)) (by omega) | (exfalso; omega)
  · have hs := (zK_u (a := 52) (x := p) (v := v) (zK_x (a := 50) (x := 8) (v := 40) (zK_x (a := 60) (x := 39) (v := v) (zK_x (a := 59) (x := 39) (v := (cN J) p (1)) (zK_x (a := 58) (x := 39) (v := p) (zK_x (a := 57) (x := 39) (v := 1) (zK_x (a := 50) (x := 8) (v := 39) (zK_c (a := 60) (b := 60) (sp := 1) (dp := 0) (n := 39) (zK_c (a := 59) (b := 59) (sp := 1) (dp := 0) (n := 39) (zK_c (a := 58) (b := 58) (sp := 1) (dp := 0) (n := 39) (zK_c (a := 57) (b := 57) (sp := 1) (dp := 0) (n := 39) (zK_x (a := 50) (x := 9) (v := 0) (zK_u (a := 9) (x := p * 5 + 1) (v := v) (zK_x (a := 29) (x := 6) (v := 40) (zK_x (a := 29) (x := 5) (v := 40) (zK_x (a := 33) (x := 39) (v := v) (zK_x (a := 32) (x := 39) (v := (cN J) p (1)) (zK_x (a := 31) (x := 39) (v := 1) (zK_x (a := 30) (x := 39) (v := p) (zK_c (a := 33) (b := 33) (sp := 1) (dp := 0) (n := 39) (zK_c (a := 32) (b := 32) (sp := 1) (dp := 0) (n := 39) (zK_c (a := 31) (b := 31) (sp := 1) (dp := 0) (n := 39) (zK_c (a := 30) (b := 30) (sp := 1) (dp := 0) (n := 39) (zK_x (a := 29) (x := 5) (v := 39) (zK_r (k := (kL [30, 31, 32, 33, 57, 58, 59, 60] [(29, 5), (30, 39), (31, 39), (32, 39), (33, 39), (29, 6), (50, 9), (50, 8), (57, 39), (58, 39), (59, 39), (60, 39)])) (A := J)) rfl) (fun _ => rfl)) (fun _ => rfl)) (fun _ => rfl)) (fun _ => rfl)) rfl) rfl) rfl) rfl) rfl) rfl)) rfl) (fun _ => rfl)) (fun _ => rfl)) (fun _ => rfl)) (fun _ => rfl)) rfl) rfl) rfl) rfl) rfl) rfl))
    have hY2 := RelY_k hs (by repeat' constructor) (fun p => by repeat' constructor) (RelY_p (p := p) (w := 1) hY (by omega) (by omega) hf2 (by omega) rfl rfl)
    have hok : zOkc (J 8 2) p (1) ((cN J) p (1)) v := ⟨hV, nf, hf2⟩
    have hk := (zK_x (a := 52) (x := p) (v := v) (zK_x (a := 50) (x := 8) (v := 40) (zK_x (a := 60) (x := 39) (v := v) (zK_x (a := 59) (x := 39) (v := (cN J) p (1)) (zK_x (a := 58) (x := 39) (v := p) (zK_x (a := 57) (x := 39) (v := 1) (zK_x (a := 50) (x := 8) (v := 39) (zK_c (a := 60) (b := 60) (sp := 1) (dp := 0) (n := 39) (zK_c (a := 59) (b := 59) (sp := 1) (dp := 0) (n := 39) (zK_c (a := 58) (b := 58) (sp := 1) (dp := 0) (n := 39) (zK_c (a := 57) (b := 57) (sp := 1) (dp := 0) (n := 39) (zK_x (a := 50) (x := 9) (v := 0) (zK_x (a := 9) (x := p * 5 + 1) (v := v) (zK_x (a := 29) (x := 6) (v := 40) (zK_x (a := 29) (x := 5) (v := 40) (zK_x (a := 33) (x := 39) (v := v) (zK_x (a := 32) (x := 39) (v := (cN J) p (1)) (zK_x (a := 31) (x := 39) (v := 1) (zK_x (a := 30) (x := 39) (v := p) (zK_c (a := 33) (b := 33) (sp := 1) (dp := 0) (n := 39) (zK_c (a := 32) (b := 32) (sp := 1) (dp := 0) (n := 39) (zK_c (a := 31) (b := 31) (sp := 1) (dp := 0) (n := 39) (zK_c (a := 30) (b := 30) (sp := 1) (dp := 0) (n := 39) (zK_x (a := 29) (x := 5) (v := 39) (zK_r (k := (kL [30, 31, 32, 33, 9, 57, 58, 59, 60, 52] [(29, 5), (30, 39), (31, 39), (32, 39), (33, 39), (29, 6), (50, 9), (50, 8), (57, 39), (58, 39), (59, 39), (60, 39)])) (A := J)) rfl) (fun _ => rfl)) (fun _ => rfl)) (fun _ => rfl)) (fun _ => rfl)) rfl) rfl) rfl) rfl) rfl) rfl) rfl) rfl) (fun _ => rfl)) (fun _ => rfl)) (fun _ => rfl)) (fun _ => rfl)) rfl) rfl) rfl) rfl) rfl) rfl) rfl)
    exact ⟨hR, hG, hY2, RelD_k hk (by repeat' constructor) (fun p => by repeat' constructor) hD, RelP_k hk (by repeat' constructor) (fun p => by repeat' constructor) hP, (RelC_mk (K := J) (d := 39) (o := 1) rfl rfl rfl rfl (by decide) (by decide) rfl rfl hC (by omega) (fun i i1 i2 => ⟨⟨(zU_n (by decide)).trans ((zU_n (by decide)).trans ((zU_n (by decide)).trans ((zU_n (by decide)).trans ((zU_n (by decide)).trans ((zU_n (by decide)).trans ((zU_n (by decide)).trans ((zC_n (by decide)).trans ((zC_n (by decide)).trans ((zC_n (by decide)).trans ((zC_n (by decide)).trans ((zU_n (by decide)).trans ((zU_n (by decide)).trans ((zU_n (by decide)).trans ((zU_n (by decide)).trans ((zU_n (by decide)).trans ((zU_n (by decide)).trans ((zU_n (by decide)).trans ((zU_x (by omega)).trans ((zC_n (by decide)).trans ((zC_n (by decide)).trans ((zC_n (by decide)).trans ((zC_sh (by omega)).trans ((zU_n (by decide)).trans (rfl)))))))))))))))))))))))), (zU_n (by decide)).trans ((zU_n (by decide)).trans ((zU_n (by decide)).trans ((zU_n (by decide)).trans ((zU_n (by decide)).trans ((zU_n (by decide)).trans ((zU_n (by decide)).trans ((zC_n (by decide)).trans ((zC_n (by decide)).trans ((zC_n (by decide)).trans ((zC_n (by decide)).trans ((zU_n (by decide)).trans ((zU_n (by decide)).trans ((zU_n (by decide)).trans ((zU_n (by decide)).trans ((zU_n (by decide)).trans ((zU_n (by decide)).trans ((zU_x (by omega)).trans ((zU_n (by decide)).trans ((zC_n (by decide)).trans ((zC_n (by decide)).trans ((zC_sh (by omega)).trans ((zC_n (by decide)).trans ((zU_n (by decide)).trans (rfl)))))))))))))))))))))))), (zU_n (by decide)).trans ((zU_n (by decide)).trans ((zU_n (by decide)).trans ((zU_n (by decide)).trans ((zU_n (by decide)).trans ((zU_n (by decide)).trans ((zU_n (by decide)).trans ((zC_n (by decide)).trans ((zC_n (by decide)).trans ((zC_n (by decide)).trans ((zC_n (by decide)).trans ((zU_n (by decide)).trans ((zU_n (by decide)).trans ((zU_n (by decide)).trans ((zU_n (by decide)).trans ((zU_n (by decide)).trans ((zU_x (by omega)).trans ((zU_n (by decide)).trans ((zU_n (by decide)).trans ((zC_n (by decide)).trans ((zC_sh (by omega)).trans ((zC_n (by decide)).trans ((zC_n (by decide)).trans ((zU_n (by decide)).trans (rfl)))))))))))))))))))))))), (zU_n (by decide)).trans ((zU_n (by decide)).trans ((zU_n (by decide)).trans ((zU_n (by decide)).trans ((zU_n (by decide)).trans ((zU_n (by decide)).trans ((zU_n (by decide)).trans ((zC_n (by decide)).trans ((zC_n (by decide)).trans ((zC_n (by decide)).trans ((zC_n (by decide)).trans ((zU_n (by decide)).trans ((zU_n (by decide)).trans ((zU_n (by decide)).trans ((zU_n (by decide)).trans ((zU_x (by omega)).trans ((zU_n (by decide)).trans ((zU_n (by decide)).trans ((zU_n (by decide)).trans ((zC_sh (by omega)).trans ((zC_n (by decide)).trans ((zC_n (by decide)).trans ((zC_n (by decide)).trans ((zU_n (by decide)).trans (rfl))))))))))))))))))))))))⟩, ⟨(zU_n (by decide)).trans ((zU_n (by decide)).trans ((zU_n (by decide)).trans ((zU_n (by decide)).trans ((zU_x (by omega)).trans ((zU_n (by decide)).trans ((zU_n (by decide)).trans ((zC_n (by decide)).trans ((zC_n (by decide)).trans ((zC_sh (by omega)).trans ((zC_n (by decide)).trans ((zU_n (by decide)).trans ((zU_n (by decide)).trans ((zU_n (by decide)).trans ((zU_n (by decide)).trans ((zU_n (by decide)).trans ((zU_n (by decide)).trans ((zU_n (by decide)).trans ((zU_n (by decide)).trans ((zC_n (by decide)).trans ((zC_n (by decide)).trans ((zC_n (by decide)).trans ((zC_n (by decide)).trans ((zU_n (by decide)).trans (rfl)))))))))))))))))))))))), (zU_n (by decide)).trans ((zU_n (by decide)).trans ((zU_n (by decide)).trans ((zU_n (by decide)).trans ((zU_n (by decide)).trans ((zU_x (by omega)).trans ((zU_n (by decide)).trans ((zC_n (by decide)).trans ((zC_n (by decide)).trans ((zC_n (by decide)).trans ((zC_sh (by omega)).trans ((zU_n (by decide)).trans ((zU_n (by decide)).trans ((zU_n (by decide)).trans ((zU_n (by decide)).trans ((zU_n (by decide)).trans ((zU_n (by decide)).trans ((zU_n (by decide)).trans ((zU_n (by decide)).trans ((zC_n (by decide)).trans ((zC_n (by decide)).trans ((zC_n (by decide)).trans ((zC_n (by decide)).trans ((zU_n (by decide)).trans (rfl)))))))))))))))))))))))), (zU_n (by decide)).trans ((zU_n (by decide)).trans ((zU_n (by decide)).trans ((zU_x (by omega)).trans ((zU_n (by decide)).trans ((zU_n (by decide)).trans ((zU_n (by decide)).trans ((zC_n (by decide)).trans ((zC_sh (by omega)).trans ((zC_n (by decide)).trans ((zC_n (by decide)).trans ((zU_n (by decide)).trans ((zU_n (by decide)).trans ((zU_n (by decide)).trans ((zU_n (by decide)).trans ((zU_n (by decide)).trans ((zU_n (by decide)).trans ((zU_n (by decide)).trans ((zU_n (by decide)).trans ((zC_n (by decide)).trans ((zC_n (by decide)).trans ((zC_n (by decide)).trans ((zC_n (by decide)).trans ((zU_n (by decide)).trans (rfl)))))))))))))))))))))))), (zU_n (by decide)).trans ((zU_n (by decide)).trans ((zU_x (by omega)).trans ((zU_n (by decide)).trans ((zU_n (by decide)).trans ((zU_n (by decide)).trans ((zU_n (by decide)).trans ((zC_sh (by omega)).trans ((zC_n (by decide)).trans ((zC_n (by decide)).trans ((zC_n (by decide)).trans ((zU_n (by decide)).trans ((zU_n (by decide)).trans ((zU_n (by decide)).trans ((zU_n (by decide)).trans ((zU_n (by decide)).trans ((zU_n (by decide)).trans ((zU_n (by decide)).trans ((zU_n (by decide)).trans ((zC_n (by decide)).trans ((zC_n (by decide)).trans ((zC_n (by decide)).trans ((zC_n (by decide)).trans ((zU_n (by decide)).trans (rfl))))))))))))))))))))))))⟩⟩) ((zU_n (by decide)).trans ((zU_n (by decide)).trans ((zU_n (by decide)).trans ((zU_n (by decide)).trans ((zU_n (by decide)).trans ((zU_n (by decide)).trans ((zU_n (by decide)).trans ((zC_n (by decide)).trans ((zC_n (by decide)).trans ((zC_n (by decide)).trans ((zC_n (by decide)).trans ((zU_n (by decide)).trans ((zU_n (by decide)).trans ((zU_n (by decide)).trans ((zU_n (by decide)).trans ((zU_n (by decide)).trans ((zU_n (by decide)).trans ((zU_n (by decide)).trans (zU_e))))))))))))))))))) ((zU_n (by decide)).trans ((zU_n (by decide)).trans ((zU_n (by decide)).trans ((zU_n (by decide)).trans ((zU_n (by decide)).trans ((zU_n (by decide)).trans ((zU_n (by decide)).trans ((zC_n (by decide)).trans ((zC_n (by decide)).trans ((zC_n (by decide)).trans ((zC_n (by decide)).trans ((zU_n (by decide)).trans ((zU_n (by decide)).trans ((zU_n (by decide)).trans ((zU_n (by decide)).trans ((zU_n (by decide)).trans ((zU_n (by decide)).trans (zU_e)))))))))))))))))) ((zU_n (by decide)).trans ((zU_n (by decide)).trans ((zU_n (by decide)).trans ((zU_n (by decide)).trans ((zU_n (by decide)).trans ((zU_n (by decide)).trans ((zU_n (by decide)).trans ((zC_n (by decide)).trans ((zC_n (by decide)).trans ((zC_n (by decide)).trans ((zC_n (by decide)).trans ((zU_n (by decide)).trans ((zU_n (by decide)).trans ((zU_n (by decide)).trans ((zU_n (by decide)).trans ((zU_n (by decide)).trans (zU_e))))))))))))))))) ((zU_n (by decide)).trans ((zU_n (by decide)).trans ((zU_n (by decide)).trans ((zU_n (by decide)).trans ((zU_n (by decide)).trans ((zU_n (by decide)).trans ((zU_n (by decide)).trans ((zC_n (by decide)).trans ((zC_n (by decide)).trans ((zC_n (by decide)).trans ((zC_n (by decide)).trans ((zU_n (by decide)).trans ((zU_n (by decide)).trans ((zU_n (by decide)).trans ((zU_n (by decide)).trans (zU_e)))))))))))))))) ((zU_n (by decide)).trans ((zU_n (by decide)).trans ((zU_n (by decide)).trans ((zU_n (by decide)).trans (zU_e))))) ((zU_n (by decide)).trans ((zU_n (by decide)).trans ((zU_n (by decide)).trans ((zU_n (by decide)).trans ((zU_n (by decide)).trans (zU_e)))))) ((zU_n (by decide)).trans ((zU_n (by decide)).trans ((zU_n (by decide)).trans (zU_e)))) ((zU_n (by decide)).trans ((zU_n (by decide)).trans (zU_e))) hok), RelA_k hk (by repeat' constructor) (fun p => by repeat' constructor) hAc, RelS_k hk (zK_r (k := kM)) (fun x j a b => ⟨kL_38 (by decide) (by decide) x j a b, kM_38 x j a b⟩) (fun p => ⟨rfl, rfl, rfl⟩) rfl hS, RelT_k hk (by repeat' constructor) (fun p => by repeat' constructor) hTp, RelX_k hk (by repeat' constructor) (fun p => by repeat' constructor) hX, RelW_k hk ⟨rfl, rfl⟩ trivial hW⟩
theorem st_mend4_p2 {X : Nat × (Nat → Int32)} {d : Nat} {J M : zA} {R : zR} {p v : Int} (hr : Rel X J M R) (hp : -2147483648 ≤ p ∧ p < 2147483648) (hv : -2147483648 ≤ v ∧ v < 2147483648) (hV : zV (J 8 2) p (2)) (hf : zT 2 (2) ≤ v ∧ v ≤ zT 3 (2)) (he : ¬ (cN J) p (2) = v) (h40 : J 29 5 = 40) : zW X (d + 20) 104 0 (gEn 104 [(.ref 0), (zi p), (zi 2), (zi v)]) [] J M R (stP X (d + 20) 162 [(zi p), (zi 2), (zi v)]) := by
  have hr0 := hr
  obtain ⟨hR, hG, hY, hD, hP, hC, hAc, hS, hTp, hX, hW⟩ := hr0
  have hRr : zRoR R := zRoR_of hR
  have hY0 := hY
  obtain ⟨y1, y2, y3⟩ := hY0
  have yn := zNn y3
  have hC0 := hC
  obtain ⟨c1, c2, c3, c4, c5, c6⟩ := hC0
  have nr := zN_r y3 hV
  have nf := zN_fit y3 hV
  have hf2 : zFit (2) v := hf
  show zW _ _ _ _ [some (.ref 0), some (zi p), some (zi 2), some (zi v), none] _ _ _ _ _
  refine z_aload0 gi_104_0 ?_
  refine z_getR (r := 8) gi_104_1 gk_0 (hR _ rm_0_1) ?_
  refine z_iload1 gi_104_4 ?_
  refine z_iload2 gi_104_5 ?_
  refine z_callVP (As := [_, _]) (v := 1) gi_104_6 rfl gk_8 (Nat.le_of_ble_eq_true rfl) (Nat.le_of_ble_eq_true rfl) (isNumber_1 hR rfl yn hp (by decide) hV) ?_
  refine z_if_eqF gi_104_9 zr_1 (by decide) ?_
  refine z_iload2 gi_104_12 ?_
  refine z_iload3 gi_104_13 ?_
  refine z_callSP (As := [_, _]) (v := 1) gi_104_14 rfl (Nat.le_of_ble_eq_true rfl) (Nat.le_of_ble_eq_true rfl) (isFit_1 hv (by decide) (by omega) hf) ?_
  refine z_if_neT gi_104_17 zr_1 (by decide) ?_
  refine z_aload0 gi_104_22 ?_
  refine z_getR (r := 8) gi_104_23 gk_0 (hR _ rm_0_1) ?_
  refine z_iload1 gi_104_26 ?_
  refine z_iload2 gi_104_27 ?_
  refine z_callVP (As := [_, _]) (v := (cN J) p (2)) gi_104_28 rfl gk_8 (Nat.le_of_ble_eq_true rfl) (Nat.le_of_ble_eq_true rfl) (told_k hR zK_r rfl rfl y3 hp (by decide)) ?_
  refine z_istore (ls1 := [some (.ref 0), some (zi p), some (zi 2), some (zi v), some (zi ((cN J) p (2)))]) gi_104_31 rfl ?_
  refine z_iload4 gi_104_33 ?_
  refine z_iload3 gi_104_35 ?_
  refine z_icmp_eqF gi_104_36 (by omega) (by omega) (by omega) ?_
  refine z_aload0 gi_104_39 ?_
  refine z_getR (r := 29) gi_104_40 gk_0 (hR _ rm_0_9) ?_
  refine z_iload1 gi_104_43 ?_
  refine z_iload2 gi_104_44 ?_
  refine z_iload4 gi_104_45 ?_
  refine z_iload3 gi_104_47 ?_
  refine z_cV4 gi_104_48 gk_29 go_14 (Nat.le_of_ble_eq_true rfl) gc_14_RIIII ?_
  refine z_aload0 gi_14_0 ?_
  refine z_getI (v := 40) gi_14_1 gk_29 (h40) ?_
  refine z_pushJ gp_14_4 ?_
  refine z_icmp_ltF gi_14_6 zr_40 zr_40 (by decide) ?_
  refine z_aload0 gi_14_9 ?_
  refine z_cV0 gi_14_10 gk_29 go_15 (Nat.le_of_ble_eq_true rfl) gc_15_R ?_
  refine z_aload0 gi_15_0 ?_
  refine z_pushJ gp_15_1 ?_
  refine z_putI (y := 5) gi_15_3 rfl gk_29 ?_
  refine z_aload0 gi_15_6 ?_
  refine z_getR (r := 30) gi_15_7 gk_29 (hR _ rm_29_1) ?_
  refine z_pushJ gp_15_10 ?_
  refine z_aload0 gi_15_11 ?_
  refine z_getR (r := 30) gi_15_12 gk_29 (hR _ rm_29_1) ?_
  refine z_pushJ gp_15_15 ?_
  refine z_aload0 gi_15_16 ?_
  refine z_getI (v := 39) gi_15_17 gk_29 (zU_e) ?_
  refine z_copyI gi_15_20 gk_30 gk_30 (by decide) (by decide) (by decide) (by decide) (by decide) (by decide) (by decide) (by decide) ?_
  refine z_aload0 gi_15_23 ?_
  refine z_getR (r := 31) gi_15_24 gk_29 (hR _ rm_29_2) ?_
  refine z_pushJ gp_15_27 ?_
  refine z_aload0 gi_15_28 ?_
  refine z_getR (r := 31) gi_15_29 gk_29 (hR _ rm_29_2) ?_
  refine z_pushJ gp_15_32 ?_
  refine z_aload0 gi_15_33 ?_
  refine z_getI (v := 39) gi_15_34 gk_29 ((zC_n (by decide)).trans (zU_e)) ?_
  refine z_copyI gi_15_37 gk_31 gk_31 (by decide) (by decide) (by decide) (by decide) (by decide) (by decide) (by decide) (by decide) ?_
  refine z_aload0 gi_15_40 ?_
  refine z_getR (r := 32) gi_15_41 gk_29 (hR _ rm_29_3) ?_
  refine z_pushJ gp_15_44 ?_
  refine z_aload0 gi_15_45 ?_
  refine z_getR (r := 32) gi_15_46 gk_29 (hR _ rm_29_3) ?_
  refine z_pushJ gp_15_49 ?_
  refine z_aload0 gi_15_50 ?_
  refine z_getI (v := 39) gi_15_51 gk_29 ((zC_n (by decide)).trans ((zC_n (by decide)).trans (zU_e))) ?_
  refine z_copyI gi_15_54 gk_32 gk_32 (by decide) (by decide) (by decide) (by decide) (by decide) (by decide) (by decide) (by decide) ?_
  refine z_aload0 gi_15_57 ?_
  refine z_getR (r := 33) gi_15_58 gk_29 (hR _ rm_29_4) ?_
  refine z_pushJ gp_15_61 ?_
  refine z_aload0 gi_15_62 ?_
  refine z_getR (r := 33) gi_15_63 gk_29 (hR _ rm_29_4) ?_
  refine z_pushJ gp_15_66 ?_
  refine z_aload0 gi_15_67 ?_
  refine z_getI (v := 39) gi_15_68 gk_29 ((zC_n (by decide)).trans ((zC_n (by decide)).trans ((zC_n (by decide)).trans (zU_e)))) ?_
  refine z_copyI gi_15_71 gk_33 gk_33 (by decide) (by decide) (by decide) (by decide) (by decide) (by decide) (by decide) (by decide) ?_
  refine z_vret gi_15_74 gr_15 ?_
  show zW _ _ _ _ _ _ _ _ _ _
  refine z_aload0 gi_14_13 ?_
  refine z_getR (r := 30) gi_14_14 gk_29 (hR _ rm_29_1) ?_
  refine z_aload0 gi_14_17 ?_
  refine z_getI (v := 39) gi_14_18 gk_29 ((zC_n (by decide)).trans ((zC_n (by decide)).trans ((zC_n (by decide)).trans ((zC_n (by decide)).trans (zU_e))))) ?_
  refine z_iload1 gi_14_21 ?_
  refine z_iast (e := p) gi_14_22 gk_30 (by decide) (by decide) rfl ?_
  refine z_aload0 gi_14_23 ?_
  refine z_getR (r := 31) gi_14_24 gk_29 (hR _ rm_29_2) ?_
  refine z_aload0 gi_14_27 ?_
  refine z_getI (v := 39) gi_14_28 gk_29 ((zU_n (by decide)).trans ((zC_n (by decide)).trans ((zC_n (by decide)).trans ((zC_n (by decide)).trans ((zC_n (by decide)).trans (zU_e)))))) ?_
  refine z_iload2 gi_14_31 ?_
  refine z_iast (e := 2) gi_14_32 gk_31 (by decide) (by decide) rfl ?_
  refine z_aload0 gi_14_33 ?_
  refine z_getR (r := 32) gi_14_34 gk_29 (hR _ rm_29_3) ?_
  refine z_aload0 gi_14_37 ?_
  refine z_getI (v := 39) gi_14_38 gk_29 ((zU_n (by decide)).trans ((zU_n (by decide)).trans ((zC_n (by decide)).trans ((zC_n (by decide)).trans ((zC_n (by decide)).trans ((zC_n (by decide)).trans (zU_e))))))) ?_
  refine z_iload3 gi_14_41 ?_
  refine z_iast (e := (cN J) p (2)) gi_14_42 gk_32 (by decide) (by decide) rfl ?_
  refine z_aload0 gi_14_43 ?_
  refine z_getR (r := 33) gi_14_44 gk_29 (hR _ rm_29_4) ?_
  refine z_aload0 gi_14_47 ?_
  refine z_getI (v := 39) gi_14_48 gk_29 ((zU_n (by decide)).trans ((zU_n (by decide)).trans ((zU_n (by decide)).trans ((zC_n (by decide)).trans ((zC_n (by decide)).trans ((zC_n (by decide)).trans ((zC_n (by decide)).trans (zU_e)))))))) ?_
  refine z_iload4 gi_14_51 ?_
  refine z_iast (e := v) gi_14_53 gk_33 (by decide) (by decide) rfl ?_
  refine z_aload0 gi_14_54 ?_
  refine z_dup gi_14_55 rfl ?_
  refine z_getI (v := 39) gi_14_56 gk_29 ((zU_n (by decide)).trans ((zU_n (by decide)).trans ((zU_n (by decide)).trans ((zU_n (by decide)).trans ((zC_n (by decide)).trans ((zC_n (by decide)).trans ((zC_n (by decide)).trans ((zC_n (by decide)).trans (zU_e))))))))) ?_
  refine z_pushJ gp_14_59 ?_
  refine z_iadd (e := 40) gi_14_60 rfl ?_
  refine z_putI (y := 5) gi_14_61 rfl gk_29 ?_
  refine z_aload0 gi_14_64 ?_
  refine z_aload0 gi_14_65 ?_
  refine z_getI (v := 40) gi_14_66 gk_29 (zU_e) ?_
  refine z_putI (y := 6) gi_14_69 rfl gk_29 ?_
  refine z_vret gi_14_72 gr_14 ?_
  show zW _ _ _ _ _ _ _ _ _ _
  refine z_aload0 gi_104_51 ?_
  refine z_getR (r := 8) gi_104_52 gk_0 (hR _ rm_0_1) ?_
  refine z_iload1 gi_104_55 ?_
  refine z_iload2 gi_104_56 ?_
  refine z_iload3 gi_104_57 ?_
  refine z_callVx (As := [_, _, _]) gi_104_58 rfl gk_8 (Nat.le_of_ble_eq_true rfl) (Nat.le_of_ble_eq_true rfl) (tell_p (n := J 8 2) hR rfl yn hp (by decide) (by omega)) ?_
  show zW _ _ _ _ _ _ _ _ _ _
  refine z_iload4 gi_104_61 ?_
  refine z_iret gi_104_63 gr_104 ?_
  refine ⟨_, rfl, ?_⟩
  show zW _ _ _ _ [some (.ref 50), some (zi p), some (zi 2), some (zi v)] _ _ _ _ _
  refine z_aload0 gi_162_0 ?_
  refine z_iload1 gi_162_1 ?_
  refine z_iload2 gi_162_2 ?_
  refine z_callVP (As := [_, _]) (v := 1) gi_162_3 rfl gk_50 (Nat.le_of_ble_eq_true rfl) (Nat.le_of_ble_eq_true rfl) (isOne_1 hRr y2.symm yn hp (by decide) hV) ?_
  refine z_if_eqF gi_162_6 zr_1 (by decide) ?_
  refine z_iload2 gi_162_9 ?_
  refine z_iload3 gi_162_10 ?_
  refine z_callSP (As := [_, _]) (v := 1) gi_162_11 rfl (Nat.le_of_ble_eq_true rfl) (Nat.le_of_ble_eq_true rfl) (mayBe_1 hv (by decide) (by omega) hf) ?_
  refine z_if_eqF gi_162_14 zr_1 (by decide) ?_
  refine z_aload0 gi_162_17 ?_
  refine z_iload2 gi_162_18 ?_
  refine z_iload1 gi_162_19 ?_
  refine z_iload3 gi_162_20 ?_
  refine z_callVi (As := [_, _, _]) (le := [some _, some _, some _, some _, none, none]) gi_162_21 rfl gk_50 (Nat.le_of_ble_eq_true rfl) (Nat.le_of_ble_eq_true rfl) rfl ?_
  refine z_aload0 gi_157_0 ?_
  refine z_iload1 gi_157_1 ?_
  refine z_iload2 gi_157_2 ?_
  refine z_callVP (As := [_, _]) (v := (cN J) p (2)) gi_157_3 rfl gk_50 (Nat.le_of_ble_eq_true rfl) (Nat.le_of_ble_eq_true rfl) (valueAt_s hRr ((rN_z (zK_x (a := 9) (x := p * 5 + 2) (v := v) (zK_x (a := 29) (x := 6) (v := 40) (zK_x (a := 29) (x := 5) (v := 40) (zK_x (a := 33) (x := 39) (v := v) (zK_x (a := 32) (x := 39) (v := (cN J) p (2)) (zK_x (a := 31) (x := 39) (v := 2) (zK_x (a := 30) (x := 39) (v := p) (zK_c (a := 33) (b := 33) (sp := 1) (dp := 0) (n := 39) (zK_c (a := 32) (b := 32) (sp := 1) (dp := 0) (n := 39) (zK_c (a := 31) (b := 31) (sp := 1) (dp := 0) (n := 39) (zK_c (a := 30) (b := 30) (sp := 1) (dp := 0) (n := 39) (zK_x (a := 29) (x := 5) (v := 39) (zK_r (k := kHi) (A := J)) rfl) (fun _ => rfl)) (fun _ => rfl)) (fun _ => rfl)) (fun _ => rfl)) rfl) rfl) rfl) rfl) rfl) rfl) rfl)).trans y1.symm) y2.symm y3 hp (by decide) hV) ?_
  refine z_istore (ls1 := [some (.ref 50), some (zi 2), some (zi p), some (zi v), some (zi ((cN J) p (2))), none]) gi_157_6 rfl ?_
  refine z_iload4 gi_157_8 ?_
  refine z_iload3 gi_157_10 ?_
  refine z_icmp_neT gi_157_11 (by omega) (by omega) (by omega) ?_
  refine z_aload0 gi_157_17 ?_
  refine z_pushJ gp_157_18 ?_
  refine z_putI (y := 9) gi_157_19 rfl gk_50 ?_
  refine z_aload0 gi_157_22 ?_
  refine z_getI (v := 40) gi_157_23 gk_50 ((zU_x (by decide)).trans ((zU_n (by decide)).trans ((zU_n (by decide)).trans ((zU_n (by decide)).trans ((zU_n (by decide)).trans ((zU_n (by decide)).trans ((zU_n (by decide)).trans ((zU_n (by decide)).trans ((zC_n (by decide)).trans ((zC_n (by decide)).trans ((zC_n (by decide)).trans ((zC_n (by decide)).trans ((zU_n (by decide)).trans (c1.symm.trans h40)))))))))))))) ?_
  refine z_pushJ gp_157_26 ?_
  refine z_icmp_neF gi_157_28 zr_40 zr_40 (by decide) ?_
  refine z_pushJ gp_157_31 ?_
  refine z_istore (ls1 := [some (.ref 50), some (zi 2), some (zi p), some (zi v), some (zi ((cN J) p (2))), some (zi 1)]) gi_157_32 rfl ?_
  show zW _ _ _ _ [some (.ref 50), some (zi 2), some (zi p), some (zi v), some (zi ((cN J) p (2))), some (zi 1)] [] _ _ _ _
  refine zC4_in ?_
  refine shift40_z hRr 39 0 (by decide) (by decide) ?_
  refine z_aload0 gi_157_111 ?_
  refine z_dup gi_157_112 rfl ?_
  refine z_getI (v := 40) gi_157_113 gk_50 ((zC_n (by decide)).trans ((zC_n (by decide)).trans ((zC_n (by decide)).trans ((zC_n (by decide)).trans ((zU_x (by decide)).trans ((zU_n (by decide)).trans ((zU_n (by decide)).trans ((zU_n (by decide)).trans ((zU_n (by decide)).trans ((zU_n (by decide)).trans ((zU_n (by decide)).trans ((zU_n (by decide)).trans ((zC_n (by decide)).trans ((zC_n (by decide)).trans ((zC_n (by decide)).trans ((zC_n (by decide)).trans ((zU_n (by decide)).trans (c1.symm.trans h40)))))))))))))))))) ?_
  refine z_pushJ gp_157_116 ?_
  refine z_isub (e := 39) gi_157_117 rfl ?_
  refine z_putI (y := 8) gi_157_118 rfl gk_50 ?_
  refine z_aload0 gi_157_121 ?_
  refine z_getR (r := 57) gi_157_122 gk_50 (hRr _ rm_50_10 (by decide)) ?_
  refine z_aload0 gi_157_125 ?_
  refine z_getI (v := 39) gi_157_126 gk_50 (zU_e) ?_
  refine z_iload1 gi_157_129 ?_
  refine z_iast (e := 2) gi_157_130 gk_57 (by decide) (by decide) rfl ?_
  refine z_aload0 gi_157_131 ?_
  refine z_getR (r := 58) gi_157_132 gk_50 (hRr _ rm_50_11 (by decide)) ?_
  refine z_aload0 gi_157_135 ?_
  refine z_getI (v := 39) gi_157_136 gk_50 ((zU_n (by decide)).trans (zU_e)) ?_
  refine z_iload2 gi_157_139 ?_
  refine z_iast (e := p) gi_157_140 gk_58 (by decide) (by decide) rfl ?_
  refine z_aload0 gi_157_141 ?_
  refine z_getR (r := 59) gi_157_142 gk_50 (hRr _ rm_50_12 (by decide)) ?_
  refine z_aload0 gi_157_145 ?_
  refine z_getI (v := 39) gi_157_146 gk_50 ((zU_n (by decide)).trans ((zU_n (by decide)).trans (zU_e))) ?_
  refine z_iload4 gi_157_149 ?_
  refine z_iast (e := (cN J) p (2)) gi_157_151 gk_59 (by decide) (by decide) rfl ?_
  refine z_aload0 gi_157_152 ?_
  refine z_getR (r := 60) gi_157_153 gk_50 (hRr _ rm_50_13 (by decide)) ?_
  refine z_aload0 gi_157_156 ?_
  refine z_getI (v := 39) gi_157_157 gk_50 ((zU_n (by decide)).trans ((zU_n (by decide)).trans ((zU_n (by decide)).trans (zU_e)))) ?_
  refine z_iload3 gi_157_160 ?_
  refine z_iast (e := v) gi_157_161 gk_60 (by decide) (by decide) rfl ?_
  refine z_aload0 gi_157_162 ?_
  refine z_dup gi_157_163 rfl ?_
  refine z_getI (v := 39) gi_157_164 gk_50 ((zU_n (by decide)).trans ((zU_n (by decide)).trans ((zU_n (by decide)).trans ((zU_n (by decide)).trans (zU_e))))) ?_
  refine z_pushJ gp_157_167 ?_
  refine z_iadd (e := 40) gi_157_168 rfl ?_
  refine z_putI (y := 8) gi_157_169 rfl gk_50 ?_
  refine z_aload0 gi_157_172 ?_
  refine z_iload1 gi_157_173 ?_
  refine z_iload2 gi_157_174 ?_
  refine z_iload3 gi_157_175 ?_
  refine z_callVx (As := [_, _, _]) gi_157_176 rfl gk_50 (Nat.le_of_ble_eq_true rfl) (Nat.le_of_ble_eq_true rfl) (lays_p (n := J 8 2) hRr y2.symm yn hp (by decide) (by omega)) ?_
  show zW _ _ _ _ _ _ _ _ _ _
  refine z_iload4 gi_157_179 ?_
  refine z_iret gi_157_181 gr_157 ?_
  show zW _ _ _ _ _ _ _ _ _ _
  refine z_goto gi_162_24 ?_
  refine z_iret gi_162_28 gr_162 ?_
  refine ⟨?_, ?_⟩
  · first | rfl | exact congrArg (fun v => some (zi v)) (by omega) | (exfalso; omega)
  · have hs := (zK_u (a := 53) (x := p) (v := v) (zK_x (a := 50) (x := 8) (v := 40) (zK_x (a := 60) (x := 39) (v := v) (zK_x (a := 59) (x := 39) (v := (cN J) p (2)) (zK_x (a := 58) (x := 39) (v := p) (zK_x (a := 57) (x := 39) (v := 2) (zK_x (a := 50) (x := 8) (v := 39) (zK_c (a := 60) (b := 60) (sp := 1) (dp := 0) (n := 39) (zK_c (a := 59) (b := 59) (sp := 1) (dp := 0) (n := 39) (zK_c (a := 58) (b := 58) (sp := 1) (dp := 0) (n := 39) (zK_c (a := 57) (b := 57) (sp := 1) (dp := 0) (n := 39) (zK_x (a := 50) (x := 9) (v := 0) (zK_u (a := 9) (x := p * 5 + 2) (v := v) (zK_x (a := 29) (x := 6) (v := 40) (zK_x (a := 29) (x := 5) (v := 40) (zK_x (a := 33) (x := 39) (v := v) (zK_x (a := 32) (x := 39) (v := (cN J) p (2)) (zK_x (a := 31) (x := 39) (v := 2) (zK_x (a := 30) (x := 39) (v := p) (zK_c (a := 33) (b := 33) (sp := 1) (dp := 0) (n := 39) (zK_c (a := 32) (b := 32) (sp := 1) (dp := 0) (n := 39) (zK_c (a := 31) (b := 31) (sp := 1) (dp := 0) (n := 39) (zK_c (a := 30) (b := 30) (sp := 1) (dp := 0) (n := 39) (zK_x (a := 29) (x := 5) (v := 39) (zK_r (k := (kL [30, 31, 32, 33, 57, 58, 59, 60] [(29, 5), (30, 39), (31, 39), (32, 39), (33, 39), (29, 6), (50, 9), (50, 8), (57, 39), (58, 39), (59, 39), (60, 39)])) (A := J)) rfl) (fun _ => rfl)) (fun _ => rfl)) (fun _ => rfl)) (fun _ => rfl)) rfl) rfl) rfl) rfl) rfl) rfl)) rfl) (fun _ => rfl)) (fun _ => rfl)) (fun _ => rfl)) (fun _ => rfl)) rfl) rfl) rfl) rfl) rfl) rfl))
    have hY2 := RelY_k hs (by repeat' constructor) (fun p => by repeat' constructor) (RelY_p (p := p) (w := 2) hY (by omega) (by omega) hf2 (by omega) rfl rfl)
    have hok : zOkc (J 8 2) p (2) ((cN J) p (2)) v := ⟨hV, nf, hf2⟩
    have hk := (zK_x (a := 53) (x := p) (v := v) (zK_x (a := 50) (x := 8) (v := 40) (zK_x (a := 60) (x := 39) (v := v) (zK_x (a := 59) (x := 39) (v := (cN J) p (2)) (zK_x (a := 58) (x := 39) (v := p) (zK_x (a := 57) (x := 39) (v := 2) (zK_x (a := 50) (x := 8) (v := 39) (zK_c (a := 60) (b := 60) (sp := 1) (dp := 0) (n := 39) (zK_c (a := 59) (b := 59) (sp := 1) (dp := 0) (n := 39) (zK_c (a := 58) (b := 58) (sp := 1) (dp := 0) (n := 39) (zK_c (a := 57) (b := 57) (sp := 1) (dp := 0) (n := 39) (zK_x (a := 50) (x := 9) (v := 0) (zK_x (a := 9) (x := p * 5 + 2) (v := v) (zK_x (a := 29) (x := 6) (v := 40) (zK_x (a := 29) (x := 5) (v := 40) (zK_x (a := 33) (x := 39) (v := v) (zK_x (a := 32) (x := 39) (v := (cN J) p (2)) (zK_x (a := 31) (x := 39) (v := 2) (zK_x (a := 30) (x := 39) (v := p) (zK_c (a := 33) (b := 33) (sp := 1) (dp := 0) (n := 39) (zK_c (a := 32) (b := 32) (sp := 1) (dp := 0) (n := 39) (zK_c (a := 31) (b := 31) (sp := 1) (dp := 0) (n := 39) (zK_c (a := 30) (b := 30) (sp := 1) (dp := 0) (n := 39) (zK_x (a := 29) (x := 5) (v := 39) (zK_r (k := (kL [30, 31, 32, 33, 9, 57, 58, 59, 60, 53] [(29, 5), (30, 39), (31, 39), (32, 39), (33, 39), (29, 6), (50, 9), (50, 8), (57, 39), (58, 39), (59, 39), (60, 39)])) (A := J)) rfl) (fun _ => rfl)) (fun _ => rfl)) (fun _ => rfl)) (fun _ => rfl)) rfl) rfl) rfl) rfl) rfl) rfl) rfl) rfl) (fun _ => rfl)) (fun _ => rfl)) (fun _ => rfl)) (fun _ => rfl)) rfl) rfl) rfl) rfl) rfl) rfl) rfl)
    exact ⟨hR, hG, hY2, RelD_k hk (by repeat' constructor) (fun p => by repeat' constructor) hD, RelP_k hk (by repeat' constructor) (fun p => by repeat' constructor) hP, (RelC_mk (K := J) (d := 39) (o := 1) rfl rfl rfl rfl (by decide) (by decide) rfl rfl hC (by omega) (fun i i1 i2 => ⟨⟨(zU_n (by decide)).trans ((zU_n (by decide)).trans ((zU_n (by decide)).trans ((zU_n (by decide)).trans ((zU_n (by decide)).trans ((zU_n (by decide)).trans ((zU_n (by decide)).trans ((zC_n (by decide)).trans ((zC_n (by decide)).trans ((zC_n (by decide)).trans ((zC_n (by decide)).trans ((zU_n (by decide)).trans ((zU_n (by decide)).trans ((zU_n (by decide)).trans ((zU_n (by decide)).trans ((zU_n (by decide)).trans ((zU_n (by decide)).trans ((zU_n (by decide)).trans ((zU_x (by omega)).trans ((zC_n (by decide)).trans ((zC_n (by decide)).trans ((zC_n (by decide)).trans ((zC_sh (by omega)).trans ((zU_n (by decide)).trans (rfl)))))))))))))))))))))))), (zU_n (by decide)).trans ((zU_n (by decide)).trans ((zU_n (by decide)).trans ((zU_n (by decide)).trans ((zU_n (by decide)).trans ((zU_n (by decide)).trans ((zU_n (by decide)).trans ((zC_n (by decide)).trans ((zC_n (by decide)).trans ((zC_n (by decide)).trans ((zC_n (by decide)).trans ((zU_n (by decide)).trans ((zU_n (by decide)).trans ((zU_n (by decide)).trans ((zU_n (by decide)).trans ((zU_n (by decide)).trans ((zU_n (by decide)).trans ((zU_x (by omega)).trans ((zU_n (by decide)).trans ((zC_n (by decide)).trans ((zC_n (by decide)).trans ((zC_sh (by omega)).trans ((zC_n (by decide)).trans ((zU_n (by decide)).trans (rfl)))))))))))))))))))))))), (zU_n (by decide)).trans ((zU_n (by decide)).trans ((zU_n (by decide)).trans ((zU_n (by decide)).trans ((zU_n (by decide)).trans ((zU_n (by decide)).trans ((zU_n (by decide)).trans ((zC_n (by decide)).trans ((zC_n (by decide)).trans ((zC_n (by decide)).trans ((zC_n (by decide)).trans ((zU_n (by decide)).trans ((zU_n (by decide)).trans ((zU_n (by decide)).trans ((zU_n (by decide)).trans ((zU_n (by decide)).trans ((zU_x (by omega)).trans ((zU_n (by decide)).trans ((zU_n (by decide)).trans ((zC_n (by decide)).trans ((zC_sh (by omega)).trans ((zC_n (by decide)).trans ((zC_n (by decide)).trans ((zU_n (by decide)).trans (rfl)))))))))))))))))))))))), (zU_n (by decide)).trans ((zU_n (by decide)).trans ((zU_n (by decide)).trans ((zU_n (by decide)).trans ((zU_n (by decide)).trans ((zU_n (by decide)).trans ((zU_n (by decide)).trans ((zC_n (by decide)).trans ((zC_n (by decide)).trans ((zC_n (by decide)).trans ((zC_n (by decide)).trans ((zU_n (by decide)).trans ((zU_n (by decide)).trans ((zU_n (by decide)).trans ((zU_n (by decide)).trans ((zU_x (by omega)).trans ((zU_n (by decide)).trans ((zU_n (by decide)).trans ((zU_n (by decide)).trans ((zC_sh (by omega)).trans ((zC_n (by decide)).trans ((zC_n (by decide)).trans ((zC_n (by decide)).trans ((zU_n (by decide)).trans (rfl))))))))))))))))))))))))⟩, ⟨(zU_n (by decide)).trans ((zU_n (by decide)).trans ((zU_n (by decide)).trans ((zU_n (by decide)).trans ((zU_x (by omega)).trans ((zU_n (by decide)).trans ((zU_n (by decide)).trans ((zC_n (by decide)).trans ((zC_n (by decide)).trans ((zC_sh (by omega)).trans ((zC_n (by decide)).trans ((zU_n (by decide)).trans ((zU_n (by decide)).trans ((zU_n (by decide)).trans ((zU_n (by decide)).trans ((zU_n (by decide)).trans ((zU_n (by decide)).trans ((zU_n (by decide)).trans ((zU_n (by decide)).trans ((zC_n (by decide)).trans ((zC_n (by decide)).trans ((zC_n (by decide)).trans ((zC_n (by decide)).trans ((zU_n (by decide)).trans (rfl)))))))))))))))))))))))), (zU_n (by decide)).trans ((zU_n (by decide)).trans ((zU_n (by decide)).trans ((zU_n (by decide)).trans ((zU_n (by decide)).trans ((zU_x (by omega)).trans ((zU_n (by decide)).trans ((zC_n (by decide)).trans ((zC_n (by decide)).trans ((zC_n (by decide)).trans ((zC_sh (by omega)).trans ((zU_n (by decide)).trans ((zU_n (by decide)).trans ((zU_n (by decide)).trans ((zU_n (by decide)).trans ((zU_n (by decide)).trans ((zU_n (by decide)).trans ((zU_n (by decide)).trans ((zU_n (by decide)).trans ((zC_n (by decide)).trans ((zC_n (by decide)).trans ((zC_n (by decide)).trans ((zC_n (by decide)).trans ((zU_n (by decide)).trans (rfl)))))))))))))))))))))))), (zU_n (by decide)).trans ((zU_n (by decide)).trans ((zU_n (by decide)).trans ((zU_x (by omega)).trans ((zU_n (by decide)).trans ((zU_n (by decide)).trans ((zU_n (by decide)).trans ((zC_n (by decide)).trans ((zC_sh (by omega)).trans ((zC_n (by decide)).trans ((zC_n (by decide)).trans ((zU_n (by decide)).trans ((zU_n (by decide)).trans ((zU_n (by decide)).trans ((zU_n (by decide)).trans ((zU_n (by decide)).trans ((zU_n (by decide)).trans ((zU_n (by decide)).trans ((zU_n (by decide)).trans ((zC_n (by decide)).trans ((zC_n (by decide)).trans ((zC_n (by decide)).trans ((zC_n (by decide)).trans ((zU_n (by decide)).trans (rfl)))))))))))))))))))))))), (zU_n (by decide)).trans ((zU_n (by decide)).trans ((zU_x (by omega)).trans ((zU_n (by decide)).trans ((zU_n (by decide)).trans ((zU_n (by decide)).trans ((zU_n (by decide)).trans ((zC_sh (by omega)).trans ((zC_n (by decide)).trans ((zC_n (by decide)).trans ((zC_n (by decide)).trans ((zU_n (by decide)).trans ((zU_n (by decide)).trans ((zU_n (by decide)).trans ((zU_n (by decide)).trans ((zU_n (by decide)).trans ((zU_n (by decide)).trans ((zU_n (by decide)).trans ((zU_n (by decide)).trans ((zC_n (by decide)).trans ((zC_n (by decide)).trans ((zC_n (by decide)).trans ((zC_n (by decide)).trans ((zU_n (by decide)).trans (rfl))))))))))))))))))))))))⟩⟩) ((zU_n (by decide)).trans ((zU_n (by decide)).trans ((zU_n (by decide)).trans ((zU_n (by decide)).trans ((zU_n (by decide)).trans ((zU_n (by decide)).trans ((zU_n (by decide)).trans ((zC_n (by decide)).trans ((zC_n (by decide)).trans ((zC_n (by decide)).trans ((zC_n (by decide)).trans ((zU_n (by decide)).trans ((zU_n (by decide)).trans ((zU_n (by decide)).trans ((zU_n (by decide)).trans ((zU_n (by decide)).trans ((zU_n (by decide)).trans ((zU_n (by decide)).trans (zU_e))))))))))))))))))) ((zU_n (by decide)).trans ((zU_n (by decide)).trans ((zU_n (by decide)).trans ((zU_n (by decide)).trans ((zU_n (by decide)).trans ((zU_n (by decide)).trans ((zU_n (by decide)).trans ((zC_n (by decide)).trans ((zC_n (by decide)).trans ((zC_n (by decide)).trans ((zC_n (by decide)).trans ((zU_n (by decide)).trans ((zU_n (by decide)).trans ((zU_n (by decide)).trans ((zU_n (by decide)).trans ((zU_n (by decide)).trans ((zU_n (by decide)).trans (zU_e)))))))))))))))))) ((zU_n (by decide)).trans ((zU_n (by decide)).trans ((zU_n (by decide)).trans ((zU_n (by decide)).trans ((zU_n (by decide)).trans ((zU_n (by decide)).trans ((zU_n (by decide)).trans ((zC_n (by decide)).trans ((zC_n (by decide)).trans ((zC_n (by decide)).trans ((zC_n (by decide)).trans ((zU_n (by decide)).trans ((zU_n (by decide)).trans ((zU_n (by decide)).trans ((zU_n (by decide)).trans ((zU_n (by decide)).trans (zU_e))))))))))))))))) ((zU_n (by decide)).trans ((zU_n (by decide)).trans ((zU_n (by decide)).trans ((zU_n (by decide)).trans ((zU_n (by decide)).trans ((zU_n (by decide)).trans ((zU_n (by decide)).trans ((zC_n (by decide)).trans ((zC_n (by decide)).trans ((zC_n (by decide)).trans ((zC_n (by decide)).trans ((zU_n (by decide)).trans ((zU_n (by decide)).trans ((zU_n (by decide)).trans ((zU_n (by decide)).trans (zU_e)))))))))))))))) ((zU_n (by decide)).trans ((zU_n (by decide)).trans ((zU_n (by decide)).trans ((zU_n (by decide)).trans (zU_e))))) ((zU_n (by decide)).trans ((zU_n (by decide)).trans ((zU_n (by decide)).trans ((zU_n (by decide)).trans ((zU_n (by decide)).trans (zU_e)))))) ((zU_n (by decide)).trans ((zU_n (by decide)).trans ((zU_n (by decide)).trans (zU_e)))) ((zU_n (by decide)).trans ((zU_n (by decide)).trans (zU_e))) hok), RelA_k hk (by repeat' constructor) (fun p => by repeat' constructor) hAc, RelS_k hk (zK_r (k := kM)) (fun x j a b => ⟨kL_38 (by decide) (by decide) x j a b, kM_38 x j a b⟩) (fun p => ⟨rfl, rfl, rfl⟩) rfl hS, RelT_k hk (by repeat' constructor) (fun p => by repeat' constructor) hTp, RelX_k hk (by repeat' constructor) (fun p => by repeat' constructor) hX, RelW_k hk ⟨rfl, rfl⟩ trivial hW⟩
theorem st_mend4_p3 {X : Nat × (Nat → Int32)} {d : Nat} {J M : zA} {R : zR} {p v : Int} (hr : Rel X J M R) (hp : -2147483648 ≤ p ∧ p < 2147483648) (hv : -2147483648 ≤ v ∧ v < 2147483648) (hV : zV (J 8 2) p (3)) (hf : zT 2 (3) ≤ v ∧ v ≤ zT 3 (3)) (he : ¬ (cN J) p (3) = v) (h40 : J 29 5 = 40) : zW X (d + 20) 104 0 (gEn 104 [(.ref 0), (zi p), (zi 3), (zi v)]) [] J M R (stP X (d + 20) 162 [(zi p), (zi 3), (zi v)]) := by
  have hr0 := hr
  obtain ⟨hR, hG, hY, hD, hP, hC, hAc, hS, hTp, hX, hW⟩ := hr0
  have hRr : zRoR R := zRoR_of hR
  have hY0 := hY
  obtain ⟨y1, y2, y3⟩ := hY0
  have yn := zNn y3
  have hC0 := hC
  obtain ⟨c1, c2, c3, c4, c5, c6⟩ := hC0
  have nr := zN_r y3 hV
  have nf := zN_fit y3 hV
  have hf2 : zFit (3) v := hf
  show zW _ _ _ _ [some (.ref 0), some (zi p), some (zi 3), some (zi v), none] _ _ _ _ _
  refine z_aload0 gi_104_0 ?_
  refine z_getR (r := 8) gi_104_1 gk_0 (hR _ rm_0_1) ?_
  refine z_iload1 gi_104_4 ?_
  refine z_iload2 gi_104_5 ?_
  refine z_callVP (As := [_, _]) (v := 1) gi_104_6 rfl gk_8 (Nat.le_of_ble_eq_true rfl) (Nat.le_of_ble_eq_true rfl) (isNumber_1 hR rfl yn hp (by decide) hV) ?_
  refine z_if_eqF gi_104_9 zr_1 (by decide) ?_
  refine z_iload2 gi_104_12 ?_
  refine z_iload3 gi_104_13 ?_
  refine z_callSP (As := [_, _]) (v := 1) gi_104_14 rfl (Nat.le_of_ble_eq_true rfl) (Nat.le_of_ble_eq_true rfl) (isFit_1 hv (by decide) (by omega) hf) ?_
  refine z_if_neT gi_104_17 zr_1 (by decide) ?_
  refine z_aload0 gi_104_22 ?_
  refine z_getR (r := 8) gi_104_23 gk_0 (hR _ rm_0_1) ?_
  refine z_iload1 gi_104_26 ?_
  refine z_iload2 gi_104_27 ?_
  refine z_callVP (As := [_, _]) (v := (cN J) p (3)) gi_104_28 rfl gk_8 (Nat.le_of_ble_eq_true rfl) (Nat.le_of_ble_eq_true rfl) (told_k hR zK_r rfl rfl y3 hp (by decide)) ?_
  refine z_istore (ls1 := [some (.ref 0), some (zi p), some (zi 3), some (zi v), some (zi ((cN J) p (3)))]) gi_104_31 rfl ?_
  refine z_iload4 gi_104_33 ?_
  refine z_iload3 gi_104_35 ?_
  refine z_icmp_eqF gi_104_36 (by omega) (by omega) (by omega) ?_
  refine z_aload0 gi_104_39 ?_
  refine z_getR (r := 29) gi_104_40 gk_0 (hR _ rm_0_9) ?_
  refine z_iload1 gi_104_43 ?_
  refine z_iload2 gi_104_44 ?_
  refine z_iload4 gi_104_45 ?_
  refine z_iload3 gi_104_47 ?_
  refine z_cV4 gi_104_48 gk_29 go_14 (Nat.le_of_ble_eq_true rfl) gc_14_RIIII ?_
  refine z_aload0 gi_14_0 ?_
  refine z_getI (v := 40) gi_14_1 gk_29 (h40) ?_
  refine z_pushJ gp_14_4 ?_
  refine z_icmp_ltF gi_14_6 zr_40 zr_40 (by decide) ?_
  refine z_aload0 gi_14_9 ?_
  refine z_cV0 gi_14_10 gk_29 go_15 (Nat.le_of_ble_eq_true rfl) gc_15_R ?_
  refine z_aload0 gi_15_0 ?_
  refine z_pushJ gp_15_1 ?_
  refine z_putI (y := 5) gi_15_3 rfl gk_29 ?_
  refine z_aload0 gi_15_6 ?_
  refine z_getR (r := 30) gi_15_7 gk_29 (hR _ rm_29_1) ?_
  refine z_pushJ gp_15_10 ?_
  refine z_aload0 gi_15_11 ?_
  refine z_getR (r := 30) gi_15_12 gk_29 (hR _ rm_29_1) ?_
  refine z_pushJ gp_15_15 ?_
  refine z_aload0 gi_15_16 ?_
  refine z_getI (v := 39) gi_15_17 gk_29 (zU_e) ?_
  refine z_copyI gi_15_20 gk_30 gk_30 (by decide) (by decide) (by decide) (by decide) (by decide) (by decide) (by decide) (by decide) ?_
  refine z_aload0 gi_15_23 ?_
  refine z_getR (r := 31) gi_15_24 gk_29 (hR _ rm_29_2) ?_
  refine z_pushJ gp_15_27 ?_
  refine z_aload0 gi_15_28 ?_
  refine z_getR (r := 31) gi_15_29 gk_29 (hR _ rm_29_2) ?_
  refine z_pushJ gp_15_32 ?_
  refine z_aload0 gi_15_33 ?_
  refine z_getI (v := 39) gi_15_34 gk_29 ((zC_n (by decide)).trans (zU_e)) ?_
  refine z_copyI gi_15_37 gk_31 gk_31 (by decide) (by decide) (by decide) (by decide) (by decide) (by decide) (by decide) (by decide) ?_
  refine z_aload0 gi_15_40 ?_
  refine z_getR (r := 32) gi_15_41 gk_29 (hR _ rm_29_3) ?_
  refine z_pushJ gp_15_44 ?_
  refine z_aload0 gi_15_45 ?_
  refine z_getR (r := 32) gi_15_46 gk_29 (hR _ rm_29_3) ?_
  refine z_pushJ gp_15_49 ?_
  refine z_aload0 gi_15_50 ?_
  refine z_getI (v := 39) gi_15_51 gk_29 ((zC_n (by decide)).trans ((zC_n (by decide)).trans (zU_e))) ?_
  refine z_copyI gi_15_54 gk_32 gk_32 (by decide) (by decide) (by decide) (by decide) (by decide) (by decide) (by decide) (by decide) ?_
  refine z_aload0 gi_15_57 ?_
  refine z_getR (r := 33) gi_15_58 gk_29 (hR _ rm_29_4) ?_
  refine z_pushJ gp_15_61 ?_
  refine z_aload0 gi_15_62 ?_
  refine z_getR (r := 33) gi_15_63 gk_29 (hR _ rm_29_4) ?_
  refine z_pushJ gp_15_66 ?_
  refine z_aload0 gi_15_67 ?_
  refine z_getI (v := 39) gi_15_68 gk_29 ((zC_n (by decide)).trans ((zC_n (by decide)).trans ((zC_n (by decide)).trans (zU_e)))) ?_
  refine z_copyI gi_15_71 gk_33 gk_33 (by decide) (by decide) (by decide) (by decide) (by decide) (by decide) (by decide) (by decide) ?_
  refine z_vret gi_15_74 gr_15 ?_
  show zW _ _ _ _ _ _ _ _ _ _
  refine z_aload0 gi_14_13 ?_
  refine z_getR (r := 30) gi_14_14 gk_29 (hR _ rm_29_1) ?_
  refine z_aload0 gi_14_17 ?_
  refine z_getI (v := 39) gi_14_18 gk_29 ((zC_n (by decide)).trans ((zC_n (by decide)).trans ((zC_n (by decide)).trans ((zC_n (by decide)).trans (zU_e))))) ?_
  refine z_iload1 gi_14_21 ?_
  refine z_iast (e := p) gi_14_22 gk_30 (by decide) (by decide) rfl ?_
  refine z_aload0 gi_14_23 ?_
  refine z_getR (r := 31) gi_14_24 gk_29 (hR _ rm_29_2) ?_
  refine z_aload0 gi_14_27 ?_
  refine z_getI (v := 39) gi_14_28 gk_29 ((zU_n (by decide)).trans ((zC_n (by decide)).trans ((zC_n (by decide)).trans ((zC_n (by decide)).trans ((zC_n (by decide)).trans (zU_e)))))) ?_
  refine z_iload2 gi_14_31 ?_
  refine z_iast (e := 3) gi_14_32 gk_31 (by decide) (by decide) rfl ?_
  refine z_aload0 gi_14_33 ?_
  refine z_getR (r := 32) gi_14_34 gk_29 (hR _ rm_29_3) ?_
  refine z_aload0 gi_14_37 ?_
  refine z_getI (v := 39) gi_14_38 gk_29 ((zU_n (by decide)).trans ((zU_n (by decide)).trans ((zC_n (by decide)).trans ((zC_n (by decide)).trans ((zC_n (by decide)).trans ((zC_n (by decide)).trans (zU_e))))))) ?_
  refine z_iload3 gi_14_41 ?_
  refine z_iast (e := (cN J) p (3)) gi_14_42 gk_32 (by decide) (by decide) rfl ?_
  refine z_aload0 gi_14_43 ?_
  refine z_getR (r := 33) gi_14_44 gk_29 (hR _ rm_29_4) ?_
  refine z_aload0 gi_14_47 ?_
  refine z_getI (v := 39) gi_14_48 gk_29 ((zU_n (by decide)).trans ((zU_n (by decide)).trans ((zU_n (by decide)).trans ((zC_n (by decide)).trans ((zC_n (by decide)).trans ((zC_n (by decide)).trans ((zC_n (by decide)).trans (zU_e)))))))) ?_
  refine z_iload4 gi_14_51 ?_
  refine z_iast (e := v) gi_14_53 gk_33 (by decide) (by decide) rfl ?_
  refine z_aload0 gi_14_54 ?_
  refine z_dup gi_14_55 rfl ?_
  refine z_getI (v := 39) gi_14_56 gk_29 ((zU_n (by decide)).trans ((zU_n (by decide)).trans ((zU_n (by decide)).trans ((zU_n (by decide)).trans ((zC_n (by decide)).trans ((zC_n (by decide)).trans ((zC_n (by decide)).trans ((zC_n (by decide)).trans (zU_e))))))))) ?_
  refine z_pushJ gp_14_59 ?_
  refine z_iadd (e := 40) gi_14_60 rfl ?_
  refine z_putI (y := 5) gi_14_61 rfl gk_29 ?_
  refine z_aload0 gi_14_64 ?_
  refine z_aload0 gi_14_65 ?_
  refine z_getI (v := 40) gi_14_66 gk_29 (zU_e) ?_
  refine z_putI (y := 6) gi_14_69 rfl gk_29 ?_
  refine z_vret gi_14_72 gr_14 ?_
  show zW _ _ _ _ _ _ _ _ _ _
  refine z_aload0 gi_104_51 ?_
  refine z_getR (r := 8) gi_104_52 gk_0 (hR _ rm_0_1) ?_
  refine z_iload1 gi_104_55 ?_
  refine z_iload2 gi_104_56 ?_
  refine z_iload3 gi_104_57 ?_
  refine z_callVx (As := [_, _, _]) gi_104_58 rfl gk_8 (Nat.le_of_ble_eq_true rfl) (Nat.le_of_ble_eq_true rfl) (tell_p (n := J 8 2) hR rfl yn hp (by decide) (by omega)) ?_
  show zW _ _ _ _ _ _ _ _ _ _
  refine z_iload4 gi_104_61 ?_
  refine z_iret gi_104_63 gr_104 ?_
  refine ⟨_, rfl, ?_⟩
  show zW _ _ _ _ [some (.ref 50), some (zi p), some (zi 3), some (zi v)] _ _ _ _ _
  refine z_aload0 gi_162_0 ?_
  refine z_iload1 gi_162_1 ?_
  refine z_iload2 gi_162_2 ?_
  refine z_callVP (As := [_, _]) (v := 1) gi_162_3 rfl gk_50 (Nat.le_of_ble_eq_true rfl) (Nat.le_of_ble_eq_true rfl) (isOne_1 hRr y2.symm yn hp (by decide) hV) ?_
  refine z_if_eqF gi_162_6 zr_1 (by decide) ?_
  refine z_iload2 gi_162_9 ?_
  refine z_iload3 gi_162_10 ?_
  refine z_callSP (As := [_, _]) (v := 1) gi_162_11 rfl (Nat.le_of_ble_eq_true rfl) (Nat.le_of_ble_eq_true rfl) (mayBe_1 hv (by decide) (by omega) hf) ?_
  refine z_if_eqF gi_162_14 zr_1 (by decide) ?_
  refine z_aload0 gi_162_17 ?_
  refine z_iload2 gi_162_18 ?_
  refine z_iload1 gi_162_19 ?_
  refine z_iload3 gi_162_20 ?_
  refine z_callVi (As := [_, _, _]) (le := [some _, some _, some _, some _, none, none]) gi_162_21 rfl gk_50 (Nat.le_of_ble_eq_true rfl) (Nat.le_of_ble_eq_true rfl) rfl ?_
  refine z_aload0 gi_157_0 ?_
  refine z_iload1 gi_157_1 ?_
  refine z_iload2 gi_157_2 ?_
  refine z_callVP (As := [_, _]) (v := (cN J) p (3)) gi_157_3 rfl gk_50 (Nat.le_of_ble_eq_true rfl) (Nat.le_of_ble_eq_true rfl) (valueAt_s hRr ((rN_z (zK_x (a := 9) (x := p * 5 + 3) (v := v) (zK_x (a := 29) (x := 6) (v := 40) (zK_x (a := 29) (x := 5) (v := 40) (zK_x (a := 33) (x := 39) (v := v) (zK_x (a := 32) (x := 39) (v := (cN J) p (3)) (zK_x (a := 31) (x := 39) (v := 3) (zK_x (a := 30) (x := 39) (v := p) (zK_c (a := 33) (b := 33) (sp := 1) (dp := 0) (n := 39) (zK_c (a := 32) (b := 32) (sp := 1) (dp := 0) (n := 39) (zK_c (a := 31) (b := 31) (sp := 1) (dp := 0) (n := 39) (zK_c (a := 30) (b := 30) (sp := 1) (dp := 0) (n := 39) (zK_x (a := 29) (x := 5) (v := 39) (zK_r (k := kHi) (A := J)) rfl) (fun _ => rfl)) (fun _ => rfl)) (fun _ => rfl)) (fun _ => rfl)) rfl) rfl) rfl) rfl) rfl) rfl) rfl)).trans y1.symm) y2.symm y3 hp (by decide) hV) ?_
  refine z_istore (ls1 := [some (.ref 50), some (zi 3), some (zi p), some (zi v), some (zi ((cN J) p (3))), none]) gi_157_6 rfl ?_
  refine z_iload4 gi_157_8 ?_
  refine z_iload3 gi_157_10 ?_
  refine z_icmp_neT gi_157_11 (by omega) (by omega) (by omega) ?_
  refine z_aload0 gi_157_17 ?_
  refine z_pushJ gp_157_18 ?_
  refine z_putI (y := 9) gi_157_19 rfl gk_50 ?_
  refine z_aload0 gi_157_22 ?_
  refine z_getI (v := 40) gi_157_23 gk_50 ((zU_x (by decide)).trans ((zU_n (by decide)).trans ((zU_n (by decide)).trans ((zU_n (by decide)).trans ((zU_n (by decide)).trans ((zU_n (by decide)).trans ((zU_n (by decide)).trans ((zU_n (by decide)).trans ((zC_n (by decide)).trans ((zC_n (by decide)).trans ((zC_n (by decide)).trans ((zC_n (by decide)).trans ((zU_n (by decide)).trans (c1.symm.trans h40)))))))))))))) ?_
  refine z_pushJ gp_157_26 ?_
  refine z_icmp_neF gi_157_28 zr_40 zr_40 (by decide) ?_
  refine z_pushJ gp_157_31 ?_
  refine z_istore (ls1 := [some (.ref 50), some (zi 3), some (zi p), some (zi v), some (zi ((cN J) p (3))), some (zi 1)]) gi_157_32 rfl ?_
  show zW _ _ _ _ [some (.ref 50), some (zi 3), some (zi p), some (zi v), some (zi ((cN J) p (3))), some (zi 1)] [] _ _ _ _
  refine zC4_in ?_
  refine shift40_z hRr 39 0 (by decide) (by decide) ?_
  refine z_aload0 gi_157_111 ?_
  refine z_dup gi_157_112 rfl ?_
  refine z_getI (v := 40) gi_157_113 gk_50 ((zC_n (by decide)).trans ((zC_n (by decide)).trans ((zC_n (by decide)).trans ((zC_n (by decide)).trans ((zU_x (by decide)).trans ((zU_n (by decide)).trans ((zU_n (by decide)).trans ((zU_n (by decide)).trans ((zU_n (by decide)).trans ((zU_n (by decide)).trans ((zU_n (by decide)).trans ((zU_n (by decide)).trans ((zC_n (by decide)).trans ((zC_n (by decide)).trans ((zC_n (by decide)).trans ((zC_n (by decide)).trans ((zU_n (by decide)).trans (c1.symm.trans h40)))))))))))))))))) ?_
  refine z_pushJ gp_157_116 ?_
  refine z_isub (e := 39) gi_157_117 rfl ?_
  refine z_putI (y := 8) gi_157_118 rfl gk_50 ?_
  refine z_aload0 gi_157_121 ?_
  refine z_getR (r := 57) gi_157_122 gk_50 (hRr _ rm_50_10 (by decide)) ?_
  refine z_aload0 gi_157_125 ?_
  refine z_getI (v := 39) gi_157_126 gk_50 (zU_e) ?_
  refine z_iload1 gi_157_129 ?_
  refine z_iast (e := 3) gi_157_130 gk_57 (by decide) (by decide) rfl ?_
  refine z_aload0 gi_157_131 ?_
  refine z_getR (r := 58) gi_157_132 gk_50 (hRr _ rm_50_11 (by decide)) ?_
  refine z_aload0 gi_157_135 ?_
  refine z_getI (v := 39) gi_157_136 gk_50 ((zU_n (by decide)).trans (zU_e)) ?_
  refine z_iload2 gi_157_139 ?_
  refine z_iast (e := p) gi_157_140 gk_58 (by decide) (by decide) rfl ?_
  refine z_aload0 gi_157_141 ?_
  refine z_getR (r := 59) gi_157_142 gk_50 (hRr _ rm_50_12 (by decide)) ?_
  refine z_aload0 gi_157_145 ?_
  refine z_getI (v := 39) gi_157_146 gk_50 ((zU_n (by decide)).trans ((zU_n (by decide)).trans (zU_e))) ?_
  refine z_iload4 gi_157_149 ?_
  refine z_iast (e := (cN J) p (3)) gi_157_151 gk_59 (by decide) (by decide) rfl ?_
  refine z_aload0 gi_157_152 ?_
  refine z_getR (r := 60) gi_157_153 gk_50 (hRr _ rm_50_13 (by decide)) ?_
  refine z_aload0 gi_157_156 ?_
  refine z_getI (v := 39) gi_157_157 gk_50 ((zU_n (by decide)).trans ((zU_n (by decide)).trans ((zU_n (by decide)).trans (zU_e)))) ?_
  refine z_iload3 gi_157_160 ?_
  refine z_iast (e := v) gi_157_161 gk_60 (by decide) (by decide) rfl ?_
  refine z_aload0 gi_157_162 ?_
  refine z_dup gi_157_163 rfl ?_
  refine z_getI (v := 39) gi_157_164 gk_50 ((zU_n (by decide)).trans ((zU_n (by decide)).trans ((zU_n (by decide)).trans ((zU_n (by decide)).trans (zU_e))))) ?_
  refine z_pushJ gp_157_167 ?_
  refine z_iadd (e := 40) gi_157_168 rfl ?_
  refine z_putI (y := 8) gi_157_169 rfl gk_50 ?_
  refine z_aload0 gi_157_172 ?_
  refine z_iload1 gi_157_173 ?_
  refine z_iload2 gi_157_174 ?_
  refine z_iload3 gi_157_175 ?_
  refine z_callVx (As := [_, _, _]) gi_157_176 rfl gk_50 (Nat.le_of_ble_eq_true rfl) (Nat.le_of_ble_eq_true rfl) (lays_p (n := J 8 2) hRr y2.symm yn hp (by decide) (by omega)) ?_
  show zW _ _ _ _ _ _ _ _ _ _
  refine z_iload4 gi_157_179 ?_
  refine z_iret gi_157_181 gr_157 ?_
  show zW _ _ _ _ _ _ _ _ _ _
  refine z_goto gi_162_24 ?_
  refine z_iret gi_162_28 gr_162 ?_
  refine ⟨?_, ?_⟩
  · first | rfl | exact congrArg (fun v => some (zi v)) (by omega) | (exfalso; omega)
  · have hs := (zK_u (a := 54) (x := p) (v := v) (zK_x (a := 50) (x := 8) (v := 40) (zK_x (a := 60) (x := 39) (v := v) (zK_x (a := 59) (x := 39) (v := (cN J) p (3)) (zK_x (a := 58) (x := 39) (v := p) (zK_x (a := 57) (x := 39) (v := 3) (zK_x (a := 50) (x := 8) (v := 39) (zK_c (a := 60) (b := 60) (sp := 1) (dp := 0) (n := 39) (zK_c (a := 59) (b := 59) (sp := 1) (dp := 0) (n := 39) (zK_c (a := 58) (b := 58) (sp := 1) (dp := 0) (n := 39) (zK_c (a := 57) (b := 57) (sp := 1) (dp := 0) (n := 39) (zK_x (a := 50) (x := 9) (v := 0) (zK_u (a := 9) (x := p * 5 + 3) (v := v) (zK_x (a := 29) (x := 6) (v := 40) (zK_x (a := 29) (x := 5) (v := 40) (zK_x (a := 33) (x := 39) (v := v) (zK_x (a := 32) (x := 39) (v := (cN J) p (3)) (zK_x (a := 31) (x := 39) (v := 3) (zK_x (a := 30) (x := 39) (v := p) (zK_c (a := 33) (b := 33) (sp := 1) (dp := 0) (n := 39) (zK_c (a := 32) (b := 32) (sp := 1) (dp := 0) (n := 39) (zK_c (a := 31) (b := 31) (sp := 1) (dp := 0) (n := 39) (zK_c (a := 30) (b := 30) (sp := 1) (dp := 0) (n := 39) (zK_x (a := 29) (x := 5) (v := 39) (zK_r (k := (kL [30, 31, 32, 33, 57, 58, 59, 60] [(29, 5), (30, 39), (31, 39), (32, 39), (33, 39), (29, 6), (50, 9), (50, 8), (57, 39), (58, 39), (59, 39), (60, 39)])) (A := J)) rfl) (fun _ => rfl)) (fun _ => rfl)) (fun _ => rfl)) (fun _ => rfl)) rfl) rfl) rfl) rfl) rfl) rfl)) rfl) (fun _ => rfl)) (fun _ => rfl)) (fun _ => rfl)) (fun _ => rfl)) rfl) rfl) rfl) rfl) rfl) rfl))
    have hY2 := RelY_k hs (by repeat' constructor) (fun p => by repeat' constructor) (RelY_p (p := p) (w := 3) hY (by omega) (by omega) hf2 (by omega) rfl rfl)
    have hok : zOkc (J 8 2) p (3) ((cN J) p (3)) v := ⟨hV, nf, hf2⟩
    have hk := (zK_x (a := 54) (x := p) (v := v) (zK_x (a := 50) (x := 8) (v := 40) (zK_x (a := 60) (x := 39) (v := v) (zK_x (a := 59) (x := 39) (v := (cN J) p (3)) (zK_x (a := 58) (x := 39) (v := p) (zK_x (a := 57) (x := 39) (v := 3) (zK_x (a := 50) (x := 8) (v := 39) (zK_c (a := 60) (b := 60) (sp := 1) (dp := 0) (n := 39) (zK_c (a := 59) (b := 59) (sp := 1) (dp := 0) (n := 39) (zK_c (a := 58) (b := 58) (sp := 1) (dp := 0) (n := 39) (zK_c (a := 57) (b := 57) (sp := 1) (dp := 0) (n := 39) (zK_x (a := 50) (x := 9) (v := 0) (zK_x (a := 9) (x := p * 5 + 3) (v := v) (zK_x (a := 29) (x := 6) (v := 40) (zK_x (a := 29) (x := 5) (v := 40) (zK_x (a := 33) (x := 39) (v := v) (zK_x (a := 32) (x := 39) (v := (cN J) p (3)) (zK_x (a := 31) (x := 39) (v := 3) (zK_x (a := 30) (x := 39) (v := p) (zK_c (a := 33) (b := 33) (sp := 1) (dp := 0) (n := 39) (zK_c (a := 32) (b := 32) (sp := 1) (dp := 0) (n := 39) (zK_c (a := 31) (b := 31) (sp := 1) (dp := 0) (n := 39) (zK_c (a := 30) (b := 30) (sp := 1) (dp := 0) (n := 39) (zK_x (a := 29) (x := 5) (v := 39) (zK_r (k := (kL [30, 31, 32, 33, 9, 57, 58, 59, 60, 54] [(29, 5), (30, 39), (31, 39), (32, 39), (33, 39), (29, 6), (50, 9), (50, 8), (57, 39), (58, 39), (59, 39), (60, 39)])) (A := J)) rfl) (fun _ => rfl)) (fun _ => rfl)) (fun _ => rfl)) (fun _ => rfl)) rfl) rfl) rfl) rfl) rfl) rfl) rfl) rfl) (fun _ => rfl)) (fun _ => rfl)) (fun _ => rfl)) (fun _ => rfl)) rfl) rfl) rfl) rfl) rfl) rfl) rfl)
    exact ⟨hR, hG, hY2, RelD_k hk (by repeat' constructor) (fun p => by repeat' constructor) hD, RelP_k hk (by repeat' constructor) (fun p => by repeat' constructor) hP, (RelC_mk (K := J) (d := 39) (o := 1) rfl rfl rfl rfl (by decide) (by decide) rfl rfl hC (by omega) (fun i i1 i2 => ⟨⟨(zU_n (by decide)).trans ((zU_n (by decide)).trans ((zU_n (by decide)).trans ((zU_n (by decide)).trans ((zU_n (by decide)).trans ((zU_n (by decide)).trans ((zU_n (by decide)).trans ((zC_n (by decide)).trans ((zC_n (by decide)).trans ((zC_n (by decide)).trans ((zC_n (by decide)).trans ((zU_n (by decide)).trans ((zU_n (by decide)).trans ((zU_n (by decide)).trans ((zU_n (by decide)).trans ((zU_n (by decide)).trans ((zU_n (by decide)).trans ((zU_n (by decide)).trans ((zU_x (by omega)).trans ((zC_n (by decide)).trans ((zC_n (by decide)).trans ((zC_n (by decide)).trans ((zC_sh (by omega)).trans ((zU_n (by decide)).trans (rfl)))))))))))))))))))))))), (zU_n (by decide)).trans ((zU_n (by decide)).trans ((zU_n (by decide)).trans ((zU_n (by decide)).trans ((zU_n (by decide)).trans ((zU_n (by decide)).trans ((zU_n (by decide)).trans ((zC_n (by decide)).trans ((zC_n (by decide)).trans ((zC_n (by decide)).trans ((zC_n (by decide)).trans ((zU_n (by decide)).trans ((zU_n (by decide)).trans ((zU_n (by decide)).trans ((zU_n (by decide)).trans ((zU_n (by decide)).trans ((zU_n (by decide)).trans ((zU_x (by omega)).trans ((zU_n (by decide)).trans ((zC_n (by decide)).trans ((zC_n (by decide)).trans ((zC_sh (by omega)).trans ((zC_n (by decide)).trans ((zU_n (by decide)).trans (rfl)))))))))))))))))))))))), (zU_n (by decide)).trans ((zU_n (by decide)).trans ((zU_n (by decide)).trans ((zU_n (by decide)).trans ((zU_n (by decide)).trans ((zU_n (by decide)).trans ((zU_n (by decide)).trans ((zC_n (by decide)).trans ((zC_n (by decide)).trans ((zC_n (by decide)).trans ((zC_n (by decide)).trans ((zU_n (by decide)).trans ((zU_n (by decide)).trans ((zU_n (by decide)).trans ((zU_n (by decide)).trans ((zU_n (by decide)).trans ((zU_x (by omega)).trans ((zU_n (by decide)).trans ((zU_n (by decide)).trans ((zC_n (by decide)).trans ((zC_sh (by omega)).trans ((zC_n (by decide)).trans ((zC_n (by decide)).trans ((zU_n (by decide)).trans (rfl)))))))))))))))))))))))), (zU_n (by decide)).trans ((zU_n (by decide)).trans ((zU_n (by decide)).trans ((zU_n (by decide)).trans ((zU_n (by decide)).trans ((zU_n (by decide)).trans ((zU_n (by decide)).trans ((zC_n (by decide)).trans ((zC_n (by decide)).trans ((zC_n (by decide)).trans ((zC_n (by decide)).trans ((zU_n (by decide)).trans ((zU_n (by decide)).trans ((zU_n (by decide)).trans ((zU_n (by decide)).trans ((zU_x (by omega)).trans ((zU_n (by decide)).trans ((zU_n (by decide)).trans ((zU_n (by decide)).trans ((zC_sh (by omega)).trans ((zC_n (by decide)).trans ((zC_n (by decide)).trans ((zC_n (by decide)).trans ((zU_n (by decide)).trans (rfl))))))))))))))))))))))))⟩, ⟨(zU_n (by decide)).trans ((zU_n (by decide)).trans ((zU_n (by decide)).trans ((zU_n (by decide)).trans ((zU_x (by omega)).trans ((zU_n (by decide)).trans ((zU_n (by decide)).trans ((zC_n (by decide)).trans ((zC_n (by decide)).trans ((zC_sh (by omega)).trans ((zC_n (by decide)).trans ((zU_n (by decide)).trans ((zU_n (by decide)).trans ((zU_n (by decide)).trans ((zU_n (by decide)).trans ((zU_n (by decide)).trans ((zU_n (by decide)).trans ((zU_n (by decide)).trans ((zU_n (by decide)).trans ((zC_n (by decide)).trans ((zC_n (by decide)).trans ((zC_n (by decide)).trans ((zC_n (by decide)).trans ((zU_n (by decide)).trans (rfl)))))))))))))))))))))))), (zU_n (by decide)).trans ((zU_n (by decide)).trans ((zU_n (by decide)).trans ((zU_n (by decide)).trans ((zU_n (by decide)).trans ((zU_x (by omega)).trans ((zU_n (by decide)).trans ((zC_n (by decide)).trans ((zC_n (by decide)).trans ((zC_n (by decide)).trans ((zC_sh (by omega)).trans ((zU_n (by decide)).trans ((zU_n (by decide)).trans ((zU_n (by decide)).trans ((zU_n (by decide)).trans ((zU_n (by decide)).trans ((zU_n (by decide)).trans ((zU_n (by decide)).trans ((zU_n (by decide)).trans ((zC_n (by decide)).trans ((zC_n (by decide)).trans ((zC_n (by decide)).trans ((zC_n (by decide)).trans ((zU_n (by decide)).trans (rfl)))))))))))))))))))))))), (zU_n (by decide)).trans ((zU_n (by decide)).trans ((zU_n (by decide)).trans ((zU_x (by omega)).trans ((zU_n (by decide)).trans ((zU_n (by decide)).trans ((zU_n (by decide)).trans ((zC_n (by decide)).trans ((zC_sh (by omega)).trans ((zC_n (by decide)).trans ((zC_n (by decide)).trans ((zU_n (by decide)).trans ((zU_n (by decide)).trans ((zU_n (by decide)).trans ((zU_n (by decide)).trans ((zU_n (by decide)).trans ((zU_n (by decide)).trans ((zU_n (by decide)).trans ((zU_n (by decide)).trans ((zC_n (by decide)).trans ((zC_n (by decide)).trans ((zC_n (by decide)).trans ((zC_n (by decide)).trans ((zU_n (by decide)).trans (rfl)))))))))))))))))))))))), (zU_n (by decide)).trans ((zU_n (by decide)).trans ((zU_x (by omega)).trans ((zU_n (by decide)).trans ((zU_n (by decide)).trans ((zU_n (by decide)).trans ((zU_n (by decide)).trans ((zC_sh (by omega)).trans ((zC_n (by decide)).trans ((zC_n (by decide)).trans ((zC_n (by decide)).trans ((zU_n (by decide)).trans ((zU_n (by decide)).trans ((zU_n (by decide)).trans ((zU_n (by decide)).trans ((zU_n (by decide)).trans ((zU_n (by decide)).trans ((zU_n (by decide)).trans ((zU_n (by decide)).trans ((zC_n (by decide)).trans ((zC_n (by decide)).trans ((zC_n (by decide)).trans ((zC_n (by decide)).trans ((zU_n (by decide)).trans (rfl))))))))))))))))))))))))⟩⟩) ((zU_n (by decide)).trans ((zU_n (by decide)).trans ((zU_n (by decide)).trans ((zU_n (by decide)).trans ((zU_n (by decide)).trans ((zU_n (by decide)).trans ((zU_n (by decide)).trans ((zC_n (by decide)).trans ((zC_n (by decide)).trans ((zC_n (by decide)).trans ((zC_n (by decide)).trans ((zU_n (by decide)).trans ((zU_n (by decide)).trans ((zU_n (by decide)).trans ((zU_n (by decide)).trans ((zU_n (by decide)).trans ((zU_n (by decide)).trans ((zU_n (by decide)).trans (zU_e))))))))))))))))))) ((zU_n (by decide)).trans ((zU_n (by decide)).trans ((zU_n (by decide)).trans ((zU_n (by decide)).trans ((zU_n (by decide)).trans ((zU_n (by decide)).trans ((zU_n (by decide)).trans ((zC_n (by decide)).trans ((zC_n (by decide)).trans ((zC_n (by decide)).trans ((zC_n (by decide)).trans ((zU_n (by decide)).trans ((zU_n (by decide)).trans ((zU_n (by decide)).trans ((zU_n (by decide)).trans ((zU_n (by decide)).trans ((zU_n (by decide)).trans (zU_e)))))))))))))))))) ((zU_n (by decide)).trans ((zU_n (by decide)).trans ((zU_n (by decide)).trans ((zU_n (by decide)).trans ((zU_n (by decide)).trans ((zU_n (by decide)).trans ((zU_n (by decide)).trans ((zC_n (by decide)).trans ((zC_n (by decide)).trans ((zC_n (by decide)).trans ((zC_n (by decide)).trans ((zU_n (by decide)).trans ((zU_n (by decide)).trans ((zU_n (by decide)).trans ((zU_n (by decide)).trans ((zU_n (by decide)).trans (zU_e))))))))))))))))) ((zU_n (by decide)).trans ((zU_n (by decide)).trans ((zU_n (by decide)).trans ((zU_n (by decide)).trans ((zU_n (by decide)).trans ((zU_n (by decide)).trans ((zU_n (by decide)).trans ((zC_n (by decide)).trans ((zC_n (by decide)).trans ((zC_n (by decide)).trans ((zC_n (by decide)).trans ((zU_n (by decide)).trans ((zU_n (by decide)).trans ((zU_n (by decide)).trans ((zU_n (by decide)).trans (zU_e)))))))))))))))) ((zU_n (by decide)).trans ((zU_n (by decide)).trans ((zU_n (by decide)).trans ((zU_n (by decide)).trans (zU_e))))) ((zU_n (by decide)).trans ((zU_n (by decide)).trans ((zU_n (by decide)).trans ((zU_n (by decide)).trans ((zU_n (by decide)).trans (zU_e)))))) ((zU_n (by decide)).trans ((zU_n (by decide)).trans ((zU_n (by decide)).trans (zU_e)))) ((zU_n (by decide)).trans ((zU_n (by decide)).trans (zU_e))) hok), RelA_k hk (by repeat' constructor) (fun p => by repeat' constructor) hAc, RelS_k hk (zK_r (k := kM)) (fun x j a b => ⟨kL_38 (by decide) (by decide) x j a b, kM_38 x j a b⟩) (fun p => ⟨rfl, rfl, rfl⟩) rfl hS, RelT_k hk (by repeat' constructor) (fun p => by repeat' constructor) hTp, RelX_k hk (by repeat' constructor) (fun p => by repeat' constructor) hX, RelW_k hk ⟨rfl, rfl⟩ trivial hW⟩
theorem st_mend4_p4 {X : Nat × (Nat → Int32)} {d : Nat} {J M : zA} {R : zR} {p v : Int} (hr : Rel X J M R) (hp : -2147483648 ≤ p ∧ p < 2147483648) (hv : -2147483648 ≤ v ∧ v < 2147483648) (hV : zV (J 8 2) p (4)) (hf : zT 2 (4) ≤ v ∧ v ≤ zT 3 (4)) (he : ¬ (cN J) p (4) = v) (h40 : J 29 5 = 40) : zW X (d + 20) 104 0 (gEn 104 [(.ref 0), (zi p), (zi 4), (zi v)]) [] J M R (stP X (d + 20) 162 [(zi p), (zi 4), (zi v)]) := by
  have hr0 := hr
  obtain ⟨hR, hG, hY, hD, hP, hC, hAc, hS, hTp, hX, hW⟩ := hr0
  have hRr : zRoR R := zRoR_of hR
  have hY0 := hY
  obtain ⟨y1, y2, y3⟩ := hY0
  have yn := zNn y3
  have hC0 := hC
  obtain ⟨c1, c2, c3, c4, c5, c6⟩ := hC0
  have nr := zN_r y3 hV
  have nf := zN_fit y3 hV
  have hf2 : zFit (4) v := hf
  show zW _ _ _ _ [some (.ref 0), some (zi p), some (zi 4), some (zi v), none] _ _ _ _ _
  refine z_aload0 gi_104_0 ?_
  refine z_getR (r := 8) gi_104_1 gk_0 (hR _ rm_0_1) ?_
  refine z_iload1 gi_104_4 ?_
  refine z_iload2 gi_104_5 ?_
  refine z_callVP (As := [_, _]) (v := 1) gi_104_6 rfl gk_8 (Nat.le_of_ble_eq_true rfl) (Nat.le_of_ble_eq_true rfl) (isNumber_1 hR rfl yn hp (by decide) hV) ?_
  refine z_if_eqF gi_104_9 zr_1 (by decide) ?_
  refine z_iload2 gi_104_12 ?_
  refine z_iload3 gi_104_13 ?_
  refine z_callSP (As := [_, _]) (v := 1) gi_104_14 rfl (Nat.le_of_ble_eq_true rfl) (Nat.le_of_ble_eq_true rfl) (isFit_1 hv (by decide) (by omega) hf) ?_
  refine z_if_neT gi_104_17 zr_1 (by decide) ?_
  refine z_aload0 gi_104_22 ?_
  refine z_getR (r := 8) gi_104_23 gk_0 (hR _ rm_0_1) ?_
  refine z_iload1 gi_104_26 ?_
  refine z_iload2 gi_104_27 ?_
  refine z_callVP (As := [_, _]) (v := (cN J) p (4)) gi_104_28 rfl gk_8 (Nat.le_of_ble_eq_true rfl) (Nat.le_of_ble_eq_true rfl) (told_k hR zK_r rfl rfl y3 hp (by decide)) ?_
  refine z_istore (ls1 := [some (.ref 0), some (zi p), some (zi 4), some (zi v), some (zi ((cN J) p (4)))]) gi_104_31 rfl ?_
  refine z_iload4 gi_104_33 ?_
  refine z_iload3 gi_104_35 ?_
  refine z_icmp_eqF gi_104_36 (by omega) (by omega) (by omega) ?_
  refine z_aload0 gi_104_39 ?_
  refine z_getR (r := 29) gi_104_40 gk_0 (hR _ rm_0_9) ?_
  refine z_iload1 gi_104_43 ?_
  refine z_iload2 gi_104_44 ?_
  refine z_iload4 gi_104_45 ?_
  refine z_iload3 gi_104_47 ?_
  refine z_cV4 gi_104_48 gk_29 go_14 (Nat.le_of_ble_eq_true rfl) gc_14_RIIII ?_
  refine z_aload0 gi_14_0 ?_
  refine z_getI (v := 40) gi_14_1 gk_29 (h40) ?_
  refine z_pushJ gp_14_4 ?_
  refine z_icmp_ltF gi_14_6 zr_40 zr_40 (by decide) ?_
  refine z_aload0 gi_14_9 ?_
  refine z_cV0 gi_14_10 gk_29 go_15 (Nat.le_of_ble_eq_true rfl) gc_15_R ?_
  refine z_aload0 gi_15_0 ?_
  refine z_pushJ gp_15_1 ?_
  refine z_putI (y := 5) gi_15_3 rfl gk_29 ?_
  refine z_aload0 gi_15_6 ?_
  refine z_getR (r := 30) gi_15_7 gk_29 (hR _ rm_29_1) ?_
  refine z_pushJ gp_15_10 ?_
  refine z_aload0 gi_15_11 ?_
  refine z_getR (r := 30) gi_15_12 gk_29 (hR _ rm_29_1) ?_
  refine z_pushJ gp_15_15 ?_
  refine z_aload0 gi_15_16 ?_
  refine z_getI (v := 39) gi_15_17 gk_29 (zU_e) ?_
  refine z_copyI gi_15_20 gk_30 gk_30 (by decide) (by decide) (by decide) (by decide) (by decide) (by decide) (by decide) (by decide) ?_
  refine z_aload0 gi_15_23 ?_
  refine z_getR (r := 31) gi_15_24 gk_29 (hR _ rm_29_2) ?_
  refine z_pushJ gp_15_27 ?_
  refine z_aload0 gi_15_28 ?_
  refine z_getR (r := 31) gi_15_29 gk_29 (hR _ rm_29_2) ?_
  refine z_pushJ gp_15_32 ?_
  refine z_aload0 gi_15_33 ?_
  refine z_getI (v := 39) gi_15_34 gk_29 ((zC_n (by decide)).trans (zU_e)) ?_
  refine z_copyI gi_15_37 gk_31 gk_31 (by decide) (by decide) (by decide) (by decide) (by decide) (by decide) (by decide) (by decide) ?_
  refine z_aload0 gi_15_40 ?_
  refine z_getR (r := 32) gi_15_41 gk_29 (hR _ rm_29_3) ?_
  refine z_pushJ gp_15_44 ?_
  refine z_aload0 gi_15_45 ?_
  refine z_getR (r := 32) gi_15_46 gk_29 (hR _ rm_29_3) ?_
  refine z_pushJ gp_15_49 ?_
  refine z_aload0 gi_15_50 ?_
  refine z_getI (v := 39) gi_15_51 gk_29 ((zC_n (by decide)).trans ((zC_n (by decide)).trans (zU_e))) ?_
  refine z_copyI gi_15_54 gk_32 gk_32 (by decide) (by decide) (by decide) (by decide) (by decide) (by decide) (by decide) (by decide) ?_
  refine z_aload0 gi_15_57 ?_
  refine z_getR (r := 33) gi_15_58 gk_29 (hR _ rm_29_4) ?_
  refine z_pushJ gp_15_61 ?_
  refine z_aload0 gi_15_62 ?_
  refine z_getR (r := 33) gi_15_63 gk_29 (hR _ rm_29_4) ?_
  refine z_pushJ gp_15_66 ?_
  refine z_aload0 gi_15_67 ?_
  refine z_getI (v := 39) gi_15_68 gk_29 ((zC_n (by decide)).trans ((zC_n (by decide)).trans ((zC_n (by decide)).trans (zU_e)))) ?_
  refine z_copyI gi_15_71 gk_33 gk_33 (by decide) (by decide) (by decide) (by decide) (by decide) (by decide) (by decide) (by decide) ?_
  refine z_vret gi_15_74 gr_15 ?_
  show zW _ _ _ _ _ _ _ _ _ _
  refine z_aload0 gi_14_13 ?_
  refine z_getR (r := 30) gi_14_14 gk_29 (hR _ rm_29_1) ?_
  refine z_aload0 gi_14_17 ?_
  refine z_getI (v := 39) gi_14_18 gk_29 ((zC_n (by decide)).trans ((zC_n (by decide)).trans ((zC_n (by decide)).trans ((zC_n (by decide)).trans (zU_e))))) ?_
  refine z_iload1 gi_14_21 ?_
  refine z_iast (e := p) gi_14_22 gk_30 (by decide) (by decide) rfl ?_
  refine z_aload0 gi_14_23 ?_
  refine z_getR (r := 31) gi_14_24 gk_29 (hR _ rm_29_2) ?_
  refine z_aload0 gi_14_27 ?_
  refine z_getI (v := 39) gi_14_28 gk_29 ((zU_n (by decide)).trans ((zC_n (by decide)).trans ((zC_n (by decide)).trans ((zC_n (by decide)).trans ((zC_n (by decide)).trans (zU_e)))))) ?_
  refine z_iload2 gi_14_31 ?_
  refine z_iast (e := 4) gi_14_32 gk_31 (by decide) (by decide) rfl ?_
  refine z_aload0 gi_14_33 ?_
  refine z_getR (r := 32) gi_14_34 gk_29 (hR _ rm_29_3) ?_
  refine z_aload0 gi_14_37 ?_
  refine z_getI (v := 39) gi_14_38 gk_29 ((zU_n (by decide)).trans ((zU_n (by decide)).trans ((zC_n (by decide)).trans ((zC_n (by decide)).trans ((zC_n (by decide)).trans ((zC_n (by decide)).trans (zU_e))))))) ?_
  refine z_iload3 gi_14_41 ?_
  refine z_iast (e := (cN J) p (4)) gi_14_42 gk_32 (by decide) (by decide) rfl ?_
  refine z_aload0 gi_14_43 ?_
  refine z_getR (r := 33) gi_14_44 gk_29 (hR _ rm_29_4) ?_
  refine z_aload0 gi_14_47 ?_
  refine z_getI (v := 39) gi_14_48 gk_29 ((zU_n (by decide)).trans ((zU_n (by decide)).trans ((zU_n (by decide)).trans ((zC_n (by decide)).trans ((zC_n (by decide)).trans ((zC_n (by decide)).trans ((zC_n (by decide)).trans (zU_e)))))))) ?_
  refine z_iload4 gi_14_51 ?_
  refine z_iast (e := v) gi_14_53 gk_33 (by decide) (by decide) rfl ?_
  refine z_aload0 gi_14_54 ?_
  refine z_dup gi_14_55 rfl ?_
  refine z_getI (v := 39) gi_14_56 gk_29 ((zU_n (by decide)).trans ((zU_n (by decide)).trans ((zU_n (by decide)).trans ((zU_n (by decide)).trans ((zC_n (by decide)).trans ((zC_n (by decide)).trans ((zC_n (by decide)).trans ((zC_n (by decide)).trans (zU_e))))))))) ?_
  refine z_pushJ gp_14_59 ?_
  refine z_iadd (e := 40) gi_14_60 rfl ?_
  refine z_putI (y := 5) gi_14_61 rfl gk_29 ?_
  refine z_aload0 gi_14_64 ?_
  refine z_aload0 gi_14_65 ?_
  refine z_getI (v := 40) gi_14_66 gk_29 (zU_e) ?_
  refine z_putI (y := 6) gi_14_69 rfl gk_29 ?_
  refine z_vret gi_14_72 gr_14 ?_
  show zW _ _ _ _ _ _ _ _ _ _
  refine z_aload0 gi_104_51 ?_
  refine z_getR (r := 8) gi_104_52 gk_0 (hR _ rm_0_1) ?_
  refine z_iload1 gi_104_55 ?_
  refine z_iload2 gi_104_56 ?_
  refine z_iload3 gi_104_57 ?_
  refine z_callVx (As := [_, _, _]) gi_104_58 rfl gk_8 (Nat.le_of_ble_eq_true rfl) (Nat.le_of_ble_eq_true rfl) (tell_p (n := J 8 2) hR rfl yn hp (by decide) (by omega)) ?_
  show zW _ _ _ _ _ _ _ _ _ _
  refine z_iload4 gi_104_61 ?_
  refine z_iret gi_104_63 gr_104 ?_
  refine ⟨_, rfl, ?_⟩
  show zW _ _ _ _ [some (.ref 50), some (zi p), some (zi 4), some (zi v)] _ _ _ _ _
  refine z_aload0 gi_162_0 ?_
  refine z_iload1 gi_162_1 ?_
  refine z_iload2 gi_162_2 ?_
  refine z_callVP (As := [_, _]) (v := 1) gi_162_3 rfl gk_50 (Nat.le_of_ble_eq_true rfl) (Nat.le_of_ble_eq_true rfl) (isOne_1 hRr y2.symm yn hp (by decide) hV) ?_
  refine z_if_eqF gi_162_6 zr_1 (by decide) ?_
  refine z_iload2 gi_162_9 ?_
  refine z_iload3 gi_162_10 ?_
  refine z_callSP (As := [_, _]) (v := 1) gi_162_11 rfl (Nat.le_of_ble_eq_true rfl) (Nat.le_of_ble_eq_true rfl) (mayBe_1 hv (by decide) (by omega) hf) ?_
  refine z_if_eqF gi_162_14 zr_1 (by decide) ?_
  refine z_aload0 gi_162_17 ?_
  refine z_iload2 gi_162_18 ?_
  refine z_iload1 gi_162_19 ?_
  refine z_iload3 gi_162_20 ?_
  refine z_callVi (As := [_, _, _]) (le := [some _, some _, some _, some _, none, none]) gi_162_21 rfl gk_50 (Nat.le_of_ble_eq_true rfl) (Nat.le_of_ble_eq_true rfl) rfl ?_
  refine z_aload0 gi_157_0 ?_
  refine z_iload1 gi_157_1 ?_
  refine z_iload2 gi_157_2 ?_
  refine z_callVP (As := [_, _]) (v := (cN J) p (4)) gi_157_3 rfl gk_50 (Nat.le_of_ble_eq_true rfl) (Nat.le_of_ble_eq_true rfl) (valueAt_s hRr ((rN_z (zK_x (a := 9) (x := p * 5 + 4) (v := v) (zK_x (a := 29) (x := 6) (v := 40) (zK_x (a := 29) (x := 5) (v := 40) (zK_x (a := 33) (x := 39) (v := v) (zK_x (a := 32) (x := 39) (v := (cN J) p (4)) (zK_x (a := 31) (x := 39) (v := 4) (zK_x (a := 30) (x := 39) (v := p) (zK_c (a := 33) (b := 33) (sp := 1) (dp := 0) (n := 39) (zK_c (a := 32) (b := 32) (sp := 1) (dp := 0) (n := 39) (zK_c (a := 31) (b := 31) (sp := 1) (dp := 0) (n := 39) (zK_c (a := 30) (b := 30) (sp := 1) (dp := 0) (n := 39) (zK_x (a := 29) (x := 5) (v := 39) (zK_r (k := kHi) (A := J)) rfl) (fun _ => rfl)) (fun _ => rfl)) (fun _ => rfl)) (fun _ => rfl)) rfl) rfl) rfl) rfl) rfl) rfl) rfl)).trans y1.symm) y2.symm y3 hp (by decide) hV) ?_
  refine z_istore (ls1 := [some (.ref 50), some (zi 4), some (zi p), some (zi v), some (zi ((cN J) p (4))), none]) gi_157_6 rfl ?_
  refine z_iload4 gi_157_8 ?_
  refine z_iload3 gi_157_10 ?_
  refine z_icmp_neT gi_157_11 (by omega) (by omega) (by omega) ?_
  refine z_aload0 gi_157_17 ?_
  refine z_pushJ gp_157_18 ?_
  refine z_putI (y := 9) gi_157_19 rfl gk_50 ?_
  refine z_aload0 gi_157_22 ?_
  refine z_getI (v := 40) gi_157_23 gk_50 ((zU_x (by decide)).trans ((zU_n (by decide)).trans ((zU_n (by decide)).trans ((zU_n (by decide)).trans ((zU_n (by decide)).trans ((zU_n (by decide)).trans ((zU_n (by decide)).trans ((zU_n (by decide)).trans ((zC_n (by decide)).trans ((zC_n (by decide)).trans ((zC_n (by decide)).trans ((zC_n (by decide)).trans ((zU_n (by decide)).trans (c1.symm.trans h40)))))))))))))) ?_
  refine z_pushJ gp_157_26 ?_
  refine z_icmp_neF gi_157_28 zr_40 zr_40 (by decide) ?_
  refine z_pushJ gp_157_31 ?_
  refine z_istore (ls1 := [some (.ref 50), some (zi 4), some (zi p), some (zi v), some (zi ((cN J) p (4))), some (zi 1)]) gi_157_32 rfl ?_
  show zW _ _ _ _ [some (.ref 50), some (zi 4), some (zi p), some (zi v), some (zi ((cN J) p (4))), some (zi 1)] [] _ _ _ _
  refine zC4_in ?_
  refine shift40_z hRr 39 0 (by decide) (by decide) ?_
  refine z_aload0 gi_157_111 ?_
  refine z_dup gi_157_112 rfl ?_
  refine z_getI (v := 40) gi_157_113 gk_50 ((zC_n (by decide)).trans ((zC_n (by decide)).trans ((zC_n (by decide)).trans ((zC_n (by decide)).trans ((zU_x (by decide)).trans ((zU_n (by decide)).trans ((zU_n (by decide)).trans ((zU_n (by decide)).trans ((zU_n (by decide)).trans ((zU_n (by decide)).trans ((zU_n (by decide)).trans ((zU_n (by decide)).trans ((zC_n (by decide)).trans ((zC_n (by decide)).trans ((zC_n (by decide)).trans ((zC_n (by decide)).trans ((zU_n (by decide)).trans (c1.symm.trans h40)))))))))))))))))) ?_
  refine z_pushJ gp_157_116 ?_
  refine z_isub (e := 39) gi_157_117 rfl ?_
  refine z_putI (y := 8) gi_157_118 rfl gk_50 ?_
  refine z_aload0 gi_157_121 ?_
  refine z_getR (r := 57) gi_157_122 gk_50 (hRr _ rm_50_10 (by decide)) ?_
  refine z_aload0 gi_157_125 ?_
  refine z_getI (v := 39) gi_157_126 gk_50 (zU_e) ?_
  refine z_iload1 gi_157_129 ?_
  refine z_iast (e := 4) gi_157_130 gk_57 (by decide) (by decide) rfl ?_
  refine z_aload0 gi_157_131 ?_
  refine z_getR (r := 58) gi_157_132 gk_50 (hRr _ rm_50_11 (by decide)) ?_
  refine z_aload0 gi_157_135 ?_
  refine z_getI (v := 39) gi_157_136 gk_50 ((zU_n (by decide)).trans (zU_e)) ?_
  refine z_iload2 gi_157_139 ?_
  refine z_iast (e := p) gi_157_140 gk_58 (by decide) (by decide) rfl ?_
  refine z_aload0 gi_157_141 ?_
  refine z_getR (r := 59) gi_157_142 gk_50 (hRr _ rm_50_12 (by decide)) ?_
  refine z_aload0 gi_157_145 ?_
  refine z_getI (v := 39) gi_157_146 gk_50 ((zU_n (by decide)).trans ((zU_n (by decide)).trans (zU_e))) ?_
  refine z_iload4 gi_157_149 ?_
  refine z_iast (e := (cN J) p (4)) gi_157_151 gk_59 (by decide) (by decide) rfl ?_
  refine z_aload0 gi_157_152 ?_
  refine z_getR (r := 60) gi_157_153 gk_50 (hRr _ rm_50_13 (by decide)) ?_
  refine z_aload0 gi_157_156 ?_
  refine z_getI (v := 39) gi_157_157 gk_50 ((zU_n (by decide)).trans ((zU_n (by decide)).trans ((zU_n (by decide)).trans (zU_e)))) ?_
  refine z_iload3 gi_157_160 ?_
  refine z_iast (e := v) gi_157_161 gk_60 (by decide) (by decide) rfl ?_
  refine z_aload0 gi_157_162 ?_
  refine z_dup gi_157_163 rfl ?_
  refine z_getI (v := 39) gi_157_164 gk_50 ((zU_n (by decide)).trans ((zU_n (by decide)).trans ((zU_n (by decide)).trans ((zU_n (by decide)).trans (zU_e))))) ?_
  refine z_pushJ gp_157_167 ?_
  refine z_iadd (e := 40) gi_157_168 rfl ?_
  refine z_putI (y := 8) gi_157_169 rfl gk_50 ?_
  refine z_aload0 gi_157_172 ?_
  refine z_iload1 gi_157_173 ?_
  refine z_iload2 gi_157_174 ?_
  refine z_iload3 gi_157_175 ?_
  refine z_callVx (As := [_, _, _]) gi_157_176 rfl gk_50 (Nat.le_of_ble_eq_true rfl) (Nat.le_of_ble_eq_true rfl) (lays_p (n := J 8 2) hRr y2.symm yn hp (by decide) (by omega)) ?_
  show zW _ _ _ _ _ _ _ _ _ _
  refine z_iload4 gi_157_179 ?_
  refine z_iret gi_157_181 gr_157 ?_
  show zW _ _ _ _ _ _ _ _ _ _
  refine z_goto gi_162_24 ?_
  refine z_iret gi_162_28 gr_162 ?_
  refine ⟨?_, ?_⟩
  · first | rfl | exact congrArg (fun v => some (zi v)) (by omega) | (exfalso; omega)
  · have hs := (zK_u (a := 55) (x := p) (v := v) (zK_x (a := 50) (x := 8) (v := 40) (zK_x (a := 60) (x := 39) (v := v) (zK_x (a := 59) (x := 39) (v := (cN J) p (4)) (zK_x (a := 58) (x := 39) (v := p) (zK_x (a := 57) (x := 39) (v := 4) (zK_x (a := 50) (x := 8) (v := 39) (zK_c (a := 60) (b := 60) (sp := 1) (dp := 0) (n := 39) (zK_c (a := 59) (b := 59) (sp := 1) (dp := 0) (n := 39) (zK_c (a := 58) (b := 58) (sp := 1) (dp := 0) (n := 39) (zK_c (a := 57) (b := 57) (sp := 1) (dp := 0) (n := 39) (zK_x (a := 50) (x := 9) (v := 0) (zK_u (a := 9) (x := p * 5 + 4) (v := v) (zK_x (a := 29) (x := 6) (v := 40) (zK_x (a := 29) (x := 5) (v := 40) (zK_x (a := 33) (x := 39) (v := v) (zK_x (a := 32) (x := 39) (v := (cN J) p (4)) (zK_x (a := 31) (x := 39) (v := 4) (zK_x (a := 30) (x := 39) (v := p) (zK_c (a := 33) (b := 33) (sp := 1) (dp := 0) (n := 39) (zK_c (a := 32) (b := 32) (sp := 1) (dp := 0) (n := 39) (zK_c (a := 31) (b := 31) (sp := 1) (dp := 0) (n := 39) (zK_c (a := 30) (b := 30) (sp := 1) (dp := 0) (n := 39) (zK_x (a := 29) (x := 5) (v := 39) (zK_r (k := (kL [30, 31, 32, 33, 57, 58, 59, 60] [(29, 5), (30, 39), (31, 39), (32, 39), (33, 39), (29, 6), (50, 9), (50, 8), (57, 39), (58, 39), (59, 39), (60, 39)])) (A := J)) rfl) (fun _ => rfl)) (fun _ => rfl)) (fun _ => rfl)) (fun _ => rfl)) rfl) rfl) rfl) rfl) rfl) rfl)) rfl) (fun _ => rfl)) (fun _ => rfl)) (fun _ => rfl)) (fun _ => rfl)) rfl) rfl) rfl) rfl) rfl) rfl))
    have hY2 := RelY_k hs (by repeat' constructor) (fun p => by repeat' constructor) (RelY_p (p := p) (w := 4) hY (by omega) (by omega) hf2 (by omega) rfl rfl)
    have hok : zOkc (J 8 2) p (4) ((cN J) p (4)) v := ⟨hV, nf, hf2⟩
    have hk := (zK_x (a := 55) (x := p) (v := v) (zK_x (a := 50) (x := 8) (v := 40) (zK_x (a := 60) (x := 39) (v := v) (zK_x (a := 59) (x := 39) (v := (cN J) p (4)) (zK_x (a := 58) (x := 39) (v := p) (zK_x (a := 57) (x := 39) (v := 4) (zK_x (a := 50) (x := 8) (v := 39) (zK_c (a := 60) (b := 60) (sp := 1) (dp := 0) (n := 39) (zK_c (a := 59) (b := 59) (sp := 1) (dp := 0) (n := 39) (zK_c (a := 58) (b := 58) (sp := 1) (dp := 0) (n := 39) (zK_c (a := 57) (b := 57) (sp := 1) (dp := 0) (n := 39) (zK_x (a := 50) (x := 9) (v := 0) (zK_x (a := 9) (x := p * 5 + 4) (v := v) (zK_x (a := 29) (x := 6) (v := 40) (zK_x (a := 29) (x := 5) (v := 40) (zK_x (a := 33) (x := 39) (v := v) (zK_x (a := 32) (x := 39) (v := (cN J) p (4)) (zK_x (a := 31) (x := 39) (v := 4) (zK_x (a := 30) (x := 39) (v := p) (zK_c (a := 33) (b := 33) (sp := 1) (dp := 0) (n := 39) (zK_c (a := 32) (b := 32) (sp := 1) (dp := 0) (n := 39) (zK_c (a := 31) (b := 31) (sp := 1) (dp := 0) (n := 39) (zK_c (a := 30) (b := 30) (sp := 1) (dp := 0) (n := 39) (zK_x (a := 29) (x := 5) (v := 39) (zK_r (k := (kL [30, 31, 32, 33, 9, 57, 58, 59, 60, 55] [(29, 5), (30, 39), (31, 39), (32, 39), (33, 39), (29, 6), (50, 9), (50, 8), (57, 39), (58, 39), (59, 39), (60, 39)])) (A := J)) rfl) (fun _ => rfl)) (fun _ => rfl)) (fun _ => rfl)) (fun _ => rfl)) rfl) rfl) rfl) rfl) rfl) rfl) rfl) rfl) (fun _ => rfl)) (fun _ => rfl)) (fun _ => rfl)) (fun _ => rfl)) rfl) rfl) rfl) rfl) rfl) rfl) rfl)
    exact ⟨hR, hG, hY2, RelD_k hk (by repeat' constructor) (fun p => by repeat' constructor) hD, RelP_k hk (by repeat' constructor) (fun p => by repeat' constructor) hP, (RelC_mk (K := J) (d := 39) (o := 1) rfl rfl rfl rfl (by decide) (by decide) rfl rfl hC (by omega) (fun i i1 i2 => ⟨⟨(zU_n (by decide)).trans ((zU_n (by decide)).trans ((zU_n (by decide)).trans ((zU_n (by decide)).trans ((zU_n (by decide)).trans ((zU_n (by decide)).trans ((zU_n (by decide)).trans ((zC_n (by decide)).trans ((zC_n (by decide)).trans ((zC_n (by decide)).trans ((zC_n (by decide)).trans ((zU_n (by decide)).trans ((zU_n (by decide)).trans ((zU_n (by decide)).trans ((zU_n (by decide)).trans ((zU_n (by decide)).trans ((zU_n (by decide)).trans ((zU_n (by decide)).trans ((zU_x (by omega)).trans ((zC_n (by decide)).trans ((zC_n (by decide)).trans ((zC_n (by decide)).trans ((zC_sh (by omega)).trans ((zU_n (by decide)).trans (rfl)))))))))))))))))))))))), (zU_n (by decide)).trans ((zU_n (by decide)).trans ((zU_n (by decide)).trans ((zU_n (by decide)).trans ((zU_n (by decide)).trans ((zU_n (by decide)).trans ((zU_n (by decide)).trans ((zC_n (by decide)).trans ((zC_n (by decide)).trans ((zC_n (by decide)).trans ((zC_n (by decide)).trans ((zU_n (by decide)).trans ((zU_n (by decide)).trans ((zU_n (by decide)).trans ((zU_n (by decide)).trans ((zU_n (by decide)).trans ((zU_n (by decide)).trans ((zU_x (by omega)).trans ((zU_n (by decide)).trans ((zC_n (by decide)).trans ((zC_n (by decide)).trans ((zC_sh (by omega)).trans ((zC_n (by decide)).trans ((zU_n (by decide)).trans (rfl)))))))))))))))))))))))), (zU_n (by decide)).trans ((zU_n (by decide)).trans ((zU_n (by decide)).trans ((zU_n (by decide)).trans ((zU_n (by decide)).trans ((zU_n (by decide)).trans ((zU_n (by decide)).trans ((zC_n (by decide)).trans ((zC_n (by decide)).trans ((zC_n (by decide)).trans ((zC_n (by decide)).trans ((zU_n (by decide)).trans ((zU_n (by decide)).trans ((zU_n (by decide)).trans ((zU_n (by decide)).trans ((zU_n (by decide)).trans ((zU_x (by omega)).trans ((zU_n (by decide)).trans ((zU_n (by decide)).trans ((zC_n (by decide)).trans ((zC_sh (by omega)).trans ((zC_n (by decide)).trans ((zC_n (by decide)).trans ((zU_n (by decide)).trans (rfl)))))))))))))))))))))))), (zU_n (by decide)).trans ((zU_n (by decide)).trans ((zU_n (by decide)).trans ((zU_n (by decide)).trans ((zU_n (by decide)).trans ((zU_n (by decide)).trans ((zU_n (by decide)).trans ((zC_n (by decide)).trans ((zC_n (by decide)).trans ((zC_n (by decide)).trans ((zC_n (by decide)).trans ((zU_n (by decide)).trans ((zU_n (by decide)).trans ((zU_n (by decide)).trans ((zU_n (by decide)).trans ((zU_x (by omega)).trans ((zU_n (by decide)).trans ((zU_n (by decide)).trans ((zU_n (by decide)).trans ((zC_sh (by omega)).trans ((zC_n (by decide)).trans ((zC_n (by decide)).trans ((zC_n (by decide)).trans ((zU_n (by decide)).trans (rfl))))))))))))))))))))))))⟩, ⟨(zU_n (by decide)).trans ((zU_n (by decide)).trans ((zU_n (by decide)).trans ((zU_n (by decide)).trans ((zU_x (by omega)).trans ((zU_n (by decide)).trans ((zU_n (by decide)).trans ((zC_n (by decide)).trans ((zC_n (by decide)).trans ((zC_sh (by omega)).trans ((zC_n (by decide)).trans ((zU_n (by decide)).trans ((zU_n (by decide)).trans ((zU_n (by decide)).trans ((zU_n (by decide)).trans ((zU_n (by decide)).trans ((zU_n (by decide)).trans ((zU_n (by decide)).trans ((zU_n (by decide)).trans ((zC_n (by decide)).trans ((zC_n (by decide)).trans ((zC_n (by decide)).trans ((zC_n (by decide)).trans ((zU_n (by decide)).trans (rfl)))))))))))))))))))))))), (zU_n (by decide)).trans ((zU_n (by decide)).trans ((zU_n (by decide)).trans ((zU_n (by decide)).trans ((zU_n (by decide)).trans ((zU_x (by omega)).trans ((zU_n (by decide)).trans ((zC_n (by decide)).trans ((zC_n (by decide)).trans ((zC_n (by decide)).trans ((zC_sh (by omega)).trans ((zU_n (by decide)).trans ((zU_n (by decide)).trans ((zU_n (by decide)).trans ((zU_n (by decide)).trans ((zU_n (by decide)).trans ((zU_n (by decide)).trans ((zU_n (by decide)).trans ((zU_n (by decide)).trans ((zC_n (by decide)).trans ((zC_n (by decide)).trans ((zC_n (by decide)).trans ((zC_n (by decide)).trans ((zU_n (by decide)).trans (rfl)))))))))))))))))))))))), (zU_n (by decide)).trans ((zU_n (by decide)).trans ((zU_n (by decide)).trans ((zU_x (by omega)).trans ((zU_n (by decide)).trans ((zU_n (by decide)).trans ((zU_n (by decide)).trans ((zC_n (by decide)).trans ((zC_sh (by omega)).trans ((zC_n (by decide)).trans ((zC_n (by decide)).trans ((zU_n (by decide)).trans ((zU_n (by decide)).trans ((zU_n (by decide)).trans ((zU_n (by decide)).trans ((zU_n (by decide)).trans ((zU_n (by decide)).trans ((zU_n (by decide)).trans ((zU_n (by decide)).trans ((zC_n (by decide)).trans ((zC_n (by decide)).trans ((zC_n (by decide)).trans ((zC_n (by decide)).trans ((zU_n (by decide)).trans (rfl)))))))))))))))))))))))), (zU_n (by decide)).trans ((zU_n (by decide)).trans ((zU_x (by omega)).trans ((zU_n (by decide)).trans ((zU_n (by decide)).trans ((zU_n (by decide)).trans ((zU_n (by decide)).trans ((zC_sh (by omega)).trans ((zC_n (by decide)).trans ((zC_n (by decide)).trans ((zC_n (by decide)).trans ((zU_n (by decide)).trans ((zU_n (by decide)).trans ((zU_n (by decide)).trans ((zU_n (by decide)).trans ((zU_n (by decide)).trans ((zU_n (by decide)).trans ((zU_n (by decide)).trans ((zU_n (by decide)).trans ((zC_n (by decide)).trans ((zC_n (by decide)).trans ((zC_n (by decide)).trans ((zC_n (by decide)).trans ((zU_n (by decide)).trans (rfl))))))))))))))))))))))))⟩⟩) ((zU_n (by decide)).trans ((zU_n (by decide)).trans ((zU_n (by decide)).trans ((zU_n (by decide)).trans ((zU_n (by decide)).trans ((zU_n (by decide)).trans ((zU_n (by decide)).trans ((zC_n (by decide)).trans ((zC_n (by decide)).trans ((zC_n (by decide)).trans ((zC_n (by decide)).trans ((zU_n (by decide)).trans ((zU_n (by decide)).trans ((zU_n (by decide)).trans ((zU_n (by decide)).trans ((zU_n (by decide)).trans ((zU_n (by decide)).trans ((zU_n (by decide)).trans (zU_e))))))))))))))))))) ((zU_n (by decide)).trans ((zU_n (by decide)).trans ((zU_n (by decide)).trans ((zU_n (by decide)).trans ((zU_n (by decide)).trans ((zU_n (by decide)).trans ((zU_n (by decide)).trans ((zC_n (by decide)).trans ((zC_n (by decide)).trans ((zC_n (by decide)).trans ((zC_n (by decide)).trans ((zU_n (by decide)).trans ((zU_n (by decide)).trans ((zU_n (by decide)).trans ((zU_n (by decide)).trans ((zU_n (by decide)).trans ((zU_n (by decide)).trans (zU_e)))))))))))))))))) ((zU_n (by decide)).trans ((zU_n (by decide)).trans ((zU_n (by decide)).trans ((zU_n (by decide)).trans ((zU_n (by decide)).trans ((zU_n (by decide)).trans ((zU_n (by decide)).trans ((zC_n (by decide)).trans ((zC_n (by decide)).trans ((zC_n (by decide)).trans ((zC_n (by decide)).trans ((zU_n (by decide)).trans ((zU_n (by decide)).trans ((zU_n (by decide)).trans ((zU_n (by decide)).trans ((zU_n (by decide)).trans (zU_e))))))))))))))))) ((zU_n (by decide)).trans ((zU_n (by decide)).trans ((zU_n (by decide)).trans ((zU_n (by decide)).trans ((zU_n (by decide)).trans ((zU_n (by decide)).trans ((zU_n (by decide)).trans ((zC_n (by decide)).trans ((zC_n (by decide)).trans ((zC_n (by decide)).trans ((zC_n (by decide)).trans ((zU_n (by decide)).trans ((zU_n (by decide)).trans ((zU_n (by decide)).trans ((zU_n (by decide)).trans (zU_e)))))))))))))))) ((zU_n (by decide)).trans ((zU_n (by decide)).trans ((zU_n (by decide)).trans ((zU_n (by decide)).trans (zU_e))))) ((zU_n (by decide)).trans ((zU_n (by decide)).trans ((zU_n (by decide)).trans ((zU_n (by decide)).trans ((zU_n (by decide)).trans (zU_e)))))) ((zU_n (by decide)).trans ((zU_n (by decide)).trans ((zU_n (by decide)).trans (zU_e)))) ((zU_n (by decide)).trans ((zU_n (by decide)).trans (zU_e))) hok), RelA_k hk (by repeat' constructor) (fun p => by repeat' constructor) hAc, RelS_k hk (zK_r (k := kM)) (fun x j a b => ⟨kL_38 (by decide) (by decide) x j a b, kM_38 x j a b⟩) (fun p => ⟨rfl, rfl, rfl⟩) rfl hS, RelT_k hk (by repeat' constructor) (fun p => by repeat' constructor) hTp, RelX_k hk (by repeat' constructor) (fun p => by repeat' constructor) hX, RelW_k hk ⟨rfl, rfl⟩ trivial hW⟩
theorem st_mend {X : Nat × (Nat → Int32)} {d : Nat} {J M : zA} {R : zR} {p w v : Int} (hr : Rel X J M R) (hp : -2147483648 ≤ p ∧ p < 2147483648) (hw : -2147483648 ≤ w ∧ w < 2147483648) (hv : -2147483648 ≤ v ∧ v < 2147483648) : zW X (d + 20) 104 0 (gEn 104 [(.ref 0), (zi p), (zi w), (zi v)]) [] J M R (stP X (d + 20) 162 [(zi p), (zi w), (zi v)]) := by
  by_cases hV : zV (J 8 2) p w
  · by_cases hf : zT 2 w ≤ v ∧ v ≤ zT 3 w
    · by_cases he : (cN J) p w = v
      · exact st_mend_eq hr hp hw hv hV hf he
      · have hC : RelC J := hr.2.2.2.2.2.1
        obtain ⟨c1, c2, c3, c4, c5, c6⟩ := hC
        by_cases h40 : J 29 5 = 40
        · by_cases hg : 5 ≤ w
          · exact st_mend4_g hr hp hw hv hV hf he h40 hg
          · have e : w = 0 ∨ w = 1 ∨ w = 2 ∨ w = 3 ∨ w = 4 := by unfold zV at hV; omega
            rcases e with rfl | rfl | rfl | rfl | rfl
            · exact st_mend4_p0 hr hp hv hV hf he h40
            · exact st_mend4_p1 hr hp hv hV hf he h40
            · exact st_mend4_p2 hr hp hv hV hf he h40
            · exact st_mend4_p3 hr hp hv hV hf he h40
            · exact st_mend4_p4 hr hp hv hV hf he h40
        · have h40 : J 29 5 < 40 := by omega
          by_cases hg : 5 ≤ w
          · exact st_mend_g hr hp hw hv hV hf he h40 hg
          · have e : w = 0 ∨ w = 1 ∨ w = 2 ∨ w = 3 ∨ w = 4 := by unfold zV at hV; omega
            rcases e with rfl | rfl | rfl | rfl | rfl
            · exact st_mend_p0 hr hp hv hV hf he h40
            · exact st_mend_p1 hr hp hv hV hf he h40
            · exact st_mend_p2 hr hp hv hV hf he h40
            · exact st_mend_p3 hr hp hv hV hf he h40
            · exact st_mend_p4 hr hp hv hV hf he h40
    · exact st_mend_nf hr hp hw hv hV hf
  · exact st_mend_nv hr hp hw hv hV
