theorem RelC_undo {J : zA} (r : RelC J) (h : 0 < J 29 5) : RelC (zU (zU (zU J 29 5 (J 29 5 - 1)) 50 8 (J 29 5 - 1)) 50 9 (J 50 9 + 1)) := by
  obtain ⟨c1, c2, c3, c4, c5, c6⟩ := r
  refine ⟨rfl, ?_, ?_, ?_, ?_, c6⟩
  · show J 29 6 = J 29 5 - 1 + (J 50 9 + 1); omega
  · show 0 ≤ J 29 5 - 1; omega
  · show 0 ≤ J 50 9 + 1; omega
  · show J 29 5 - 1 + (J 50 9 + 1) ≤ 40; omega
theorem RelC_redo {J : zA} (r : RelC J) (h : J 29 5 < J 29 6) : RelC (zU (zU (zU J 29 5 (J 29 5 + 1)) 50 8 (J 29 5 + 1)) 50 9 (J 50 9 - 1)) := by
  obtain ⟨c1, c2, c3, c4, c5, c6⟩ := r
  refine ⟨rfl, ?_, ?_, ?_, ?_, c6⟩
  · show J 29 6 = J 29 5 + 1 + (J 50 9 - 1); omega
  · show 0 ≤ J 29 5 + 1; omega
  · show 0 ≤ J 50 9 - 1; omega
  · show J 29 5 + 1 + (J 50 9 - 1) ≤ 40; omega
theorem zFit_c {w c v : Int} (h : zFit w v) (e : w = c) : zFit c v := e ▸ h
theorem zFit_r {w v : Int} (hw : 0 ≤ w ∧ w < 14) (h : zFit w v) : 0 ≤ v ∧ v ≤ 9999 := by
  have e : w = 0 ∨ w = 1 ∨ w = 2 ∨ w = 3 ∨ w = 4 ∨ w = 5 ∨ w = 6 ∨ w = 7 ∨ w = 8 ∨ w = 9 ∨ w = 10 ∨ w = 11 ∨ w = 12 ∨ w = 13 := by omega
  rcases e with rfl | rfl | rfl | rfl | rfl | rfl | rfl | rfl | rfl | rfl | rfl | rfl | rfl | rfl
  · have q : (0 : Int) ≤ v ∧ v ≤ 99 := h; omega
  · have q : (0 : Int) ≤ v ∧ v ≤ 99 := h; omega
  · have q : (0 : Int) ≤ v ∧ v ≤ 99 := h; omega
  · have q : (0 : Int) ≤ v ∧ v ≤ 9 := h; omega
  · have q : (0 : Int) ≤ v ∧ v ≤ 9 := h; omega
  · have q : (0 : Int) ≤ v ∧ v ≤ 99 := h; omega
  · have q : (0 : Int) ≤ v ∧ v ≤ 999 := h; omega
  · have q : (1 : Int) ≤ v ∧ v ≤ 99 := h; omega
  · have q : (0 : Int) ≤ v ∧ v ≤ 9999 := h; omega
  · have q : (0 : Int) ≤ v ∧ v ≤ 9999 := h; omega
  · have q : (0 : Int) ≤ v ∧ v ≤ 12 := h; omega
  · have q : (0 : Int) ≤ v ∧ v ≤ 9999 := h; omega
  · have q : (1 : Int) ≤ v ∧ v ≤ 99 := h; omega
  · have q : (1 : Int) ≤ v ∧ v ≤ 99 := h; omega
theorem st_undo_0 {X : Nat × (Nat → Int32)} {d : Nat} {J M : zA} {R : zR} (hr : Rel X J M R)  (h0 : J 29 5 ≤ 0) : zW X (d + 20) 131 0 (gEn 131 [(.ref 0)]) [] J M R (stP X (d + 20) 158 []) := by
  have hr0 := hr
  obtain ⟨hR, hG, hY, hD, hP, hC, hAc, hS, hTp, hX, hW⟩ := hr0
  have hRr : zRoR R := zRoR_of hR
  have hY0 := hY
  obtain ⟨y1, y2, y3⟩ := hY0
  have yn := zNn y3
  have hC0 := hC
  obtain ⟨c1, c2, c3, c4, c5, c6⟩ := hC0
  show zW _ _ _ _ [some (.ref 0)] _ _ _ _ _
  refine z_aload0 gi_131_0 ?_
  refine z_getR (r := 29) gi_131_1 gk_0 (hR _ rm_0_9) ?_
  refine z_cV0 gi_131_4 gk_29 go_16 (Nat.le_of_ble_eq_true rfl) gc_16_R ?_
  refine z_aload0 gi_16_0 ?_
  refine z_getI (v := J 29 5) gi_16_1 gk_29 (rfl) ?_
  refine z_if_gtF gi_16_4 (by omega) (by omega) ?_
  refine z_pushJ gp_16_7 ?_
  refine z_bret0 rfl gr_16 ?_
  show zW _ _ _ _ _ _ _ _ _ _
  refine z_if_eqT gi_131_7 zr_0 (by decide) ?_
  refine z_pushJ gp_131_20 ?_
  refine z_iret gi_131_22 gr_131 ?_
  refine ⟨_, rfl, ?_⟩
  show zW _ _ _ _ [some (.ref 50)] _ _ _ _ _
  refine z_aload0 gi_158_0 ?_
  refine z_getI (v := J 29 5) gi_158_1 gk_50 (c1.symm) ?_
  refine z_if_neF gi_158_4 (by omega) (by omega) ?_
  refine z_pushJ gp_158_7 ?_
  refine z_iret rfl gr_158 ?_
  refine ⟨?_, ?_⟩
  · first | rfl | exact congrArg (fun v => some (zi v)) (by omega) | (exfalso; omega)
  · exact hr
theorem st_undo_1 {X : Nat × (Nat → Int32)} {d : Nat} {J M : zA} {R : zR} (hr : Rel X J M R)  (h0 : ¬ J 29 5 ≤ 0) : zW X (d + 20) 131 0 (gEn 131 [(.ref 0)]) [] J M R (stP X (d + 20) 158 []) := by
  have hr0 := hr
  obtain ⟨hR, hG, hY, hD, hP, hC, hAc, hS, hTp, hX, hW⟩ := hr0
  have hRr : zRoR R := zRoR_of hR
  have hY0 := hY
  obtain ⟨y1, y2, y3⟩ := hY0
  have yn := zNn y3
  have hC0 := hC
  obtain ⟨c1, c2, c3, c4, c5, c6⟩ := hC0
  have ci := RelC_i hC (i := J 29 5 - 1) (by omega) (by omega)
  obtain ⟨⟨ci1, ci2, ci3, ci4⟩, ci5, ci6, ci7⟩ := ci
  have hfit : zFit (J 31 (J 29 5 - 1)) (J 32 (J 29 5 - 1)) := ci6
  have rv := zFit_r (w := J 31 (J 29 5 - 1)) (by omega) hfit
  show zW _ _ _ _ [some (.ref 0)] _ _ _ _ _
  refine z_aload0 gi_131_0 ?_
  refine z_getR (r := 29) gi_131_1 gk_0 (hR _ rm_0_9) ?_
  refine z_cV0 gi_131_4 gk_29 go_16 (Nat.le_of_ble_eq_true rfl) gc_16_R ?_
  refine z_aload0 gi_16_0 ?_
  refine z_getI (v := J 29 5) gi_16_1 gk_29 (rfl) ?_
  refine z_if_gtT gi_16_4 (by omega) (by omega) ?_
  refine z_aload0 rfl ?_
  refine z_dup rfl rfl ?_
  refine z_getI (v := J 29 5) rfl gk_29 (rfl) ?_
  refine z_pushJ gp_16_14 ?_
  refine z_isub (e := (J 29 5) - 1) rfl rfl ?_
  refine z_putI (y := 5) rfl rfl gk_29 ?_
  refine z_aload0 rfl ?_
  refine z_getR (r := 8) rfl gk_29 (hR _ rm_29_0) ?_
  refine z_aload0 rfl ?_
  refine z_getR (r := 30) rfl gk_29 (hR _ rm_29_1) ?_
  refine z_aload0 rfl ?_
  refine z_getI (v := (J 29 5) - 1) rfl gk_29 (zU_e) ?_
  refine z_iald (v := J 30 ((J 29 5) - 1)) rfl gk_30 (by decide) (by omega) ((zU_n (by decide)).trans (rfl)) ?_
  refine z_aload0 rfl ?_
  refine z_getR (r := 31) rfl gk_29 (hR _ rm_29_2) ?_
  refine z_aload0 rfl ?_
  refine z_getI (v := (J 29 5) - 1) rfl gk_29 (zU_e) ?_
  refine z_iald (v := J 31 ((J 29 5) - 1)) rfl gk_31 (by decide) (by omega) ((zU_n (by decide)).trans (rfl)) ?_
  refine z_aload0 rfl ?_
  refine z_getR (r := 32) rfl gk_29 (hR _ rm_29_3) ?_
  refine z_aload0 rfl ?_
  refine z_getI (v := (J 29 5) - 1) rfl gk_29 (zU_e) ?_
  refine z_iald (v := J 32 ((J 29 5) - 1)) rfl gk_32 (by decide) (by omega) ((zU_n (by decide)).trans (rfl)) ?_
  refine z_callVi (As := [_, _, _]) (le := [some _, some _, some _, some _, none]) rfl rfl gk_8 (Nat.le_of_ble_eq_true rfl) (Nat.le_of_ble_eq_true rfl) rfl ?_
  refine z_aload0 gi_91_0 ?_
  refine z_iload1 gi_91_1 ?_
  refine z_iload2 gi_91_2 ?_
  refine z_cV2 gi_91_3 gk_8 go_89 (Nat.le_of_ble_eq_true rfl) gc_89_RII ?_
  refine z_iload2 gi_89_0 ?_
  refine z_if_lt gi_89_1 (by omega) (fun h1 => ?_) (fun h1 => ?_)
  · refine z_pushJ gp_89_10 ?_
    refine z_iret gi_89_11 gr_89 ?_
    show zW _ _ _ _ _ _ _ _ _ _
    refine z_istore (ls1 := [some (.ref 8), some (zi (J 30 ((J 29 5) - 1))), some (zi (J 31 ((J 29 5) - 1))), some (zi (J 32 ((J 29 5) - 1))), some (zi (-1))]) gi_91_6 rfl ?_
    refine z_iload4 gi_91_8 ?_
    refine z_if_ltT gi_91_10 zrn_1 (by decide) ?_
    refine z_vret gi_91_21 gr_91 ?_
    show zW _ _ _ _ _ _ _ _ _ _
    refine z_pushJ gp_16_53 ?_
    refine z_bret1 gi_16_54 gr_16 ?_
    show zW _ _ _ _ _ _ _ _ _ _
    refine z_if_eqF gi_131_7 zr_1 (by decide) ?_
    refine z_aload0 gi_131_10 ?_
    refine z_getR (r := 29) gi_131_11 gk_0 (hR _ rm_0_9) ?_
    refine z_getI (v := (J 29 5) - 1) gi_131_14 gk_29 (zU_e) ?_
    refine z_goto gi_131_17 ?_
    refine z_iret gi_131_22 gr_131 ?_
    refine ⟨_, rfl, ?_⟩
    show zW _ _ _ _ [some (.ref 50)] _ _ _ _ _
    refine z_aload0 gi_158_0 ?_
    refine z_getI (v := J 29 5) gi_158_1 gk_50 ((zU_n (by decide)).trans (c1.symm)) ?_
    refine z_if_neT gi_158_4 (by omega) (by omega) ?_
    refine z_aload0 gi_158_10 ?_
    refine z_dup gi_158_11 rfl ?_
    refine z_getI (v := J 29 5) gi_158_12 gk_50 ((zU_n (by decide)).trans (c1.symm)) ?_
    refine z_pushJ gp_158_15 ?_
    refine z_isub (e := (J 29 5) - 1) gi_158_16 rfl ?_
    refine z_putI (y := 8) gi_158_17 rfl gk_50 ?_
    refine z_aload0 gi_158_20 ?_
    refine z_dup gi_158_21 rfl ?_
    refine z_getI (v := J 50 9) gi_158_22 gk_50 ((zU_x (by decide)).trans ((zU_n (by decide)).trans (rfl))) ?_
    refine z_pushJ gp_158_25 ?_
    refine z_iadd (e := (J 50 9) + 1) gi_158_26 rfl ?_
    refine z_putI (y := 9) gi_158_27 rfl gk_50 ?_
    refine z_aload0 gi_158_30 ?_
    refine z_aload0 gi_158_31 ?_
    refine z_getR (r := 57) gi_158_32 gk_50 (hRr _ rm_50_10 (by decide)) ?_
    refine z_aload0 gi_158_35 ?_
    refine z_getI (v := (J 29 5) - 1) gi_158_36 gk_50 ((zU_x (by decide)).trans (zU_e)) ?_
    refine z_iald (v := J 57 ((J 29 5) - 1)) gi_158_39 gk_57 (by decide) (by omega) ((zU_n (by decide)).trans ((zU_n (by decide)).trans ((zU_n (by decide)).trans (rfl)))) ?_
    refine z_aload0 gi_158_40 ?_
    refine z_getR (r := 58) gi_158_41 gk_50 (hRr _ rm_50_11 (by decide)) ?_
    refine z_aload0 gi_158_44 ?_
    refine z_getI (v := (J 29 5) - 1) gi_158_45 gk_50 ((zU_x (by decide)).trans (zU_e)) ?_
    refine z_iald (v := J 58 ((J 29 5) - 1)) gi_158_48 gk_58 (by decide) (by omega) ((zU_n (by decide)).trans ((zU_n (by decide)).trans ((zU_n (by decide)).trans (rfl)))) ?_
    refine z_aload0 gi_158_49 ?_
    refine z_getR (r := 59) gi_158_50 gk_50 (hRr _ rm_50_12 (by decide)) ?_
    refine z_aload0 gi_158_53 ?_
    refine z_getI (v := (J 29 5) - 1) gi_158_54 gk_50 ((zU_x (by decide)).trans (zU_e)) ?_
    refine z_iald (v := J 59 ((J 29 5) - 1)) gi_158_57 gk_59 (by decide) (by omega) ((zU_n (by decide)).trans ((zU_n (by decide)).trans ((zU_n (by decide)).trans (rfl)))) ?_
    refine z_cV3 gi_158_58 gk_50 go_156 (Nat.le_of_ble_eq_true rfl) gc_156_RIII ?_
    refine z_iload1 gi_156_0 ?_
    refine z_sw (T := [((0 : Int), 36), ((1 : Int), 46), ((2 : Int), 56), ((3 : Int), 66), ((4 : Int), 76)]) gi_156_1 (by omega) rfl (fun q hq2 hxhq2 => ?_) (fun hq2 => ?_)
    · simp only [List.mem_cons, List.not_mem_nil, or_false] at hq2
      rcases hq2 with rfl | rfl | rfl | rfl | rfl
      · have hxhq2 : J 57 ((J 29 5) - 1) = 0 := hxhq2
        refine z_aload0 gi_156_36 ?_
        refine z_getR (r := 51) gi_156_37 gk_50 (hRr _ rm_50_2 (by decide)) ?_
        refine z_iload2 gi_156_40 ?_
        refine z_iload3 gi_156_41 ?_
        refine z_iast (e := J 59 ((J 29 5) - 1)) gi_156_42 gk_51 (by decide) (by omega) rfl ?_
        refine z_goto gi_156_43 ?_
        refine z_vret gi_156_95 gr_156 ?_
        show zW _ _ _ _ _ _ _ _ _ _
        refine z_aload0 gi_158_61 ?_
        refine z_getI (v := (J 29 5) - 1) gi_158_62 gk_50 ((zU_n (by decide)).trans ((zU_x (by decide)).trans (zU_e))) ?_
        refine z_iret gi_158_65 gr_158 ?_
        refine ⟨?_, ?_⟩
        · first | rfl | exact congrArg (fun v => some (zi v)) (by omega) | (exfalso; omega)
        · exfalso
          omega
      · have hxhq2 : J 57 ((J 29 5) - 1) = 1 := hxhq2
        refine z_aload0 gi_156_46 ?_
        refine z_getR (r := 52) gi_156_47 gk_50 (hRr _ rm_50_3 (by decide)) ?_
        refine z_iload2 gi_156_50 ?_
        refine z_iload3 gi_156_51 ?_
        refine z_iast (e := J 59 ((J 29 5) - 1)) gi_156_52 gk_52 (by decide) (by omega) rfl ?_
        refine z_goto gi_156_53 ?_
        refine z_vret gi_156_95 gr_156 ?_
        show zW _ _ _ _ _ _ _ _ _ _
        refine z_aload0 gi_158_61 ?_
        refine z_getI (v := (J 29 5) - 1) gi_158_62 gk_50 ((zU_n (by decide)).trans ((zU_x (by decide)).trans (zU_e))) ?_
        refine z_iret gi_158_65 gr_158 ?_
        refine ⟨?_, ?_⟩
        · first | rfl | exact congrArg (fun v => some (zi v)) (by omega) | (exfalso; omega)
        · exfalso
          omega
      · have hxhq2 : J 57 ((J 29 5) - 1) = 2 := hxhq2
        refine z_aload0 gi_156_56 ?_
        refine z_getR (r := 53) gi_156_57 gk_50 (hRr _ rm_50_4 (by decide)) ?_
        refine z_iload2 gi_156_60 ?_
        refine z_iload3 gi_156_61 ?_
        refine z_iast (e := J 59 ((J 29 5) - 1)) gi_156_62 gk_53 (by decide) (by omega) rfl ?_
        refine z_goto gi_156_63 ?_
        refine z_vret gi_156_95 gr_156 ?_
        show zW _ _ _ _ _ _ _ _ _ _
        refine z_aload0 gi_158_61 ?_
        refine z_getI (v := (J 29 5) - 1) gi_158_62 gk_50 ((zU_n (by decide)).trans ((zU_x (by decide)).trans (zU_e))) ?_
        refine z_iret gi_158_65 gr_158 ?_
        refine ⟨?_, ?_⟩
        · first | rfl | exact congrArg (fun v => some (zi v)) (by omega) | (exfalso; omega)
        · exfalso
          omega
      · have hxhq2 : J 57 ((J 29 5) - 1) = 3 := hxhq2
        refine z_aload0 gi_156_66 ?_
        refine z_getR (r := 54) gi_156_67 gk_50 (hRr _ rm_50_5 (by decide)) ?_
        refine z_iload2 gi_156_70 ?_
        refine z_iload3 gi_156_71 ?_
        refine z_iast (e := J 59 ((J 29 5) - 1)) gi_156_72 gk_54 (by decide) (by omega) rfl ?_
        refine z_goto gi_156_73 ?_
        refine z_vret gi_156_95 gr_156 ?_
        show zW _ _ _ _ _ _ _ _ _ _
        refine z_aload0 gi_158_61 ?_
        refine z_getI (v := (J 29 5) - 1) gi_158_62 gk_50 ((zU_n (by decide)).trans ((zU_x (by decide)).trans (zU_e))) ?_
        refine z_iret gi_158_65 gr_158 ?_
        refine ⟨?_, ?_⟩
        · first | rfl | exact congrArg (fun v => some (zi v)) (by omega) | (exfalso; omega)
        · exfalso
          omega
      · have hxhq2 : J 57 ((J 29 5) - 1) = 4 := hxhq2
        refine z_aload0 gi_156_76 ?_
        refine z_getR (r := 55) gi_156_77 gk_50 (hRr _ rm_50_6 (by decide)) ?_
        refine z_iload2 gi_156_80 ?_
        refine z_iload3 gi_156_81 ?_
        refine z_iast (e := J 59 ((J 29 5) - 1)) gi_156_82 gk_55 (by decide) (by omega) rfl ?_
        refine z_goto gi_156_83 ?_
        refine z_vret gi_156_95 gr_156 ?_
        show zW _ _ _ _ _ _ _ _ _ _
        refine z_aload0 gi_158_61 ?_
        refine z_getI (v := (J 29 5) - 1) gi_158_62 gk_50 ((zU_n (by decide)).trans ((zU_x (by decide)).trans (zU_e))) ?_
        refine z_iret gi_158_65 gr_158 ?_
        refine ⟨?_, ?_⟩
        · first | rfl | exact congrArg (fun v => some (zi v)) (by omega) | (exfalso; omega)
        · exfalso
          omega
    · have hq2 : ∀ q ∈ [((0 : Int), 36), ((1 : Int), 46), ((2 : Int), 56), ((3 : Int), 66), ((4 : Int), 76)], ¬ J 57 ((J 29 5) - 1) = q.1 := hq2
      have hq2_0 : ¬ J 57 ((J 29 5) - 1) = 0 := hq2 (0, 36) (by simp)
      have hq2_1 : ¬ J 57 ((J 29 5) - 1) = 1 := hq2 (1, 46) (by simp)
      have hq2_2 : ¬ J 57 ((J 29 5) - 1) = 2 := hq2 (2, 56) (by simp)
      have hq2_3 : ¬ J 57 ((J 29 5) - 1) = 3 := hq2 (3, 66) (by simp)
      have hq2_4 : ¬ J 57 ((J 29 5) - 1) = 4 := hq2 (4, 76) (by simp)
      refine z_aload0 gi_156_86 ?_
      refine z_getR (r := 56) gi_156_87 gk_50 (hRr _ rm_50_7 (by decide)) ?_
      refine z_iload1 gi_156_90 ?_
      refine z_pushJ gp_156_91 ?_
      refine z_isub (e := (J 57 ((J 29 5) - 1)) - 5) gi_156_92 rfl ?_
      refine z_iload3 gi_156_93 ?_
      refine z_iast (e := J 59 ((J 29 5) - 1)) gi_156_94 gk_56 (by decide) (by omega) rfl ?_
      refine z_vret gi_156_95 gr_156 ?_
      show zW _ _ _ _ _ _ _ _ _ _
      refine z_aload0 gi_158_61 ?_
      refine z_getI (v := (J 29 5) - 1) gi_158_62 gk_50 ((zU_n (by decide)).trans ((zU_x (by decide)).trans (zU_e))) ?_
      refine z_iret gi_158_65 gr_158 ?_
      refine ⟨?_, ?_⟩
      · first | rfl | exact congrArg (fun v => some (zi v)) (by omega) | (exfalso; omega)
      · exfalso
        omega
  · refine z_iload2 gi_89_4 ?_
    refine z_pushJ gp_89_5 ?_
    refine z_icmp_lt gi_89_7 (by omega) zr_14 (fun h2 => ?_) (fun h2 => ?_)
    · refine z_iload2 gi_89_12 ?_
      refine z_pushJ gp_89_13 ?_
      refine z_icmp_ge gi_89_14 (by omega) zr_5 (fun h3 => ?_) (fun h3 => ?_)
      · refine z_iload1 gi_89_35 ?_
        refine z_if_ne gi_89_36 (by omega) (fun h4 => ?_) (fun h4 => ?_)
        · refine z_pushJ gp_89_46 ?_
          refine z_iret gi_89_47 gr_89 ?_
          show zW _ _ _ _ _ _ _ _ _ _
          refine z_istore (ls1 := [some (.ref 8), some (zi (J 30 ((J 29 5) - 1))), some (zi (J 31 ((J 29 5) - 1))), some (zi (J 32 ((J 29 5) - 1))), some (zi (-1))]) gi_91_6 rfl ?_
          refine z_iload4 gi_91_8 ?_
          refine z_if_ltT gi_91_10 zrn_1 (by decide) ?_
          refine z_vret gi_91_21 gr_91 ?_
          show zW _ _ _ _ _ _ _ _ _ _
          refine z_pushJ gp_16_53 ?_
          refine z_bret1 gi_16_54 gr_16 ?_
          show zW _ _ _ _ _ _ _ _ _ _
          refine z_if_eqF gi_131_7 zr_1 (by decide) ?_
          refine z_aload0 gi_131_10 ?_
          refine z_getR (r := 29) gi_131_11 gk_0 (hR _ rm_0_9) ?_
          refine z_getI (v := (J 29 5) - 1) gi_131_14 gk_29 (zU_e) ?_
          refine z_goto gi_131_17 ?_
          refine z_iret gi_131_22 gr_131 ?_
          refine ⟨_, rfl, ?_⟩
          show zW _ _ _ _ [some (.ref 50)] _ _ _ _ _
          refine z_aload0 gi_158_0 ?_
          refine z_getI (v := J 29 5) gi_158_1 gk_50 ((zU_n (by decide)).trans (c1.symm)) ?_
          refine z_if_neT gi_158_4 (by omega) (by omega) ?_
          refine z_aload0 gi_158_10 ?_
          refine z_dup gi_158_11 rfl ?_
          refine z_getI (v := J 29 5) gi_158_12 gk_50 ((zU_n (by decide)).trans (c1.symm)) ?_
          refine z_pushJ gp_158_15 ?_
          refine z_isub (e := (J 29 5) - 1) gi_158_16 rfl ?_
          refine z_putI (y := 8) gi_158_17 rfl gk_50 ?_
          refine z_aload0 gi_158_20 ?_
          refine z_dup gi_158_21 rfl ?_
          refine z_getI (v := J 50 9) gi_158_22 gk_50 ((zU_x (by decide)).trans ((zU_n (by decide)).trans (rfl))) ?_
          refine z_pushJ gp_158_25 ?_
          refine z_iadd (e := (J 50 9) + 1) gi_158_26 rfl ?_
          refine z_putI (y := 9) gi_158_27 rfl gk_50 ?_
          refine z_aload0 gi_158_30 ?_
          refine z_aload0 gi_158_31 ?_
          refine z_getR (r := 57) gi_158_32 gk_50 (hRr _ rm_50_10 (by decide)) ?_
          refine z_aload0 gi_158_35 ?_
          refine z_getI (v := (J 29 5) - 1) gi_158_36 gk_50 ((zU_x (by decide)).trans (zU_e)) ?_
          refine z_iald (v := J 57 ((J 29 5) - 1)) gi_158_39 gk_57 (by decide) (by omega) ((zU_n (by decide)).trans ((zU_n (by decide)).trans ((zU_n (by decide)).trans (rfl)))) ?_
          refine z_aload0 gi_158_40 ?_
          refine z_getR (r := 58) gi_158_41 gk_50 (hRr _ rm_50_11 (by decide)) ?_
          refine z_aload0 gi_158_44 ?_
          refine z_getI (v := (J 29 5) - 1) gi_158_45 gk_50 ((zU_x (by decide)).trans (zU_e)) ?_
          refine z_iald (v := J 58 ((J 29 5) - 1)) gi_158_48 gk_58 (by decide) (by omega) ((zU_n (by decide)).trans ((zU_n (by decide)).trans ((zU_n (by decide)).trans (rfl)))) ?_
          refine z_aload0 gi_158_49 ?_
          refine z_getR (r := 59) gi_158_50 gk_50 (hRr _ rm_50_12 (by decide)) ?_
          refine z_aload0 gi_158_53 ?_
          refine z_getI (v := (J 29 5) - 1) gi_158_54 gk_50 ((zU_x (by decide)).trans (zU_e)) ?_
          refine z_iald (v := J 59 ((J 29 5) - 1)) gi_158_57 gk_59 (by decide) (by omega) ((zU_n (by decide)).trans ((zU_n (by decide)).trans ((zU_n (by decide)).trans (rfl)))) ?_
          refine z_cV3 gi_158_58 gk_50 go_156 (Nat.le_of_ble_eq_true rfl) gc_156_RIII ?_
          refine z_iload1 gi_156_0 ?_
          refine z_sw (T := [((0 : Int), 36), ((1 : Int), 46), ((2 : Int), 56), ((3 : Int), 66), ((4 : Int), 76)]) gi_156_1 (by omega) rfl (fun q hq5 hxhq5 => ?_) (fun hq5 => ?_)
          · simp only [List.mem_cons, List.not_mem_nil, or_false] at hq5
            rcases hq5 with rfl | rfl | rfl | rfl | rfl
            · have hxhq5 : J 57 ((J 29 5) - 1) = 0 := hxhq5
              refine z_aload0 gi_156_36 ?_
              refine z_getR (r := 51) gi_156_37 gk_50 (hRr _ rm_50_2 (by decide)) ?_
              refine z_iload2 gi_156_40 ?_
              refine z_iload3 gi_156_41 ?_
              refine z_iast (e := J 59 ((J 29 5) - 1)) gi_156_42 gk_51 (by decide) (by omega) rfl ?_
              refine z_goto gi_156_43 ?_
              refine z_vret gi_156_95 gr_156 ?_
              show zW _ _ _ _ _ _ _ _ _ _
              refine z_aload0 gi_158_61 ?_
              refine z_getI (v := (J 29 5) - 1) gi_158_62 gk_50 ((zU_n (by decide)).trans ((zU_x (by decide)).trans (zU_e))) ?_
              refine z_iret gi_158_65 gr_158 ?_
              refine ⟨?_, ?_⟩
              · first | rfl | exact congrArg (fun v => some (zi v)) (by omega) | (exfalso; omega)
              · exfalso
                omega
            · have hxhq5 : J 57 ((J 29 5) - 1) = 1 := hxhq5
              refine z_aload0 gi_156_46 ?_
              refine z_getR (r := 52) gi_156_47 gk_50 (hRr _ rm_50_3 (by decide)) ?_
              refine z_iload2 gi_156_50 ?_
              refine z_iload3 gi_156_51 ?_
              refine z_iast (e := J 59 ((J 29 5) - 1)) gi_156_52 gk_52 (by decide) (by omega) rfl ?_
              refine z_goto gi_156_53 ?_
              refine z_vret gi_156_95 gr_156 ?_
              show zW _ _ _ _ _ _ _ _ _ _
              refine z_aload0 gi_158_61 ?_
              refine z_getI (v := (J 29 5) - 1) gi_158_62 gk_50 ((zU_n (by decide)).trans ((zU_x (by decide)).trans (zU_e))) ?_
              refine z_iret gi_158_65 gr_158 ?_
              refine ⟨?_, ?_⟩
              · first | rfl | exact congrArg (fun v => some (zi v)) (by omega) | (exfalso; omega)
              · exfalso
                omega
            · have hxhq5 : J 57 ((J 29 5) - 1) = 2 := hxhq5
              refine z_aload0 gi_156_56 ?_
              refine z_getR (r := 53) gi_156_57 gk_50 (hRr _ rm_50_4 (by decide)) ?_
              refine z_iload2 gi_156_60 ?_
              refine z_iload3 gi_156_61 ?_
              refine z_iast (e := J 59 ((J 29 5) - 1)) gi_156_62 gk_53 (by decide) (by omega) rfl ?_
              refine z_goto gi_156_63 ?_
              refine z_vret gi_156_95 gr_156 ?_
              show zW _ _ _ _ _ _ _ _ _ _
              refine z_aload0 gi_158_61 ?_
              refine z_getI (v := (J 29 5) - 1) gi_158_62 gk_50 ((zU_n (by decide)).trans ((zU_x (by decide)).trans (zU_e))) ?_
              refine z_iret gi_158_65 gr_158 ?_
              refine ⟨?_, ?_⟩
              · first | rfl | exact congrArg (fun v => some (zi v)) (by omega) | (exfalso; omega)
              · exfalso
                omega
            · have hxhq5 : J 57 ((J 29 5) - 1) = 3 := hxhq5
              refine z_aload0 gi_156_66 ?_
              refine z_getR (r := 54) gi_156_67 gk_50 (hRr _ rm_50_5 (by decide)) ?_
              refine z_iload2 gi_156_70 ?_
              refine z_iload3 gi_156_71 ?_
              refine z_iast (e := J 59 ((J 29 5) - 1)) gi_156_72 gk_54 (by decide) (by omega) rfl ?_
              refine z_goto gi_156_73 ?_
              refine z_vret gi_156_95 gr_156 ?_
              show zW _ _ _ _ _ _ _ _ _ _
              refine z_aload0 gi_158_61 ?_
              refine z_getI (v := (J 29 5) - 1) gi_158_62 gk_50 ((zU_n (by decide)).trans ((zU_x (by decide)).trans (zU_e))) ?_
              refine z_iret gi_158_65 gr_158 ?_
              refine ⟨?_, ?_⟩
              · first | rfl | exact congrArg (fun v => some (zi v)) (by omega) | (exfalso; omega)
              · exfalso
                omega
            · have hxhq5 : J 57 ((J 29 5) - 1) = 4 := hxhq5
              refine z_aload0 gi_156_76 ?_
              refine z_getR (r := 55) gi_156_77 gk_50 (hRr _ rm_50_6 (by decide)) ?_
              refine z_iload2 gi_156_80 ?_
              refine z_iload3 gi_156_81 ?_
              refine z_iast (e := J 59 ((J 29 5) - 1)) gi_156_82 gk_55 (by decide) (by omega) rfl ?_
              refine z_goto gi_156_83 ?_
              refine z_vret gi_156_95 gr_156 ?_
              show zW _ _ _ _ _ _ _ _ _ _
              refine z_aload0 gi_158_61 ?_
              refine z_getI (v := (J 29 5) - 1) gi_158_62 gk_50 ((zU_n (by decide)).trans ((zU_x (by decide)).trans (zU_e))) ?_
              refine z_iret gi_158_65 gr_158 ?_
              refine ⟨?_, ?_⟩
              · first | rfl | exact congrArg (fun v => some (zi v)) (by omega) | (exfalso; omega)
              · exfalso
                omega
          · have hq5 : ∀ q ∈ [((0 : Int), 36), ((1 : Int), 46), ((2 : Int), 56), ((3 : Int), 66), ((4 : Int), 76)], ¬ J 57 ((J 29 5) - 1) = q.1 := hq5
            have hq5_0 : ¬ J 57 ((J 29 5) - 1) = 0 := hq5 (0, 36) (by simp)
            have hq5_1 : ¬ J 57 ((J 29 5) - 1) = 1 := hq5 (1, 46) (by simp)
            have hq5_2 : ¬ J 57 ((J 29 5) - 1) = 2 := hq5 (2, 56) (by simp)
            have hq5_3 : ¬ J 57 ((J 29 5) - 1) = 3 := hq5 (3, 66) (by simp)
            have hq5_4 : ¬ J 57 ((J 29 5) - 1) = 4 := hq5 (4, 76) (by simp)
            refine z_aload0 gi_156_86 ?_
            refine z_getR (r := 56) gi_156_87 gk_50 (hRr _ rm_50_7 (by decide)) ?_
            refine z_iload1 gi_156_90 ?_
            refine z_pushJ gp_156_91 ?_
            refine z_isub (e := (J 57 ((J 29 5) - 1)) - 5) gi_156_92 rfl ?_
            refine z_iload3 gi_156_93 ?_
            refine z_iast (e := J 59 ((J 29 5) - 1)) gi_156_94 gk_56 (by decide) (by omega) rfl ?_
            refine z_vret gi_156_95 gr_156 ?_
            show zW _ _ _ _ _ _ _ _ _ _
            refine z_aload0 gi_158_61 ?_
            refine z_getI (v := (J 29 5) - 1) gi_158_62 gk_50 ((zU_n (by decide)).trans ((zU_x (by decide)).trans (zU_e))) ?_
            refine z_iret gi_158_65 gr_158 ?_
            refine ⟨?_, ?_⟩
            · first | rfl | exact congrArg (fun v => some (zi v)) (by omega) | (exfalso; omega)
            · exfalso
              omega
        · refine z_pushJ gp_89_39 ?_
          refine z_iload2 gi_89_41 ?_
          refine z_iadd (e := 40 + (J 31 ((J 29 5) - 1))) gi_89_42 rfl ?_
          refine z_goto gi_89_43 ?_
          refine z_iret gi_89_47 gr_89 ?_
          show zW _ _ _ _ _ _ _ _ _ _
          refine z_istore (ls1 := [some (.ref 8), some (zi (J 30 ((J 29 5) - 1))), some (zi (J 31 ((J 29 5) - 1))), some (zi (J 32 ((J 29 5) - 1))), some (zi (40 + (J 31 ((J 29 5) - 1))))]) gi_91_6 rfl ?_
          refine z_iload4 gi_91_8 ?_
          refine z_if_lt gi_91_10 (by omega) (fun h5 => ?_) (fun h5 => ?_)
          · refine z_vret gi_91_21 gr_91 ?_
            show zW _ _ _ _ _ _ _ _ _ _
            refine z_pushJ gp_16_53 ?_
            refine z_bret1 gi_16_54 gr_16 ?_
            show zW _ _ _ _ _ _ _ _ _ _
            refine z_if_eqF gi_131_7 zr_1 (by decide) ?_
            refine z_aload0 gi_131_10 ?_
            refine z_getR (r := 29) gi_131_11 gk_0 (hR _ rm_0_9) ?_
            refine z_getI (v := (J 29 5) - 1) gi_131_14 gk_29 (zU_e) ?_
            refine z_goto gi_131_17 ?_
            refine z_iret gi_131_22 gr_131 ?_
            refine ⟨_, rfl, ?_⟩
            show zW _ _ _ _ [some (.ref 50)] _ _ _ _ _
            refine z_aload0 gi_158_0 ?_
            refine z_getI (v := J 29 5) gi_158_1 gk_50 ((zU_n (by decide)).trans (c1.symm)) ?_
            refine z_if_neT gi_158_4 (by omega) (by omega) ?_
            refine z_aload0 gi_158_10 ?_
            refine z_dup gi_158_11 rfl ?_
            refine z_getI (v := J 29 5) gi_158_12 gk_50 ((zU_n (by decide)).trans (c1.symm)) ?_
            refine z_pushJ gp_158_15 ?_
            refine z_isub (e := (J 29 5) - 1) gi_158_16 rfl ?_
            refine z_putI (y := 8) gi_158_17 rfl gk_50 ?_
            refine z_aload0 gi_158_20 ?_
            refine z_dup gi_158_21 rfl ?_
            refine z_getI (v := J 50 9) gi_158_22 gk_50 ((zU_x (by decide)).trans ((zU_n (by decide)).trans (rfl))) ?_
            refine z_pushJ gp_158_25 ?_
            refine z_iadd (e := (J 50 9) + 1) gi_158_26 rfl ?_
            refine z_putI (y := 9) gi_158_27 rfl gk_50 ?_
            refine z_aload0 gi_158_30 ?_
            refine z_aload0 gi_158_31 ?_
            refine z_getR (r := 57) gi_158_32 gk_50 (hRr _ rm_50_10 (by decide)) ?_
            refine z_aload0 gi_158_35 ?_
            refine z_getI (v := (J 29 5) - 1) gi_158_36 gk_50 ((zU_x (by decide)).trans (zU_e)) ?_
            refine z_iald (v := J 57 ((J 29 5) - 1)) gi_158_39 gk_57 (by decide) (by omega) ((zU_n (by decide)).trans ((zU_n (by decide)).trans ((zU_n (by decide)).trans (rfl)))) ?_
            refine z_aload0 gi_158_40 ?_
            refine z_getR (r := 58) gi_158_41 gk_50 (hRr _ rm_50_11 (by decide)) ?_
            refine z_aload0 gi_158_44 ?_
            refine z_getI (v := (J 29 5) - 1) gi_158_45 gk_50 ((zU_x (by decide)).trans (zU_e)) ?_
            refine z_iald (v := J 58 ((J 29 5) - 1)) gi_158_48 gk_58 (by decide) (by omega) ((zU_n (by decide)).trans ((zU_n (by decide)).trans ((zU_n (by decide)).trans (rfl)))) ?_
            refine z_aload0 gi_158_49 ?_
            refine z_getR (r := 59) gi_158_50 gk_50 (hRr _ rm_50_12 (by decide)) ?_
            refine z_aload0 gi_158_53 ?_
            refine z_getI (v := (J 29 5) - 1) gi_158_54 gk_50 ((zU_x (by decide)).trans (zU_e)) ?_
            refine z_iald (v := J 59 ((J 29 5) - 1)) gi_158_57 gk_59 (by decide) (by omega) ((zU_n (by decide)).trans ((zU_n (by decide)).trans ((zU_n (by decide)).trans (rfl)))) ?_
            refine z_cV3 gi_158_58 gk_50 go_156 (Nat.le_of_ble_eq_true rfl) gc_156_RIII ?_
            refine z_iload1 gi_156_0 ?_
            refine z_sw (T := [((0 : Int), 36), ((1 : Int), 46), ((2 : Int), 56), ((3 : Int), 66), ((4 : Int), 76)]) gi_156_1 (by omega) rfl (fun q hq6 hxhq6 => ?_) (fun hq6 => ?_)
            · simp only [List.mem_cons, List.not_mem_nil, or_false] at hq6
              rcases hq6 with rfl | rfl | rfl | rfl | rfl
              · have hxhq6 : J 57 ((J 29 5) - 1) = 0 := hxhq6
                refine z_aload0 gi_156_36 ?_
                refine z_getR (r := 51) gi_156_37 gk_50 (hRr _ rm_50_2 (by decide)) ?_
                refine z_iload2 gi_156_40 ?_
                refine z_iload3 gi_156_41 ?_
                refine z_iast (e := J 59 ((J 29 5) - 1)) gi_156_42 gk_51 (by decide) (by omega) rfl ?_
                refine z_goto gi_156_43 ?_
                refine z_vret gi_156_95 gr_156 ?_
                show zW _ _ _ _ _ _ _ _ _ _
                refine z_aload0 gi_158_61 ?_
                refine z_getI (v := (J 29 5) - 1) gi_158_62 gk_50 ((zU_n (by decide)).trans ((zU_x (by decide)).trans (zU_e))) ?_
                refine z_iret gi_158_65 gr_158 ?_
                refine ⟨?_, ?_⟩
                · first | rfl | exact congrArg (fun v => some (zi v)) (by omega) | (exfalso; omega)
                · exfalso
                  omega
              · have hxhq6 : J 57 ((J 29 5) - 1) = 1 := hxhq6
                refine z_aload0 gi_156_46 ?_
                refine z_getR (r := 52) gi_156_47 gk_50 (hRr _ rm_50_3 (by decide)) ?_
                refine z_iload2 gi_156_50 ?_
                refine z_iload3 gi_156_51 ?_
                refine z_iast (e := J 59 ((J 29 5) - 1)) gi_156_52 gk_52 (by decide) (by omega) rfl ?_
                refine z_goto gi_156_53 ?_
                refine z_vret gi_156_95 gr_156 ?_
                show zW _ _ _ _ _ _ _ _ _ _
                refine z_aload0 gi_158_61 ?_
                refine z_getI (v := (J 29 5) - 1) gi_158_62 gk_50 ((zU_n (by decide)).trans ((zU_x (by decide)).trans (zU_e))) ?_
                refine z_iret gi_158_65 gr_158 ?_
                refine ⟨?_, ?_⟩
                · first | rfl | exact congrArg (fun v => some (zi v)) (by omega) | (exfalso; omega)
                · exfalso
                  omega
              · have hxhq6 : J 57 ((J 29 5) - 1) = 2 := hxhq6
                refine z_aload0 gi_156_56 ?_
                refine z_getR (r := 53) gi_156_57 gk_50 (hRr _ rm_50_4 (by decide)) ?_
                refine z_iload2 gi_156_60 ?_
                refine z_iload3 gi_156_61 ?_
                refine z_iast (e := J 59 ((J 29 5) - 1)) gi_156_62 gk_53 (by decide) (by omega) rfl ?_
                refine z_goto gi_156_63 ?_
                refine z_vret gi_156_95 gr_156 ?_
                show zW _ _ _ _ _ _ _ _ _ _
                refine z_aload0 gi_158_61 ?_
                refine z_getI (v := (J 29 5) - 1) gi_158_62 gk_50 ((zU_n (by decide)).trans ((zU_x (by decide)).trans (zU_e))) ?_
                refine z_iret gi_158_65 gr_158 ?_
                refine ⟨?_, ?_⟩
                · first | rfl | exact congrArg (fun v => some (zi v)) (by omega) | (exfalso; omega)
                · exfalso
                  omega
              · have hxhq6 : J 57 ((J 29 5) - 1) = 3 := hxhq6
                refine z_aload0 gi_156_66 ?_
                refine z_getR (r := 54) gi_156_67 gk_50 (hRr _ rm_50_5 (by decide)) ?_
                refine z_iload2 gi_156_70 ?_
                refine z_iload3 gi_156_71 ?_
                refine z_iast (e := J 59 ((J 29 5) - 1)) gi_156_72 gk_54 (by decide) (by omega) rfl ?_
                refine z_goto gi_156_73 ?_
                refine z_vret gi_156_95 gr_156 ?_
                show zW _ _ _ _ _ _ _ _ _ _
                refine z_aload0 gi_158_61 ?_
                refine z_getI (v := (J 29 5) - 1) gi_158_62 gk_50 ((zU_n (by decide)).trans ((zU_x (by decide)).trans (zU_e))) ?_
                refine z_iret gi_158_65 gr_158 ?_
                refine ⟨?_, ?_⟩
                · first | rfl | exact congrArg (fun v => some (zi v)) (by omega) | (exfalso; omega)
                · exfalso
                  omega
              · have hxhq6 : J 57 ((J 29 5) - 1) = 4 := hxhq6
                refine z_aload0 gi_156_76 ?_
                refine z_getR (r := 55) gi_156_77 gk_50 (hRr _ rm_50_6 (by decide)) ?_
                refine z_iload2 gi_156_80 ?_
                refine z_iload3 gi_156_81 ?_
                refine z_iast (e := J 59 ((J 29 5) - 1)) gi_156_82 gk_55 (by decide) (by omega) rfl ?_
                refine z_goto gi_156_83 ?_
                refine z_vret gi_156_95 gr_156 ?_
                show zW _ _ _ _ _ _ _ _ _ _
                refine z_aload0 gi_158_61 ?_
                refine z_getI (v := (J 29 5) - 1) gi_158_62 gk_50 ((zU_n (by decide)).trans ((zU_x (by decide)).trans (zU_e))) ?_
                refine z_iret gi_158_65 gr_158 ?_
                refine ⟨?_, ?_⟩
                · first | rfl | exact congrArg (fun v => some (zi v)) (by omega) | (exfalso; omega)
                · exfalso
                  omega
            · have hq6 : ∀ q ∈ [((0 : Int), 36), ((1 : Int), 46), ((2 : Int), 56), ((3 : Int), 66), ((4 : Int), 76)], ¬ J 57 ((J 29 5) - 1) = q.1 := hq6
              have hq6_0 : ¬ J 57 ((J 29 5) - 1) = 0 := hq6 (0, 36) (by simp)
              have hq6_1 : ¬ J 57 ((J 29 5) - 1) = 1 := hq6 (1, 46) (by simp)
              have hq6_2 : ¬ J 57 ((J 29 5) - 1) = 2 := hq6 (2, 56) (by simp)
              have hq6_3 : ¬ J 57 ((J 29 5) - 1) = 3 := hq6 (3, 66) (by simp)
              have hq6_4 : ¬ J 57 ((J 29 5) - 1) = 4 := hq6 (4, 76) (by simp)
              refine z_aload0 gi_156_86 ?_
              refine z_getR (r := 56) gi_156_87 gk_50 (hRr _ rm_50_7 (by decide)) ?_
              refine z_iload1 gi_156_90 ?_
              refine z_pushJ gp_156_91 ?_
              refine z_isub (e := (J 57 ((J 29 5) - 1)) - 5) gi_156_92 rfl ?_
              refine z_iload3 gi_156_93 ?_
              refine z_iast (e := J 59 ((J 29 5) - 1)) gi_156_94 gk_56 (by decide) (by omega) rfl ?_
              refine z_vret gi_156_95 gr_156 ?_
              show zW _ _ _ _ _ _ _ _ _ _
              refine z_aload0 gi_158_61 ?_
              refine z_getI (v := (J 29 5) - 1) gi_158_62 gk_50 ((zU_n (by decide)).trans ((zU_x (by decide)).trans (zU_e))) ?_
              refine z_iret gi_158_65 gr_158 ?_
              refine ⟨?_, ?_⟩
              · first | rfl | exact congrArg (fun v => some (zi v)) (by omega) | (exfalso; omega)
              · exfalso
                omega
          · refine z_aload0 gi_91_13 ?_
            refine z_getR (r := 9) gi_91_14 gk_8 (hR _ rm_8_1) ?_
            refine z_iload4 gi_91_17 ?_
            refine z_iload3 gi_91_19 ?_
            refine z_iast (e := J 32 ((J 29 5) - 1)) gi_91_20 gk_9 (by decide) (by omega) rfl ?_
            refine z_vret gi_91_21 gr_91 ?_
            show zW _ _ _ _ _ _ _ _ _ _
            refine z_pushJ gp_16_53 ?_
            refine z_bret1 gi_16_54 gr_16 ?_
            show zW _ _ _ _ _ _ _ _ _ _
            refine z_if_eqF gi_131_7 zr_1 (by decide) ?_
            refine z_aload0 gi_131_10 ?_
            refine z_getR (r := 29) gi_131_11 gk_0 (hR _ rm_0_9) ?_
            refine z_getI (v := (J 29 5) - 1) gi_131_14 gk_29 ((zU_n (by decide)).trans (zU_e)) ?_
            refine z_goto gi_131_17 ?_
            refine z_iret gi_131_22 gr_131 ?_
            refine ⟨_, rfl, ?_⟩
            show zW _ _ _ _ [some (.ref 50)] _ _ _ _ _
            refine z_aload0 gi_158_0 ?_
            refine z_getI (v := J 29 5) gi_158_1 gk_50 ((zU_n (by decide)).trans ((zU_n (by decide)).trans (c1.symm))) ?_
            refine z_if_neT gi_158_4 (by omega) (by omega) ?_
            refine z_aload0 gi_158_10 ?_
            refine z_dup gi_158_11 rfl ?_
            refine z_getI (v := J 29 5) gi_158_12 gk_50 ((zU_n (by decide)).trans ((zU_n (by decide)).trans (c1.symm))) ?_
            refine z_pushJ gp_158_15 ?_
            refine z_isub (e := (J 29 5) - 1) gi_158_16 rfl ?_
            refine z_putI (y := 8) gi_158_17 rfl gk_50 ?_
            refine z_aload0 gi_158_20 ?_
            refine z_dup gi_158_21 rfl ?_
            refine z_getI (v := J 50 9) gi_158_22 gk_50 ((zU_x (by decide)).trans ((zU_n (by decide)).trans ((zU_n (by decide)).trans (rfl)))) ?_
            refine z_pushJ gp_158_25 ?_
            refine z_iadd (e := (J 50 9) + 1) gi_158_26 rfl ?_
            refine z_putI (y := 9) gi_158_27 rfl gk_50 ?_
            refine z_aload0 gi_158_30 ?_
            refine z_aload0 gi_158_31 ?_
            refine z_getR (r := 57) gi_158_32 gk_50 (hRr _ rm_50_10 (by decide)) ?_
            refine z_aload0 gi_158_35 ?_
            refine z_getI (v := (J 29 5) - 1) gi_158_36 gk_50 ((zU_x (by decide)).trans (zU_e)) ?_
            refine z_iald (v := J 57 ((J 29 5) - 1)) gi_158_39 gk_57 (by decide) (by omega) ((zU_n (by decide)).trans ((zU_n (by decide)).trans ((zU_n (by decide)).trans ((zU_n (by decide)).trans (rfl))))) ?_
            refine z_aload0 gi_158_40 ?_
            refine z_getR (r := 58) gi_158_41 gk_50 (hRr _ rm_50_11 (by decide)) ?_
            refine z_aload0 gi_158_44 ?_
            refine z_getI (v := (J 29 5) - 1) gi_158_45 gk_50 ((zU_x (by decide)).trans (zU_e)) ?_
            refine z_iald (v := J 58 ((J 29 5) - 1)) gi_158_48 gk_58 (by decide) (by omega) ((zU_n (by decide)).trans ((zU_n (by decide)).trans ((zU_n (by decide)).trans ((zU_n (by decide)).trans (rfl))))) ?_
            refine z_aload0 gi_158_49 ?_
            refine z_getR (r := 59) gi_158_50 gk_50 (hRr _ rm_50_12 (by decide)) ?_
            refine z_aload0 gi_158_53 ?_
            refine z_getI (v := (J 29 5) - 1) gi_158_54 gk_50 ((zU_x (by decide)).trans (zU_e)) ?_
            refine z_iald (v := J 59 ((J 29 5) - 1)) gi_158_57 gk_59 (by decide) (by omega) ((zU_n (by decide)).trans ((zU_n (by decide)).trans ((zU_n (by decide)).trans ((zU_n (by decide)).trans (rfl))))) ?_
            refine z_cV3 gi_158_58 gk_50 go_156 (Nat.le_of_ble_eq_true rfl) gc_156_RIII ?_
            refine z_iload1 gi_156_0 ?_
            refine z_sw (T := [((0 : Int), 36), ((1 : Int), 46), ((2 : Int), 56), ((3 : Int), 66), ((4 : Int), 76)]) gi_156_1 (by omega) rfl (fun q hq6 hxhq6 => ?_) (fun hq6 => ?_)
            · simp only [List.mem_cons, List.not_mem_nil, or_false] at hq6
              rcases hq6 with rfl | rfl | rfl | rfl | rfl
              · have hxhq6 : J 57 ((J 29 5) - 1) = 0 := hxhq6
                refine z_aload0 gi_156_36 ?_
                refine z_getR (r := 51) gi_156_37 gk_50 (hRr _ rm_50_2 (by decide)) ?_
                refine z_iload2 gi_156_40 ?_
                refine z_iload3 gi_156_41 ?_
                refine z_iast (e := J 59 ((J 29 5) - 1)) gi_156_42 gk_51 (by decide) (by omega) rfl ?_
                refine z_goto gi_156_43 ?_
                refine z_vret gi_156_95 gr_156 ?_
                show zW _ _ _ _ _ _ _ _ _ _
                refine z_aload0 gi_158_61 ?_
                refine z_getI (v := (J 29 5) - 1) gi_158_62 gk_50 ((zU_n (by decide)).trans ((zU_x (by decide)).trans (zU_e))) ?_
                refine z_iret gi_158_65 gr_158 ?_
                refine ⟨?_, ?_⟩
                · first | rfl | exact congrArg (fun v => some (zi v)) (by omega) | (exfalso; omega)
                · have hs := (zK_u (a := 51) (x := J 58 ((J 29 5) - 1)) (v := J 59 ((J 29 5) - 1)) (zK_x (a := 50) (x := 9) (v := (J 50 9) + 1) (zK_x (a := 50) (x := 8) (v := (J 29 5) - 1) (zK_u (a := 9) (x := 40 + (J 31 ((J 29 5) - 1))) (v := J 32 ((J 29 5) - 1)) (zK_x (a := 29) (x := 5) (v := (J 29 5) - 1) (zK_r (k := (kL [] [(29, 5), (50, 8), (50, 9)])) (A := J)) rfl)) rfl) rfl))
                  have ev : J 59 ((J 29 5) - 1) = J 32 ((J 29 5) - 1) := by omega
                  have hY2 := RelY_k hs (by repeat' constructor) (fun p => by repeat' constructor) (by rw [ev]; exact RelY_p (p := J 30 (J 29 5 - 1)) (w := 0) hY (by omega) (by omega) (zFit_c hfit (by omega)) (by omega) rfl (by omega))
                  have hs2 := (zK_x (a := 51) (x := J 58 ((J 29 5) - 1)) (v := J 59 ((J 29 5) - 1)) (zK_u (a := 50) (x := 9) (v := (J 50 9) + 1) (zK_u (a := 50) (x := 8) (v := (J 29 5) - 1) (zK_x (a := 9) (x := 40 + (J 31 ((J 29 5) - 1))) (v := J 32 ((J 29 5) - 1)) (zK_u (a := 29) (x := 5) (v := (J 29 5) - 1) (zK_r (k := (kL [9, 51] [])) (A := J))) rfl))) rfl)
                  have hC2 := RelC_k hs2 (by repeat' constructor) (fun p => by repeat' constructor) (RelC_undo hC (by omega))
                  have hk := (zK_x (a := 51) (x := J 58 ((J 29 5) - 1)) (v := J 59 ((J 29 5) - 1)) (zK_x (a := 50) (x := 9) (v := (J 50 9) + 1) (zK_x (a := 50) (x := 8) (v := (J 29 5) - 1) (zK_x (a := 9) (x := 40 + (J 31 ((J 29 5) - 1))) (v := J 32 ((J 29 5) - 1)) (zK_x (a := 29) (x := 5) (v := (J 29 5) - 1) (zK_r (k := (kL [9, 51] [(29, 5), (50, 8), (50, 9)])) (A := J)) rfl) rfl) rfl) rfl) rfl)
                  exact ⟨hR, hG, hY2, RelD_k hk (by repeat' constructor) (fun p => by repeat' constructor) hD, RelP_k hk (by repeat' constructor) (fun p => by repeat' constructor) hP, hC2, RelA_k hk (by repeat' constructor) (fun p => by repeat' constructor) hAc, RelS_k hk (zK_r (k := kM)) (fun x j a b => ⟨kL_38 (by decide) (by decide) x j a b, kM_38 x j a b⟩) (fun p => ⟨rfl, rfl, rfl⟩) rfl hS, RelT_k hk (by repeat' constructor) (fun p => by repeat' constructor) hTp, RelX_k hk (by repeat' constructor) (fun p => by repeat' constructor) hX, RelW_k hk ⟨rfl, rfl⟩ trivial hW⟩
              · have hxhq6 : J 57 ((J 29 5) - 1) = 1 := hxhq6
                refine z_aload0 gi_156_46 ?_
                refine z_getR (r := 52) gi_156_47 gk_50 (hRr _ rm_50_3 (by decide)) ?_
                refine z_iload2 gi_156_50 ?_
                refine z_iload3 gi_156_51 ?_
                refine z_iast (e := J 59 ((J 29 5) - 1)) gi_156_52 gk_52 (by decide) (by omega) rfl ?_
                refine z_goto gi_156_53 ?_
                refine z_vret gi_156_95 gr_156 ?_
                show zW _ _ _ _ _ _ _ _ _ _
                refine z_aload0 gi_158_61 ?_
                refine z_getI (v := (J 29 5) - 1) gi_158_62 gk_50 ((zU_n (by decide)).trans ((zU_x (by decide)).trans (zU_e))) ?_
                refine z_iret gi_158_65 gr_158 ?_
                refine ⟨?_, ?_⟩
                · first | rfl | exact congrArg (fun v => some (zi v)) (by omega) | (exfalso; omega)
                · have hs := (zK_u (a := 52) (x := J 58 ((J 29 5) - 1)) (v := J 59 ((J 29 5) - 1)) (zK_x (a := 50) (x := 9) (v := (J 50 9) + 1) (zK_x (a := 50) (x := 8) (v := (J 29 5) - 1) (zK_u (a := 9) (x := 40 + (J 31 ((J 29 5) - 1))) (v := J 32 ((J 29 5) - 1)) (zK_x (a := 29) (x := 5) (v := (J 29 5) - 1) (zK_r (k := (kL [] [(29, 5), (50, 8), (50, 9)])) (A := J)) rfl)) rfl) rfl))
                  have ev : J 59 ((J 29 5) - 1) = J 32 ((J 29 5) - 1) := by omega
                  have hY2 := RelY_k hs (by repeat' constructor) (fun p => by repeat' constructor) (by rw [ev]; exact RelY_p (p := J 30 (J 29 5 - 1)) (w := 1) hY (by omega) (by omega) (zFit_c hfit (by omega)) (by omega) rfl (by omega))
                  have hs2 := (zK_x (a := 52) (x := J 58 ((J 29 5) - 1)) (v := J 59 ((J 29 5) - 1)) (zK_u (a := 50) (x := 9) (v := (J 50 9) + 1) (zK_u (a := 50) (x := 8) (v := (J 29 5) - 1) (zK_x (a := 9) (x := 40 + (J 31 ((J 29 5) - 1))) (v := J 32 ((J 29 5) - 1)) (zK_u (a := 29) (x := 5) (v := (J 29 5) - 1) (zK_r (k := (kL [9, 52] [])) (A := J))) rfl))) rfl)
                  have hC2 := RelC_k hs2 (by repeat' constructor) (fun p => by repeat' constructor) (RelC_undo hC (by omega))
                  have hk := (zK_x (a := 52) (x := J 58 ((J 29 5) - 1)) (v := J 59 ((J 29 5) - 1)) (zK_x (a := 50) (x := 9) (v := (J 50 9) + 1) (zK_x (a := 50) (x := 8) (v := (J 29 5) - 1) (zK_x (a := 9) (x := 40 + (J 31 ((J 29 5) - 1))) (v := J 32 ((J 29 5) - 1)) (zK_x (a := 29) (x := 5) (v := (J 29 5) - 1) (zK_r (k := (kL [9, 52] [(29, 5), (50, 8), (50, 9)])) (A := J)) rfl) rfl) rfl) rfl) rfl)
                  exact ⟨hR, hG, hY2, RelD_k hk (by repeat' constructor) (fun p => by repeat' constructor) hD, RelP_k hk (by repeat' constructor) (fun p => by repeat' constructor) hP, hC2, RelA_k hk (by repeat' constructor) (fun p => by repeat' constructor) hAc, RelS_k hk (zK_r (k := kM)) (fun x j a b => ⟨kL_38 (by decide) (by decide) x j a b, kM_38 x j a b⟩) (fun p => ⟨rfl, rfl, rfl⟩) rfl hS, RelT_k hk (by repeat' constructor) (fun p => by repeat' constructor) hTp, RelX_k hk (by repeat' constructor) (fun p => by repeat' constructor) hX, RelW_k hk ⟨rfl, rfl⟩ trivial hW⟩
              · have hxhq6 : J 57 ((J 29 5) - 1) = 2 := hxhq6
                refine z_aload0 gi_156_56 ?_
                refine z_getR (r := 53) gi_156_57 gk_50 (hRr _ rm_50_4 (by decide)) ?_
                refine z_iload2 gi_156_60 ?_
                refine z_iload3 gi_156_61 ?_
                refine z_iast (e := J 59 ((J 29 5) - 1)) gi_156_62 gk_53 (by decide) (by omega) rfl ?_
                refine z_goto gi_156_63 ?_
                refine z_vret gi_156_95 gr_156 ?_
                show zW _ _ _ _ _ _ _ _ _ _
                refine z_aload0 gi_158_61 ?_
                refine z_getI (v := (J 29 5) - 1) gi_158_62 gk_50 ((zU_n (by decide)).trans ((zU_x (by decide)).trans (zU_e))) ?_
                refine z_iret gi_158_65 gr_158 ?_
                refine ⟨?_, ?_⟩
                · first | rfl | exact congrArg (fun v => some (zi v)) (by omega) | (exfalso; omega)
                · have hs := (zK_u (a := 53) (x := J 58 ((J 29 5) - 1)) (v := J 59 ((J 29 5) - 1)) (zK_x (a := 50) (x := 9) (v := (J 50 9) + 1) (zK_x (a := 50) (x := 8) (v := (J 29 5) - 1) (zK_u (a := 9) (x := 40 + (J 31 ((J 29 5) - 1))) (v := J 32 ((J 29 5) - 1)) (zK_x (a := 29) (x := 5) (v := (J 29 5) - 1) (zK_r (k := (kL [] [(29, 5), (50, 8), (50, 9)])) (A := J)) rfl)) rfl) rfl))
                  have ev : J 59 ((J 29 5) - 1) = J 32 ((J 29 5) - 1) := by omega
                  have hY2 := RelY_k hs (by repeat' constructor) (fun p => by repeat' constructor) (by rw [ev]; exact RelY_p (p := J 30 (J 29 5 - 1)) (w := 2) hY (by omega) (by omega) (zFit_c hfit (by omega)) (by omega) rfl (by omega))
                  have hs2 := (zK_x (a := 53) (x := J 58 ((J 29 5) - 1)) (v := J 59 ((J 29 5) - 1)) (zK_u (a := 50) (x := 9) (v := (J 50 9) + 1) (zK_u (a := 50) (x := 8) (v := (J 29 5) - 1) (zK_x (a := 9) (x := 40 + (J 31 ((J 29 5) - 1))) (v := J 32 ((J 29 5) - 1)) (zK_u (a := 29) (x := 5) (v := (J 29 5) - 1) (zK_r (k := (kL [9, 53] [])) (A := J))) rfl))) rfl)
                  have hC2 := RelC_k hs2 (by repeat' constructor) (fun p => by repeat' constructor) (RelC_undo hC (by omega))
                  have hk := (zK_x (a := 53) (x := J 58 ((J 29 5) - 1)) (v := J 59 ((J 29 5) - 1)) (zK_x (a := 50) (x := 9) (v := (J 50 9) + 1) (zK_x (a := 50) (x := 8) (v := (J 29 5) - 1) (zK_x (a := 9) (x := 40 + (J 31 ((J 29 5) - 1))) (v := J 32 ((J 29 5) - 1)) (zK_x (a := 29) (x := 5) (v := (J 29 5) - 1) (zK_r (k := (kL [9, 53] [(29, 5), (50, 8), (50, 9)])) (A := J)) rfl) rfl) rfl) rfl) rfl)
                  exact ⟨hR, hG, hY2, RelD_k hk (by repeat' constructor) (fun p => by repeat' constructor) hD, RelP_k hk (by repeat' constructor) (fun p => by repeat' constructor) hP, hC2, RelA_k hk (by repeat' constructor) (fun p => by repeat' constructor) hAc, RelS_k hk (zK_r (k := kM)) (fun x j a b => ⟨kL_38 (by decide) (by decide) x j a b, kM_38 x j a b⟩) (fun p => ⟨rfl, rfl, rfl⟩) rfl hS, RelT_k hk (by repeat' constructor) (fun p => by repeat' constructor) hTp, RelX_k hk (by repeat' constructor) (fun p => by repeat' constructor) hX, RelW_k hk ⟨rfl, rfl⟩ trivial hW⟩
              · have hxhq6 : J 57 ((J 29 5) - 1) = 3 := hxhq6
                refine z_aload0 gi_156_66 ?_
                refine z_getR (r := 54) gi_156_67 gk_50 (hRr _ rm_50_5 (by decide)) ?_
                refine z_iload2 gi_156_70 ?_
                refine z_iload3 gi_156_71 ?_
                refine z_iast (e := J 59 ((J 29 5) - 1)) gi_156_72 gk_54 (by decide) (by omega) rfl ?_
                refine z_goto gi_156_73 ?_
                refine z_vret gi_156_95 gr_156 ?_
                show zW _ _ _ _ _ _ _ _ _ _
                refine z_aload0 gi_158_61 ?_
                refine z_getI (v := (J 29 5) - 1) gi_158_62 gk_50 ((zU_n (by decide)).trans ((zU_x (by decide)).trans (zU_e))) ?_
                refine z_iret gi_158_65 gr_158 ?_
                refine ⟨?_, ?_⟩
                · first | rfl | exact congrArg (fun v => some (zi v)) (by omega) | (exfalso; omega)
                · have hs := (zK_u (a := 54) (x := J 58 ((J 29 5) - 1)) (v := J 59 ((J 29 5) - 1)) (zK_x (a := 50) (x := 9) (v := (J 50 9) + 1) (zK_x (a := 50) (x := 8) (v := (J 29 5) - 1) (zK_u (a := 9) (x := 40 + (J 31 ((J 29 5) - 1))) (v := J 32 ((J 29 5) - 1)) (zK_x (a := 29) (x := 5) (v := (J 29 5) - 1) (zK_r (k := (kL [] [(29, 5), (50, 8), (50, 9)])) (A := J)) rfl)) rfl) rfl))
                  have ev : J 59 ((J 29 5) - 1) = J 32 ((J 29 5) - 1) := by omega
                  have hY2 := RelY_k hs (by repeat' constructor) (fun p => by repeat' constructor) (by rw [ev]; exact RelY_p (p := J 30 (J 29 5 - 1)) (w := 3) hY (by omega) (by omega) (zFit_c hfit (by omega)) (by omega) rfl (by omega))
                  have hs2 := (zK_x (a := 54) (x := J 58 ((J 29 5) - 1)) (v := J 59 ((J 29 5) - 1)) (zK_u (a := 50) (x := 9) (v := (J 50 9) + 1) (zK_u (a := 50) (x := 8) (v := (J 29 5) - 1) (zK_x (a := 9) (x := 40 + (J 31 ((J 29 5) - 1))) (v := J 32 ((J 29 5) - 1)) (zK_u (a := 29) (x := 5) (v := (J 29 5) - 1) (zK_r (k := (kL [9, 54] [])) (A := J))) rfl))) rfl)
                  have hC2 := RelC_k hs2 (by repeat' constructor) (fun p => by repeat' constructor) (RelC_undo hC (by omega))
                  have hk := (zK_x (a := 54) (x := J 58 ((J 29 5) - 1)) (v := J 59 ((J 29 5) - 1)) (zK_x (a := 50) (x := 9) (v := (J 50 9) + 1) (zK_x (a := 50) (x := 8) (v := (J 29 5) - 1) (zK_x (a := 9) (x := 40 + (J 31 ((J 29 5) - 1))) (v := J 32 ((J 29 5) - 1)) (zK_x (a := 29) (x := 5) (v := (J 29 5) - 1) (zK_r (k := (kL [9, 54] [(29, 5), (50, 8), (50, 9)])) (A := J)) rfl) rfl) rfl) rfl) rfl)
                  exact ⟨hR, hG, hY2, RelD_k hk (by repeat' constructor) (fun p => by repeat' constructor) hD, RelP_k hk (by repeat' constructor) (fun p => by repeat' constructor) hP, hC2, RelA_k hk (by repeat' constructor) (fun p => by repeat' constructor) hAc, RelS_k hk (zK_r (k := kM)) (fun x j a b => ⟨kL_38 (by decide) (by decide) x j a b, kM_38 x j a b⟩) (fun p => ⟨rfl, rfl, rfl⟩) rfl hS, RelT_k hk (by repeat' constructor) (fun p => by repeat' constructor) hTp, RelX_k hk (by repeat' constructor) (fun p => by repeat' constructor) hX, RelW_k hk ⟨rfl, rfl⟩ trivial hW⟩
              · have hxhq6 : J 57 ((J 29 5) - 1) = 4 := hxhq6
                refine z_aload0 gi_156_76 ?_
                refine z_getR (r := 55) gi_156_77 gk_50 (hRr _ rm_50_6 (by decide)) ?_
                refine z_iload2 gi_156_80 ?_
                refine z_iload3 gi_156_81 ?_
                refine z_iast (e := J 59 ((J 29 5) - 1)) gi_156_82 gk_55 (by decide) (by omega) rfl ?_
                refine z_goto gi_156_83 ?_
                refine z_vret gi_156_95 gr_156 ?_
                show zW _ _ _ _ _ _ _ _ _ _
                refine z_aload0 gi_158_61 ?_
                refine z_getI (v := (J 29 5) - 1) gi_158_62 gk_50 ((zU_n (by decide)).trans ((zU_x (by decide)).trans (zU_e))) ?_
                refine z_iret gi_158_65 gr_158 ?_
                refine ⟨?_, ?_⟩
                · first | rfl | exact congrArg (fun v => some (zi v)) (by omega) | (exfalso; omega)
                · have hs := (zK_u (a := 55) (x := J 58 ((J 29 5) - 1)) (v := J 59 ((J 29 5) - 1)) (zK_x (a := 50) (x := 9) (v := (J 50 9) + 1) (zK_x (a := 50) (x := 8) (v := (J 29 5) - 1) (zK_u (a := 9) (x := 40 + (J 31 ((J 29 5) - 1))) (v := J 32 ((J 29 5) - 1)) (zK_x (a := 29) (x := 5) (v := (J 29 5) - 1) (zK_r (k := (kL [] [(29, 5), (50, 8), (50, 9)])) (A := J)) rfl)) rfl) rfl))
                  have ev : J 59 ((J 29 5) - 1) = J 32 ((J 29 5) - 1) := by omega
                  have hY2 := RelY_k hs (by repeat' constructor) (fun p => by repeat' constructor) (by rw [ev]; exact RelY_p (p := J 30 (J 29 5 - 1)) (w := 4) hY (by omega) (by omega) (zFit_c hfit (by omega)) (by omega) rfl (by omega))
                  have hs2 := (zK_x (a := 55) (x := J 58 ((J 29 5) - 1)) (v := J 59 ((J 29 5) - 1)) (zK_u (a := 50) (x := 9) (v := (J 50 9) + 1) (zK_u (a := 50) (x := 8) (v := (J 29 5) - 1) (zK_x (a := 9) (x := 40 + (J 31 ((J 29 5) - 1))) (v := J 32 ((J 29 5) - 1)) (zK_u (a := 29) (x := 5) (v := (J 29 5) - 1) (zK_r (k := (kL [9, 55] [])) (A := J))) rfl))) rfl)
                  have hC2 := RelC_k hs2 (by repeat' constructor) (fun p => by repeat' constructor) (RelC_undo hC (by omega))
                  have hk := (zK_x (a := 55) (x := J 58 ((J 29 5) - 1)) (v := J 59 ((J 29 5) - 1)) (zK_x (a := 50) (x := 9) (v := (J 50 9) + 1) (zK_x (a := 50) (x := 8) (v := (J 29 5) - 1) (zK_x (a := 9) (x := 40 + (J 31 ((J 29 5) - 1))) (v := J 32 ((J 29 5) - 1)) (zK_x (a := 29) (x := 5) (v := (J 29 5) - 1) (zK_r (k := (kL [9, 55] [(29, 5), (50, 8), (50, 9)])) (A := J)) rfl) rfl) rfl) rfl) rfl)
                  exact ⟨hR, hG, hY2, RelD_k hk (by repeat' constructor) (fun p => by repeat' constructor) hD, RelP_k hk (by repeat' constructor) (fun p => by repeat' constructor) hP, hC2, RelA_k hk (by repeat' constructor) (fun p => by repeat' constructor) hAc, RelS_k hk (zK_r (k := kM)) (fun x j a b => ⟨kL_38 (by decide) (by decide) x j a b, kM_38 x j a b⟩) (fun p => ⟨rfl, rfl, rfl⟩) rfl hS, RelT_k hk (by repeat' constructor) (fun p => by repeat' constructor) hTp, RelX_k hk (by repeat' constructor) (fun p => by repeat' constructor) hX, RelW_k hk ⟨rfl, rfl⟩ trivial hW⟩
            · have hq6 : ∀ q ∈ [((0 : Int), 36), ((1 : Int), 46), ((2 : Int), 56), ((3 : Int), 66), ((4 : Int), 76)], ¬ J 57 ((J 29 5) - 1) = q.1 := hq6
              have hq6_0 : ¬ J 57 ((J 29 5) - 1) = 0 := hq6 (0, 36) (by simp)
              have hq6_1 : ¬ J 57 ((J 29 5) - 1) = 1 := hq6 (1, 46) (by simp)
              have hq6_2 : ¬ J 57 ((J 29 5) - 1) = 2 := hq6 (2, 56) (by simp)
              have hq6_3 : ¬ J 57 ((J 29 5) - 1) = 3 := hq6 (3, 66) (by simp)
              have hq6_4 : ¬ J 57 ((J 29 5) - 1) = 4 := hq6 (4, 76) (by simp)
              refine z_aload0 gi_156_86 ?_
              refine z_getR (r := 56) gi_156_87 gk_50 (hRr _ rm_50_7 (by decide)) ?_
              refine z_iload1 gi_156_90 ?_
              refine z_pushJ gp_156_91 ?_
              refine z_isub (e := (J 57 ((J 29 5) - 1)) - 5) gi_156_92 rfl ?_
              refine z_iload3 gi_156_93 ?_
              refine z_iast (e := J 59 ((J 29 5) - 1)) gi_156_94 gk_56 (by decide) (by omega) rfl ?_
              refine z_vret gi_156_95 gr_156 ?_
              show zW _ _ _ _ _ _ _ _ _ _
              refine z_aload0 gi_158_61 ?_
              refine z_getI (v := (J 29 5) - 1) gi_158_62 gk_50 ((zU_n (by decide)).trans ((zU_x (by decide)).trans (zU_e))) ?_
              refine z_iret gi_158_65 gr_158 ?_
              refine ⟨?_, ?_⟩
              · first | rfl | exact congrArg (fun v => some (zi v)) (by omega) | (exfalso; omega)
              · have hs := (zK_u (a := 56) (x := (J 57 ((J 29 5) - 1)) - 5) (v := J 59 ((J 29 5) - 1)) (zK_x (a := 50) (x := 9) (v := (J 50 9) + 1) (zK_x (a := 50) (x := 8) (v := (J 29 5) - 1) (zK_u (a := 9) (x := 40 + (J 31 ((J 29 5) - 1))) (v := J 32 ((J 29 5) - 1)) (zK_x (a := 29) (x := 5) (v := (J 29 5) - 1) (zK_r (k := (kL [] [(29, 5), (50, 8), (50, 9)])) (A := J)) rfl)) rfl) rfl))
                have ev : J 59 ((J 29 5) - 1) = J 32 ((J 29 5) - 1) := by omega
                have hY2 := RelY_k hs (by repeat' constructor) (fun p => by repeat' constructor) (by rw [ev]; exact RelY_g (w := J 31 (J 29 5 - 1)) hY (by omega) hfit (by omega) (by omega))
                have hs2 := (zK_x (a := 56) (x := (J 57 ((J 29 5) - 1)) - 5) (v := J 59 ((J 29 5) - 1)) (zK_u (a := 50) (x := 9) (v := (J 50 9) + 1) (zK_u (a := 50) (x := 8) (v := (J 29 5) - 1) (zK_x (a := 9) (x := 40 + (J 31 ((J 29 5) - 1))) (v := J 32 ((J 29 5) - 1)) (zK_u (a := 29) (x := 5) (v := (J 29 5) - 1) (zK_r (k := (kL [9, 56] [])) (A := J))) rfl))) rfl)
                have hC2 := RelC_k hs2 (by repeat' constructor) (fun p => by repeat' constructor) (RelC_undo hC (by omega))
                have hk := (zK_x (a := 56) (x := (J 57 ((J 29 5) - 1)) - 5) (v := J 59 ((J 29 5) - 1)) (zK_x (a := 50) (x := 9) (v := (J 50 9) + 1) (zK_x (a := 50) (x := 8) (v := (J 29 5) - 1) (zK_x (a := 9) (x := 40 + (J 31 ((J 29 5) - 1))) (v := J 32 ((J 29 5) - 1)) (zK_x (a := 29) (x := 5) (v := (J 29 5) - 1) (zK_r (k := (kL [9, 56] [(29, 5), (50, 8), (50, 9)])) (A := J)) rfl) rfl) rfl) rfl) rfl)
                exact ⟨hR, hG, hY2, RelD_k hk (by repeat' constructor) (fun p => by repeat' constructor) hD, RelP_k hk (by repeat' constructor) (fun p => by repeat' constructor) hP, hC2, RelA_k hk (by repeat' constructor) (fun p => by repeat' constructor) hAc, RelS_k hk (zK_r (k := kM)) (fun x j a b => ⟨kL_38 (by decide) (by decide) x j a b, kM_38 x j a b⟩) (fun p => ⟨rfl, rfl, rfl⟩) rfl hS, RelT_k hk (by repeat' constructor) (fun p => by repeat' constructor) hTp, RelX_k hk (by repeat' constructor) (fun p => by repeat' constructor) hX, RelW_k hk ⟨rfl, rfl⟩ trivial hW⟩
      · refine z_aload0 gi_89_17 ?_
        refine z_iload1 gi_89_18 ?_
        refine z_cV1 gi_89_19 gk_8 go_87 (Nat.le_of_ble_eq_true rfl) gc_87_RI ?_
        refine z_iload1 gi_87_0 ?_
        refine z_if_lt gi_87_1 (by omega) (fun h6 => ?_) (fun h6 => ?_)
        · refine z_pushJ gp_87_16 ?_
          refine z_bret0 gi_87_17 gr_87 ?_
          show zW _ _ _ _ _ _ _ _ _ _
          refine z_if_eqT gi_89_22 zr_0 (by decide) ?_
          refine z_pushJ gp_89_33 ?_
          refine z_iret gi_89_34 gr_89 ?_
          show zW _ _ _ _ _ _ _ _ _ _
          refine z_istore (ls1 := [some (.ref 8), some (zi (J 30 ((J 29 5) - 1))), some (zi (J 31 ((J 29 5) - 1))), some (zi (J 32 ((J 29 5) - 1))), some (zi (-1))]) gi_91_6 rfl ?_
          refine z_iload4 gi_91_8 ?_
          refine z_if_ltT gi_91_10 zrn_1 (by decide) ?_
          refine z_vret gi_91_21 gr_91 ?_
          show zW _ _ _ _ _ _ _ _ _ _
          refine z_pushJ gp_16_53 ?_
          refine z_bret1 gi_16_54 gr_16 ?_
          show zW _ _ _ _ _ _ _ _ _ _
          refine z_if_eqF gi_131_7 zr_1 (by decide) ?_
          refine z_aload0 gi_131_10 ?_
          refine z_getR (r := 29) gi_131_11 gk_0 (hR _ rm_0_9) ?_
          refine z_getI (v := (J 29 5) - 1) gi_131_14 gk_29 (zU_e) ?_
          refine z_goto gi_131_17 ?_
          refine z_iret gi_131_22 gr_131 ?_
          refine ⟨_, rfl, ?_⟩
          show zW _ _ _ _ [some (.ref 50)] _ _ _ _ _
          refine z_aload0 gi_158_0 ?_
          refine z_getI (v := J 29 5) gi_158_1 gk_50 ((zU_n (by decide)).trans (c1.symm)) ?_
          refine z_if_neT gi_158_4 (by omega) (by omega) ?_
          refine z_aload0 gi_158_10 ?_
          refine z_dup gi_158_11 rfl ?_
          refine z_getI (v := J 29 5) gi_158_12 gk_50 ((zU_n (by decide)).trans (c1.symm)) ?_
          refine z_pushJ gp_158_15 ?_
          refine z_isub (e := (J 29 5) - 1) gi_158_16 rfl ?_
          refine z_putI (y := 8) gi_158_17 rfl gk_50 ?_
          refine z_aload0 gi_158_20 ?_
          refine z_dup gi_158_21 rfl ?_
          refine z_getI (v := J 50 9) gi_158_22 gk_50 ((zU_x (by decide)).trans ((zU_n (by decide)).trans (rfl))) ?_
          refine z_pushJ gp_158_25 ?_
          refine z_iadd (e := (J 50 9) + 1) gi_158_26 rfl ?_
          refine z_putI (y := 9) gi_158_27 rfl gk_50 ?_
          refine z_aload0 gi_158_30 ?_
          refine z_aload0 gi_158_31 ?_
          refine z_getR (r := 57) gi_158_32 gk_50 (hRr _ rm_50_10 (by decide)) ?_
          refine z_aload0 gi_158_35 ?_
          refine z_getI (v := (J 29 5) - 1) gi_158_36 gk_50 ((zU_x (by decide)).trans (zU_e)) ?_
          refine z_iald (v := J 57 ((J 29 5) - 1)) gi_158_39 gk_57 (by decide) (by omega) ((zU_n (by decide)).trans ((zU_n (by decide)).trans ((zU_n (by decide)).trans (rfl)))) ?_
          refine z_aload0 gi_158_40 ?_
          refine z_getR (r := 58) gi_158_41 gk_50 (hRr _ rm_50_11 (by decide)) ?_
          refine z_aload0 gi_158_44 ?_
          refine z_getI (v := (J 29 5) - 1) gi_158_45 gk_50 ((zU_x (by decide)).trans (zU_e)) ?_
          refine z_iald (v := J 58 ((J 29 5) - 1)) gi_158_48 gk_58 (by decide) (by omega) ((zU_n (by decide)).trans ((zU_n (by decide)).trans ((zU_n (by decide)).trans (rfl)))) ?_
          refine z_aload0 gi_158_49 ?_
          refine z_getR (r := 59) gi_158_50 gk_50 (hRr _ rm_50_12 (by decide)) ?_
          refine z_aload0 gi_158_53 ?_
          refine z_getI (v := (J 29 5) - 1) gi_158_54 gk_50 ((zU_x (by decide)).trans (zU_e)) ?_
          refine z_iald (v := J 59 ((J 29 5) - 1)) gi_158_57 gk_59 (by decide) (by omega) ((zU_n (by decide)).trans ((zU_n (by decide)).trans ((zU_n (by decide)).trans (rfl)))) ?_
          refine z_cV3 gi_158_58 gk_50 go_156 (Nat.le_of_ble_eq_true rfl) gc_156_RIII ?_
          refine z_iload1 gi_156_0 ?_
          refine z_sw (T := [((0 : Int), 36), ((1 : Int), 46), ((2 : Int), 56), ((3 : Int), 66), ((4 : Int), 76)]) gi_156_1 (by omega) rfl (fun q hq7 hxhq7 => ?_) (fun hq7 => ?_)
          · simp only [List.mem_cons, List.not_mem_nil, or_false] at hq7
            rcases hq7 with rfl | rfl | rfl | rfl | rfl
            · have hxhq7 : J 57 ((J 29 5) - 1) = 0 := hxhq7
              refine z_aload0 gi_156_36 ?_
              refine z_getR (r := 51) gi_156_37 gk_50 (hRr _ rm_50_2 (by decide)) ?_
              refine z_iload2 gi_156_40 ?_
              refine z_iload3 gi_156_41 ?_
              refine z_iast (e := J 59 ((J 29 5) - 1)) gi_156_42 gk_51 (by decide) (by omega) rfl ?_
              refine z_goto gi_156_43 ?_
              refine z_vret gi_156_95 gr_156 ?_
              show zW _ _ _ _ _ _ _ _ _ _
              refine z_aload0 gi_158_61 ?_
              refine z_getI (v := (J 29 5) - 1) gi_158_62 gk_50 ((zU_n (by decide)).trans ((zU_x (by decide)).trans (zU_e))) ?_
              refine z_iret gi_158_65 gr_158 ?_
              refine ⟨?_, ?_⟩
              · first | rfl | exact congrArg (fun v => some (zi v)) (by omega) | (exfalso; omega)
              · exfalso
                omega
            · have hxhq7 : J 57 ((J 29 5) - 1) = 1 := hxhq7
              refine z_aload0 gi_156_46 ?_
              refine z_getR (r := 52) gi_156_47 gk_50 (hRr _ rm_50_3 (by decide)) ?_
              refine z_iload2 gi_156_50 ?_
              refine z_iload3 gi_156_51 ?_
              refine z_iast (e := J 59 ((J 29 5) - 1)) gi_156_52 gk_52 (by decide) (by omega) rfl ?_
              refine z_goto gi_156_53 ?_
              refine z_vret gi_156_95 gr_156 ?_
              show zW _ _ _ _ _ _ _ _ _ _
              refine z_aload0 gi_158_61 ?_
              refine z_getI (v := (J 29 5) - 1) gi_158_62 gk_50 ((zU_n (by decide)).trans ((zU_x (by decide)).trans (zU_e))) ?_
              refine z_iret gi_158_65 gr_158 ?_
              refine ⟨?_, ?_⟩
              · first | rfl | exact congrArg (fun v => some (zi v)) (by omega) | (exfalso; omega)
              · exfalso
                omega
            · have hxhq7 : J 57 ((J 29 5) - 1) = 2 := hxhq7
              refine z_aload0 gi_156_56 ?_
              refine z_getR (r := 53) gi_156_57 gk_50 (hRr _ rm_50_4 (by decide)) ?_
              refine z_iload2 gi_156_60 ?_
              refine z_iload3 gi_156_61 ?_
              refine z_iast (e := J 59 ((J 29 5) - 1)) gi_156_62 gk_53 (by decide) (by omega) rfl ?_
              refine z_goto gi_156_63 ?_
              refine z_vret gi_156_95 gr_156 ?_
              show zW _ _ _ _ _ _ _ _ _ _
              refine z_aload0 gi_158_61 ?_
              refine z_getI (v := (J 29 5) - 1) gi_158_62 gk_50 ((zU_n (by decide)).trans ((zU_x (by decide)).trans (zU_e))) ?_
              refine z_iret gi_158_65 gr_158 ?_
              refine ⟨?_, ?_⟩
              · first | rfl | exact congrArg (fun v => some (zi v)) (by omega) | (exfalso; omega)
              · exfalso
                omega
            · have hxhq7 : J 57 ((J 29 5) - 1) = 3 := hxhq7
              refine z_aload0 gi_156_66 ?_
              refine z_getR (r := 54) gi_156_67 gk_50 (hRr _ rm_50_5 (by decide)) ?_
              refine z_iload2 gi_156_70 ?_
              refine z_iload3 gi_156_71 ?_
              refine z_iast (e := J 59 ((J 29 5) - 1)) gi_156_72 gk_54 (by decide) (by omega) rfl ?_
              refine z_goto gi_156_73 ?_
              refine z_vret gi_156_95 gr_156 ?_
              show zW _ _ _ _ _ _ _ _ _ _
              refine z_aload0 gi_158_61 ?_
              refine z_getI (v := (J 29 5) - 1) gi_158_62 gk_50 ((zU_n (by decide)).trans ((zU_x (by decide)).trans (zU_e))) ?_
              refine z_iret gi_158_65 gr_158 ?_
              refine ⟨?_, ?_⟩
              · first | rfl | exact congrArg (fun v => some (zi v)) (by omega) | (exfalso; omega)
              · exfalso
                omega
            · have hxhq7 : J 57 ((J 29 5) - 1) = 4 := hxhq7
              refine z_aload0 gi_156_76 ?_
              refine z_getR (r := 55) gi_156_77 gk_50 (hRr _ rm_50_6 (by decide)) ?_
              refine z_iload2 gi_156_80 ?_
              refine z_iload3 gi_156_81 ?_
              refine z_iast (e := J 59 ((J 29 5) - 1)) gi_156_82 gk_55 (by decide) (by omega) rfl ?_
              refine z_goto gi_156_83 ?_
              refine z_vret gi_156_95 gr_156 ?_
              show zW _ _ _ _ _ _ _ _ _ _
              refine z_aload0 gi_158_61 ?_
              refine z_getI (v := (J 29 5) - 1) gi_158_62 gk_50 ((zU_n (by decide)).trans ((zU_x (by decide)).trans (zU_e))) ?_
              refine z_iret gi_158_65 gr_158 ?_
              refine ⟨?_, ?_⟩
              · first | rfl | exact congrArg (fun v => some (zi v)) (by omega) | (exfalso; omega)
              · exfalso
                omega
          · have hq7 : ∀ q ∈ [((0 : Int), 36), ((1 : Int), 46), ((2 : Int), 56), ((3 : Int), 66), ((4 : Int), 76)], ¬ J 57 ((J 29 5) - 1) = q.1 := hq7
            have hq7_0 : ¬ J 57 ((J 29 5) - 1) = 0 := hq7 (0, 36) (by simp)
            have hq7_1 : ¬ J 57 ((J 29 5) - 1) = 1 := hq7 (1, 46) (by simp)
            have hq7_2 : ¬ J 57 ((J 29 5) - 1) = 2 := hq7 (2, 56) (by simp)
            have hq7_3 : ¬ J 57 ((J 29 5) - 1) = 3 := hq7 (3, 66) (by simp)
            have hq7_4 : ¬ J 57 ((J 29 5) - 1) = 4 := hq7 (4, 76) (by simp)
            refine z_aload0 gi_156_86 ?_
            refine z_getR (r := 56) gi_156_87 gk_50 (hRr _ rm_50_7 (by decide)) ?_
            refine z_iload1 gi_156_90 ?_
            refine z_pushJ gp_156_91 ?_
            refine z_isub (e := (J 57 ((J 29 5) - 1)) - 5) gi_156_92 rfl ?_
            refine z_iload3 gi_156_93 ?_
            refine z_iast (e := J 59 ((J 29 5) - 1)) gi_156_94 gk_56 (by decide) (by omega) rfl ?_
            refine z_vret gi_156_95 gr_156 ?_
            show zW _ _ _ _ _ _ _ _ _ _
            refine z_aload0 gi_158_61 ?_
            refine z_getI (v := (J 29 5) - 1) gi_158_62 gk_50 ((zU_n (by decide)).trans ((zU_x (by decide)).trans (zU_e))) ?_
            refine z_iret gi_158_65 gr_158 ?_
            refine ⟨?_, ?_⟩
            · first | rfl | exact congrArg (fun v => some (zi v)) (by omega) | (exfalso; omega)
            · exfalso
              omega
        · refine z_iload1 gi_87_4 ?_
          refine z_aload0 gi_87_5 ?_
          refine z_getI (v := J 8 2) gi_87_6 gk_8 ((zU_n (by decide)).trans (rfl)) ?_
          refine z_icmp_ge gi_87_9 (by omega) (by omega) (fun h7 => ?_) (fun h7 => ?_)
          · refine z_pushJ gp_87_16 ?_
            refine z_bret0 gi_87_17 gr_87 ?_
            show zW _ _ _ _ _ _ _ _ _ _
            refine z_if_eqT gi_89_22 zr_0 (by decide) ?_
            refine z_pushJ gp_89_33 ?_
            refine z_iret gi_89_34 gr_89 ?_
            show zW _ _ _ _ _ _ _ _ _ _
            refine z_istore (ls1 := [some (.ref 8), some (zi (J 30 ((J 29 5) - 1))), some (zi (J 31 ((J 29 5) - 1))), some (zi (J 32 ((J 29 5) - 1))), some (zi (-1))]) gi_91_6 rfl ?_
            refine z_iload4 gi_91_8 ?_
            refine z_if_ltT gi_91_10 zrn_1 (by decide) ?_
            refine z_vret gi_91_21 gr_91 ?_
            show zW _ _ _ _ _ _ _ _ _ _
            refine z_pushJ gp_16_53 ?_
            refine z_bret1 gi_16_54 gr_16 ?_
            show zW _ _ _ _ _ _ _ _ _ _
            refine z_if_eqF gi_131_7 zr_1 (by decide) ?_
            refine z_aload0 gi_131_10 ?_
            refine z_getR (r := 29) gi_131_11 gk_0 (hR _ rm_0_9) ?_
            refine z_getI (v := (J 29 5) - 1) gi_131_14 gk_29 (zU_e) ?_
            refine z_goto gi_131_17 ?_
            refine z_iret gi_131_22 gr_131 ?_
            refine ⟨_, rfl, ?_⟩
            show zW _ _ _ _ [some (.ref 50)] _ _ _ _ _
            refine z_aload0 gi_158_0 ?_
            refine z_getI (v := J 29 5) gi_158_1 gk_50 ((zU_n (by decide)).trans (c1.symm)) ?_
            refine z_if_neT gi_158_4 (by omega) (by omega) ?_
            refine z_aload0 gi_158_10 ?_
            refine z_dup gi_158_11 rfl ?_
            refine z_getI (v := J 29 5) gi_158_12 gk_50 ((zU_n (by decide)).trans (c1.symm)) ?_
            refine z_pushJ gp_158_15 ?_
            refine z_isub (e := (J 29 5) - 1) gi_158_16 rfl ?_
            refine z_putI (y := 8) gi_158_17 rfl gk_50 ?_
            refine z_aload0 gi_158_20 ?_
            refine z_dup gi_158_21 rfl ?_
            refine z_getI (v := J 50 9) gi_158_22 gk_50 ((zU_x (by decide)).trans ((zU_n (by decide)).trans (rfl))) ?_
            refine z_pushJ gp_158_25 ?_
            refine z_iadd (e := (J 50 9) + 1) gi_158_26 rfl ?_
            refine z_putI (y := 9) gi_158_27 rfl gk_50 ?_
            refine z_aload0 gi_158_30 ?_
            refine z_aload0 gi_158_31 ?_
            refine z_getR (r := 57) gi_158_32 gk_50 (hRr _ rm_50_10 (by decide)) ?_
            refine z_aload0 gi_158_35 ?_
            refine z_getI (v := (J 29 5) - 1) gi_158_36 gk_50 ((zU_x (by decide)).trans (zU_e)) ?_
            refine z_iald (v := J 57 ((J 29 5) - 1)) gi_158_39 gk_57 (by decide) (by omega) ((zU_n (by decide)).trans ((zU_n (by decide)).trans ((zU_n (by decide)).trans (rfl)))) ?_
            refine z_aload0 gi_158_40 ?_
            refine z_getR (r := 58) gi_158_41 gk_50 (hRr _ rm_50_11 (by decide)) ?_
            refine z_aload0 gi_158_44 ?_
            refine z_getI (v := (J 29 5) - 1) gi_158_45 gk_50 ((zU_x (by decide)).trans (zU_e)) ?_
            refine z_iald (v := J 58 ((J 29 5) - 1)) gi_158_48 gk_58 (by decide) (by omega) ((zU_n (by decide)).trans ((zU_n (by decide)).trans ((zU_n (by decide)).trans (rfl)))) ?_
            refine z_aload0 gi_158_49 ?_
            refine z_getR (r := 59) gi_158_50 gk_50 (hRr _ rm_50_12 (by decide)) ?_
            refine z_aload0 gi_158_53 ?_
            refine z_getI (v := (J 29 5) - 1) gi_158_54 gk_50 ((zU_x (by decide)).trans (zU_e)) ?_
            refine z_iald (v := J 59 ((J 29 5) - 1)) gi_158_57 gk_59 (by decide) (by omega) ((zU_n (by decide)).trans ((zU_n (by decide)).trans ((zU_n (by decide)).trans (rfl)))) ?_
            refine z_cV3 gi_158_58 gk_50 go_156 (Nat.le_of_ble_eq_true rfl) gc_156_RIII ?_
            refine z_iload1 gi_156_0 ?_
            refine z_sw (T := [((0 : Int), 36), ((1 : Int), 46), ((2 : Int), 56), ((3 : Int), 66), ((4 : Int), 76)]) gi_156_1 (by omega) rfl (fun q hq8 hxhq8 => ?_) (fun hq8 => ?_)
            · simp only [List.mem_cons, List.not_mem_nil, or_false] at hq8
              rcases hq8 with rfl | rfl | rfl | rfl | rfl
              · have hxhq8 : J 57 ((J 29 5) - 1) = 0 := hxhq8
                refine z_aload0 gi_156_36 ?_
                refine z_getR (r := 51) gi_156_37 gk_50 (hRr _ rm_50_2 (by decide)) ?_
                refine z_iload2 gi_156_40 ?_
                refine z_iload3 gi_156_41 ?_
                refine z_iast (e := J 59 ((J 29 5) - 1)) gi_156_42 gk_51 (by decide) (by omega) rfl ?_
                refine z_goto gi_156_43 ?_
                refine z_vret gi_156_95 gr_156 ?_
                show zW _ _ _ _ _ _ _ _ _ _
                refine z_aload0 gi_158_61 ?_
                refine z_getI (v := (J 29 5) - 1) gi_158_62 gk_50 ((zU_n (by decide)).trans ((zU_x (by decide)).trans (zU_e))) ?_
                refine z_iret gi_158_65 gr_158 ?_
                refine ⟨?_, ?_⟩
                · first | rfl | exact congrArg (fun v => some (zi v)) (by omega) | (exfalso; omega)
                · exfalso
                  omega
              · have hxhq8 : J 57 ((J 29 5) - 1) = 1 := hxhq8
                refine z_aload0 gi_156_46 ?_
                refine z_getR (r := 52) gi_156_47 gk_50 (hRr _ rm_50_3 (by decide)) ?_
                refine z_iload2 gi_156_50 ?_
                refine z_iload3 gi_156_51 ?_
                refine z_iast (e := J 59 ((J 29 5) - 1)) gi_156_52 gk_52 (by decide) (by omega) rfl ?_
                refine z_goto gi_156_53 ?_
                refine z_vret gi_156_95 gr_156 ?_
                show zW _ _ _ _ _ _ _ _ _ _
                refine z_aload0 gi_158_61 ?_
                refine z_getI (v := (J 29 5) - 1) gi_158_62 gk_50 ((zU_n (by decide)).trans ((zU_x (by decide)).trans (zU_e))) ?_
                refine z_iret gi_158_65 gr_158 ?_
                refine ⟨?_, ?_⟩
                · first | rfl | exact congrArg (fun v => some (zi v)) (by omega) | (exfalso; omega)
                · exfalso
                  omega
              · have hxhq8 : J 57 ((J 29 5) - 1) = 2 := hxhq8
                refine z_aload0 gi_156_56 ?_
                refine z_getR (r := 53) gi_156_57 gk_50 (hRr _ rm_50_4 (by decide)) ?_
                refine z_iload2 gi_156_60 ?_
                refine z_iload3 gi_156_61 ?_
                refine z_iast (e := J 59 ((J 29 5) - 1)) gi_156_62 gk_53 (by decide) (by omega) rfl ?_
                refine z_goto gi_156_63 ?_
                refine z_vret gi_156_95 gr_156 ?_
                show zW _ _ _ _ _ _ _ _ _ _
                refine z_aload0 gi_158_61 ?_
                refine z_getI (v := (J 29 5) - 1) gi_158_62 gk_50 ((zU_n (by decide)).trans ((zU_x (by decide)).trans (zU_e))) ?_
                refine z_iret gi_158_65 gr_158 ?_
                refine ⟨?_, ?_⟩
                · first | rfl | exact congrArg (fun v => some (zi v)) (by omega) | (exfalso; omega)
                · exfalso
                  omega
              · have hxhq8 : J 57 ((J 29 5) - 1) = 3 := hxhq8
                refine z_aload0 gi_156_66 ?_
                refine z_getR (r := 54) gi_156_67 gk_50 (hRr _ rm_50_5 (by decide)) ?_
                refine z_iload2 gi_156_70 ?_
                refine z_iload3 gi_156_71 ?_
                refine z_iast (e := J 59 ((J 29 5) - 1)) gi_156_72 gk_54 (by decide) (by omega) rfl ?_
                refine z_goto gi_156_73 ?_
                refine z_vret gi_156_95 gr_156 ?_
                show zW _ _ _ _ _ _ _ _ _ _
                refine z_aload0 gi_158_61 ?_
                refine z_getI (v := (J 29 5) - 1) gi_158_62 gk_50 ((zU_n (by decide)).trans ((zU_x (by decide)).trans (zU_e))) ?_
                refine z_iret gi_158_65 gr_158 ?_
                refine ⟨?_, ?_⟩
                · first | rfl | exact congrArg (fun v => some (zi v)) (by omega) | (exfalso; omega)
                · exfalso
                  omega
              · have hxhq8 : J 57 ((J 29 5) - 1) = 4 := hxhq8
                refine z_aload0 gi_156_76 ?_
                refine z_getR (r := 55) gi_156_77 gk_50 (hRr _ rm_50_6 (by decide)) ?_
                refine z_iload2 gi_156_80 ?_
                refine z_iload3 gi_156_81 ?_
                refine z_iast (e := J 59 ((J 29 5) - 1)) gi_156_82 gk_55 (by decide) (by omega) rfl ?_
                refine z_goto gi_156_83 ?_
                refine z_vret gi_156_95 gr_156 ?_
                show zW _ _ _ _ _ _ _ _ _ _
                refine z_aload0 gi_158_61 ?_
                refine z_getI (v := (J 29 5) - 1) gi_158_62 gk_50 ((zU_n (by decide)).trans ((zU_x (by decide)).trans (zU_e))) ?_
                refine z_iret gi_158_65 gr_158 ?_
                refine ⟨?_, ?_⟩
                · first | rfl | exact congrArg (fun v => some (zi v)) (by omega) | (exfalso; omega)
                · exfalso
                  omega
            · have hq8 : ∀ q ∈ [((0 : Int), 36), ((1 : Int), 46), ((2 : Int), 56), ((3 : Int), 66), ((4 : Int), 76)], ¬ J 57 ((J 29 5) - 1) = q.1 := hq8
              have hq8_0 : ¬ J 57 ((J 29 5) - 1) = 0 := hq8 (0, 36) (by simp)
              have hq8_1 : ¬ J 57 ((J 29 5) - 1) = 1 := hq8 (1, 46) (by simp)
              have hq8_2 : ¬ J 57 ((J 29 5) - 1) = 2 := hq8 (2, 56) (by simp)
              have hq8_3 : ¬ J 57 ((J 29 5) - 1) = 3 := hq8 (3, 66) (by simp)
              have hq8_4 : ¬ J 57 ((J 29 5) - 1) = 4 := hq8 (4, 76) (by simp)
              refine z_aload0 gi_156_86 ?_
              refine z_getR (r := 56) gi_156_87 gk_50 (hRr _ rm_50_7 (by decide)) ?_
              refine z_iload1 gi_156_90 ?_
              refine z_pushJ gp_156_91 ?_
              refine z_isub (e := (J 57 ((J 29 5) - 1)) - 5) gi_156_92 rfl ?_
              refine z_iload3 gi_156_93 ?_
              refine z_iast (e := J 59 ((J 29 5) - 1)) gi_156_94 gk_56 (by decide) (by omega) rfl ?_
              refine z_vret gi_156_95 gr_156 ?_
              show zW _ _ _ _ _ _ _ _ _ _
              refine z_aload0 gi_158_61 ?_
              refine z_getI (v := (J 29 5) - 1) gi_158_62 gk_50 ((zU_n (by decide)).trans ((zU_x (by decide)).trans (zU_e))) ?_
              refine z_iret gi_158_65 gr_158 ?_
              refine ⟨?_, ?_⟩
              · first | rfl | exact congrArg (fun v => some (zi v)) (by omega) | (exfalso; omega)
              · exfalso
                omega
          · refine z_pushJ gp_87_12 ?_
            refine z_goto gi_87_13 ?_
            refine z_bret1 gi_87_17 gr_87 ?_
            show zW _ _ _ _ _ _ _ _ _ _
            refine z_if_eqF gi_89_22 zr_1 (by decide) ?_
            refine z_iload1 gi_89_25 ?_
            refine z_pushJ gp_89_26 ?_
            refine z_imul (e := (J 30 ((J 29 5) - 1)) * 5) gi_89_27 rfl ?_
            refine z_iload2 gi_89_28 ?_
            refine z_iadd (e := (J 30 ((J 29 5) - 1)) * 5 + (J 31 ((J 29 5) - 1))) gi_89_29 rfl ?_
            refine z_goto gi_89_30 ?_
            refine z_iret gi_89_34 gr_89 ?_
            show zW _ _ _ _ _ _ _ _ _ _
            refine z_istore (ls1 := [some (.ref 8), some (zi (J 30 ((J 29 5) - 1))), some (zi (J 31 ((J 29 5) - 1))), some (zi (J 32 ((J 29 5) - 1))), some (zi ((J 30 ((J 29 5) - 1)) * 5 + (J 31 ((J 29 5) - 1))))]) gi_91_6 rfl ?_
            refine z_iload4 gi_91_8 ?_
            refine z_if_lt gi_91_10 (by omega) (fun h8 => ?_) (fun h8 => ?_)
            · refine z_vret gi_91_21 gr_91 ?_
              show zW _ _ _ _ _ _ _ _ _ _
              refine z_pushJ gp_16_53 ?_
              refine z_bret1 gi_16_54 gr_16 ?_
              show zW _ _ _ _ _ _ _ _ _ _
              refine z_if_eqF gi_131_7 zr_1 (by decide) ?_
              refine z_aload0 gi_131_10 ?_
              refine z_getR (r := 29) gi_131_11 gk_0 (hR _ rm_0_9) ?_
              refine z_getI (v := (J 29 5) - 1) gi_131_14 gk_29 (zU_e) ?_
              refine z_goto gi_131_17 ?_
              refine z_iret gi_131_22 gr_131 ?_
              refine ⟨_, rfl, ?_⟩
              show zW _ _ _ _ [some (.ref 50)] _ _ _ _ _
              refine z_aload0 gi_158_0 ?_
              refine z_getI (v := J 29 5) gi_158_1 gk_50 ((zU_n (by decide)).trans (c1.symm)) ?_
              refine z_if_neT gi_158_4 (by omega) (by omega) ?_
              refine z_aload0 gi_158_10 ?_
              refine z_dup gi_158_11 rfl ?_
              refine z_getI (v := J 29 5) gi_158_12 gk_50 ((zU_n (by decide)).trans (c1.symm)) ?_
              refine z_pushJ gp_158_15 ?_
              refine z_isub (e := (J 29 5) - 1) gi_158_16 rfl ?_
              refine z_putI (y := 8) gi_158_17 rfl gk_50 ?_
              refine z_aload0 gi_158_20 ?_
              refine z_dup gi_158_21 rfl ?_
              refine z_getI (v := J 50 9) gi_158_22 gk_50 ((zU_x (by decide)).trans ((zU_n (by decide)).trans (rfl))) ?_
              refine z_pushJ gp_158_25 ?_
              refine z_iadd (e := (J 50 9) + 1) gi_158_26 rfl ?_
              refine z_putI (y := 9) gi_158_27 rfl gk_50 ?_
              refine z_aload0 gi_158_30 ?_
              refine z_aload0 gi_158_31 ?_
              refine z_getR (r := 57) gi_158_32 gk_50 (hRr _ rm_50_10 (by decide)) ?_
              refine z_aload0 gi_158_35 ?_
              refine z_getI (v := (J 29 5) - 1) gi_158_36 gk_50 ((zU_x (by decide)).trans (zU_e)) ?_
              refine z_iald (v := J 57 ((J 29 5) - 1)) gi_158_39 gk_57 (by decide) (by omega) ((zU_n (by decide)).trans ((zU_n (by decide)).trans ((zU_n (by decide)).trans (rfl)))) ?_
              refine z_aload0 gi_158_40 ?_
              refine z_getR (r := 58) gi_158_41 gk_50 (hRr _ rm_50_11 (by decide)) ?_
              refine z_aload0 gi_158_44 ?_
              refine z_getI (v := (J 29 5) - 1) gi_158_45 gk_50 ((zU_x (by decide)).trans (zU_e)) ?_
              refine z_iald (v := J 58 ((J 29 5) - 1)) gi_158_48 gk_58 (by decide) (by omega) ((zU_n (by decide)).trans ((zU_n (by decide)).trans ((zU_n (by decide)).trans (rfl)))) ?_
              refine z_aload0 gi_158_49 ?_
              refine z_getR (r := 59) gi_158_50 gk_50 (hRr _ rm_50_12 (by decide)) ?_
              refine z_aload0 gi_158_53 ?_
              refine z_getI (v := (J 29 5) - 1) gi_158_54 gk_50 ((zU_x (by decide)).trans (zU_e)) ?_
              refine z_iald (v := J 59 ((J 29 5) - 1)) gi_158_57 gk_59 (by decide) (by omega) ((zU_n (by decide)).trans ((zU_n (by decide)).trans ((zU_n (by decide)).trans (rfl)))) ?_
              refine z_cV3 gi_158_58 gk_50 go_156 (Nat.le_of_ble_eq_true rfl) gc_156_RIII ?_
              refine z_iload1 gi_156_0 ?_
              refine z_sw (T := [((0 : Int), 36), ((1 : Int), 46), ((2 : Int), 56), ((3 : Int), 66), ((4 : Int), 76)]) gi_156_1 (by omega) rfl (fun q hq9 hxhq9 => ?_) (fun hq9 => ?_)
              · simp only [List.mem_cons, List.not_mem_nil, or_false] at hq9
                rcases hq9 with rfl | rfl | rfl | rfl | rfl
                · have hxhq9 : J 57 ((J 29 5) - 1) = 0 := hxhq9
                  refine z_aload0 gi_156_36 ?_
                  refine z_getR (r := 51) gi_156_37 gk_50 (hRr _ rm_50_2 (by decide)) ?_
                  refine z_iload2 gi_156_40 ?_
                  refine z_iload3 gi_156_41 ?_
                  refine z_iast (e := J 59 ((J 29 5) - 1)) gi_156_42 gk_51 (by decide) (by omega) rfl ?_
                  refine z_goto gi_156_43 ?_
                  refine z_vret gi_156_95 gr_156 ?_
                  show zW _ _ _ _ _ _ _ _ _ _
                  refine z_aload0 gi_158_61 ?_
                  refine z_getI (v := (J 29 5) - 1) gi_158_62 gk_50 ((zU_n (by decide)).trans ((zU_x (by decide)).trans (zU_e))) ?_
                  refine z_iret gi_158_65 gr_158 ?_
                  refine ⟨?_, ?_⟩
                  · first | rfl | exact congrArg (fun v => some (zi v)) (by omega) | (exfalso; omega)
                  · exfalso
                    omega
                · have hxhq9 : J 57 ((J 29 5) - 1) = 1 := hxhq9
                  refine z_aload0 gi_156_46 ?_
                  refine z_getR (r := 52) gi_156_47 gk_50 (hRr _ rm_50_3 (by decide)) ?_
                  refine z_iload2 gi_156_50 ?_
                  refine z_iload3 gi_156_51 ?_
                  refine z_iast (e := J 59 ((J 29 5) - 1)) gi_156_52 gk_52 (by decide) (by omega) rfl ?_
                  refine z_goto gi_156_53 ?_
                  refine z_vret gi_156_95 gr_156 ?_
                  show zW _ _ _ _ _ _ _ _ _ _
                  refine z_aload0 gi_158_61 ?_
                  refine z_getI (v := (J 29 5) - 1) gi_158_62 gk_50 ((zU_n (by decide)).trans ((zU_x (by decide)).trans (zU_e))) ?_
                  refine z_iret gi_158_65 gr_158 ?_
                  refine ⟨?_, ?_⟩
                  · first | rfl | exact congrArg (fun v => some (zi v)) (by omega) | (exfalso; omega)
                  · exfalso
                    omega
                · have hxhq9 : J 57 ((J 29 5) - 1) = 2 := hxhq9
                  refine z_aload0 gi_156_56 ?_
                  refine z_getR (r := 53) gi_156_57 gk_50 (hRr _ rm_50_4 (by decide)) ?_
                  refine z_iload2 gi_156_60 ?_
                  refine z_iload3 gi_156_61 ?_
                  refine z_iast (e := J 59 ((J 29 5) - 1)) gi_156_62 gk_53 (by decide) (by omega) rfl ?_
                  refine z_goto gi_156_63 ?_
                  refine z_vret gi_156_95 gr_156 ?_
                  show zW _ _ _ _ _ _ _ _ _ _
                  refine z_aload0 gi_158_61 ?_
                  refine z_getI (v := (J 29 5) - 1) gi_158_62 gk_50 ((zU_n (by decide)).trans ((zU_x (by decide)).trans (zU_e))) ?_
                  refine z_iret gi_158_65 gr_158 ?_
                  refine ⟨?_, ?_⟩
                  · first | rfl | exact congrArg (fun v => some (zi v)) (by omega) | (exfalso; omega)
                  · exfalso
                    omega
                · have hxhq9 : J 57 ((J 29 5) - 1) = 3 := hxhq9
                  refine z_aload0 gi_156_66 ?_
                  refine z_getR (r := 54) gi_156_67 gk_50 (hRr _ rm_50_5 (by decide)) ?_
                  refine z_iload2 gi_156_70 ?_
                  refine z_iload3 gi_156_71 ?_
                  refine z_iast (e := J 59 ((J 29 5) - 1)) gi_156_72 gk_54 (by decide) (by omega) rfl ?_
                  refine z_goto gi_156_73 ?_
                  refine z_vret gi_156_95 gr_156 ?_
                  show zW _ _ _ _ _ _ _ _ _ _
                  refine z_aload0 gi_158_61 ?_
                  refine z_getI (v := (J 29 5) - 1) gi_158_62 gk_50 ((zU_n (by decide)).trans ((zU_x (by decide)).trans (zU_e))) ?_
                  refine z_iret gi_158_65 gr_158 ?_
                  refine ⟨?_, ?_⟩
                  · first | rfl | exact congrArg (fun v => some (zi v)) (by omega) | (exfalso; omega)
                  · exfalso
                    omega
                · have hxhq9 : J 57 ((J 29 5) - 1) = 4 := hxhq9
                  refine z_aload0 gi_156_76 ?_
                  refine z_getR (r := 55) gi_156_77 gk_50 (hRr _ rm_50_6 (by decide)) ?_
                  refine z_iload2 gi_156_80 ?_
                  refine z_iload3 gi_156_81 ?_
                  refine z_iast (e := J 59 ((J 29 5) - 1)) gi_156_82 gk_55 (by decide) (by omega) rfl ?_
                  refine z_goto gi_156_83 ?_
                  refine z_vret gi_156_95 gr_156 ?_
                  show zW _ _ _ _ _ _ _ _ _ _
                  refine z_aload0 gi_158_61 ?_
                  refine z_getI (v := (J 29 5) - 1) gi_158_62 gk_50 ((zU_n (by decide)).trans ((zU_x (by decide)).trans (zU_e))) ?_
                  refine z_iret gi_158_65 gr_158 ?_
                  refine ⟨?_, ?_⟩
                  · first | rfl | exact congrArg (fun v => some (zi v)) (by omega) | (exfalso; omega)
                  · exfalso
                    omega
              · have hq9 : ∀ q ∈ [((0 : Int), 36), ((1 : Int), 46), ((2 : Int), 56), ((3 : Int), 66), ((4 : Int), 76)], ¬ J 57 ((J 29 5) - 1) = q.1 := hq9
                have hq9_0 : ¬ J 57 ((J 29 5) - 1) = 0 := hq9 (0, 36) (by simp)
                have hq9_1 : ¬ J 57 ((J 29 5) - 1) = 1 := hq9 (1, 46) (by simp)
                have hq9_2 : ¬ J 57 ((J 29 5) - 1) = 2 := hq9 (2, 56) (by simp)
                have hq9_3 : ¬ J 57 ((J 29 5) - 1) = 3 := hq9 (3, 66) (by simp)
                have hq9_4 : ¬ J 57 ((J 29 5) - 1) = 4 := hq9 (4, 76) (by simp)
                refine z_aload0 gi_156_86 ?_
                refine z_getR (r := 56) gi_156_87 gk_50 (hRr _ rm_50_7 (by decide)) ?_
                refine z_iload1 gi_156_90 ?_
                refine z_pushJ gp_156_91 ?_
                refine z_isub (e := (J 57 ((J 29 5) - 1)) - 5) gi_156_92 rfl ?_
                refine z_iload3 gi_156_93 ?_
                refine z_iast (e := J 59 ((J 29 5) - 1)) gi_156_94 gk_56 (by decide) (by omega) rfl ?_
                refine z_vret gi_156_95 gr_156 ?_
                show zW _ _ _ _ _ _ _ _ _ _
                refine z_aload0 gi_158_61 ?_
                refine z_getI (v := (J 29 5) - 1) gi_158_62 gk_50 ((zU_n (by decide)).trans ((zU_x (by decide)).trans (zU_e))) ?_
                refine z_iret gi_158_65 gr_158 ?_
                refine ⟨?_, ?_⟩
                · first | rfl | exact congrArg (fun v => some (zi v)) (by omega) | (exfalso; omega)
                · exfalso
                  omega
            · refine z_aload0 gi_91_13 ?_
              refine z_getR (r := 9) gi_91_14 gk_8 (hR _ rm_8_1) ?_
              refine z_iload4 gi_91_17 ?_
              refine z_iload3 gi_91_19 ?_
              refine z_iast (e := J 32 ((J 29 5) - 1)) gi_91_20 gk_9 (by decide) (by omega) rfl ?_
              refine z_vret gi_91_21 gr_91 ?_
              show zW _ _ _ _ _ _ _ _ _ _
              refine z_pushJ gp_16_53 ?_
              refine z_bret1 gi_16_54 gr_16 ?_
              show zW _ _ _ _ _ _ _ _ _ _
              refine z_if_eqF gi_131_7 zr_1 (by decide) ?_
              refine z_aload0 gi_131_10 ?_
              refine z_getR (r := 29) gi_131_11 gk_0 (hR _ rm_0_9) ?_
              refine z_getI (v := (J 29 5) - 1) gi_131_14 gk_29 ((zU_n (by decide)).trans (zU_e)) ?_
              refine z_goto gi_131_17 ?_
              refine z_iret gi_131_22 gr_131 ?_
              refine ⟨_, rfl, ?_⟩
              show zW _ _ _ _ [some (.ref 50)] _ _ _ _ _
              refine z_aload0 gi_158_0 ?_
              refine z_getI (v := J 29 5) gi_158_1 gk_50 ((zU_n (by decide)).trans ((zU_n (by decide)).trans (c1.symm))) ?_
              refine z_if_neT gi_158_4 (by omega) (by omega) ?_
              refine z_aload0 gi_158_10 ?_
              refine z_dup gi_158_11 rfl ?_
              refine z_getI (v := J 29 5) gi_158_12 gk_50 ((zU_n (by decide)).trans ((zU_n (by decide)).trans (c1.symm))) ?_
              refine z_pushJ gp_158_15 ?_
              refine z_isub (e := (J 29 5) - 1) gi_158_16 rfl ?_
              refine z_putI (y := 8) gi_158_17 rfl gk_50 ?_
              refine z_aload0 gi_158_20 ?_
              refine z_dup gi_158_21 rfl ?_
              refine z_getI (v := J 50 9) gi_158_22 gk_50 ((zU_x (by decide)).trans ((zU_n (by decide)).trans ((zU_n (by decide)).trans (rfl)))) ?_
              refine z_pushJ gp_158_25 ?_
              refine z_iadd (e := (J 50 9) + 1) gi_158_26 rfl ?_
              refine z_putI (y := 9) gi_158_27 rfl gk_50 ?_
              refine z_aload0 gi_158_30 ?_
              refine z_aload0 gi_158_31 ?_
              refine z_getR (r := 57) gi_158_32 gk_50 (hRr _ rm_50_10 (by decide)) ?_
              refine z_aload0 gi_158_35 ?_
              refine z_getI (v := (J 29 5) - 1) gi_158_36 gk_50 ((zU_x (by decide)).trans (zU_e)) ?_
              refine z_iald (v := J 57 ((J 29 5) - 1)) gi_158_39 gk_57 (by decide) (by omega) ((zU_n (by decide)).trans ((zU_n (by decide)).trans ((zU_n (by decide)).trans ((zU_n (by decide)).trans (rfl))))) ?_
              refine z_aload0 gi_158_40 ?_
              refine z_getR (r := 58) gi_158_41 gk_50 (hRr _ rm_50_11 (by decide)) ?_
              refine z_aload0 gi_158_44 ?_
              refine z_getI (v := (J 29 5) - 1) gi_158_45 gk_50 ((zU_x (by decide)).trans (zU_e)) ?_
              refine z_iald (v := J 58 ((J 29 5) - 1)) gi_158_48 gk_58 (by decide) (by omega) ((zU_n (by decide)).trans ((zU_n (by decide)).trans ((zU_n (by decide)).trans ((zU_n (by decide)).trans (rfl))))) ?_
              refine z_aload0 gi_158_49 ?_
              refine z_getR (r := 59) gi_158_50 gk_50 (hRr _ rm_50_12 (by decide)) ?_
              refine z_aload0 gi_158_53 ?_
              refine z_getI (v := (J 29 5) - 1) gi_158_54 gk_50 ((zU_x (by decide)).trans (zU_e)) ?_
              refine z_iald (v := J 59 ((J 29 5) - 1)) gi_158_57 gk_59 (by decide) (by omega) ((zU_n (by decide)).trans ((zU_n (by decide)).trans ((zU_n (by decide)).trans ((zU_n (by decide)).trans (rfl))))) ?_
              refine z_cV3 gi_158_58 gk_50 go_156 (Nat.le_of_ble_eq_true rfl) gc_156_RIII ?_
              refine z_iload1 gi_156_0 ?_
              refine z_sw (T := [((0 : Int), 36), ((1 : Int), 46), ((2 : Int), 56), ((3 : Int), 66), ((4 : Int), 76)]) gi_156_1 (by omega) rfl (fun q hq9 hxhq9 => ?_) (fun hq9 => ?_)
              · simp only [List.mem_cons, List.not_mem_nil, or_false] at hq9
                rcases hq9 with rfl | rfl | rfl | rfl | rfl
                · have hxhq9 : J 57 ((J 29 5) - 1) = 0 := hxhq9
                  refine z_aload0 gi_156_36 ?_
                  refine z_getR (r := 51) gi_156_37 gk_50 (hRr _ rm_50_2 (by decide)) ?_
                  refine z_iload2 gi_156_40 ?_
                  refine z_iload3 gi_156_41 ?_
                  refine z_iast (e := J 59 ((J 29 5) - 1)) gi_156_42 gk_51 (by decide) (by omega) rfl ?_
                  refine z_goto gi_156_43 ?_
                  refine z_vret gi_156_95 gr_156 ?_
                  show zW _ _ _ _ _ _ _ _ _ _
                  refine z_aload0 gi_158_61 ?_
                  refine z_getI (v := (J 29 5) - 1) gi_158_62 gk_50 ((zU_n (by decide)).trans ((zU_x (by decide)).trans (zU_e))) ?_
                  refine z_iret gi_158_65 gr_158 ?_
                  refine ⟨?_, ?_⟩
                  · first | rfl | exact congrArg (fun v => some (zi v)) (by omega) | (exfalso; omega)
                  · have hs := (zK_u (a := 51) (x := J 58 ((J 29 5) - 1)) (v := J 59 ((J 29 5) - 1)) (zK_x (a := 50) (x := 9) (v := (J 50 9) + 1) (zK_x (a := 50) (x := 8) (v := (J 29 5) - 1) (zK_u (a := 9) (x := (J 30 ((J 29 5) - 1)) * 5 + (J 31 ((J 29 5) - 1))) (v := J 32 ((J 29 5) - 1)) (zK_x (a := 29) (x := 5) (v := (J 29 5) - 1) (zK_r (k := (kL [] [(29, 5), (50, 8), (50, 9)])) (A := J)) rfl)) rfl) rfl))
                    have ev : J 59 ((J 29 5) - 1) = J 32 ((J 29 5) - 1) := by omega
                    have hY2 := RelY_k hs (by repeat' constructor) (fun p => by repeat' constructor) (by rw [ev]; exact RelY_p (p := J 30 (J 29 5 - 1)) (w := 0) hY (by omega) (by omega) (zFit_c hfit (by omega)) (by omega) rfl (by omega))
                    have hs2 := (zK_x (a := 51) (x := J 58 ((J 29 5) - 1)) (v := J 59 ((J 29 5) - 1)) (zK_u (a := 50) (x := 9) (v := (J 50 9) + 1) (zK_u (a := 50) (x := 8) (v := (J 29 5) - 1) (zK_x (a := 9) (x := (J 30 ((J 29 5) - 1)) * 5 + (J 31 ((J 29 5) - 1))) (v := J 32 ((J 29 5) - 1)) (zK_u (a := 29) (x := 5) (v := (J 29 5) - 1) (zK_r (k := (kL [9, 51] [])) (A := J))) rfl))) rfl)
                    have hC2 := RelC_k hs2 (by repeat' constructor) (fun p => by repeat' constructor) (RelC_undo hC (by omega))
                    have hk := (zK_x (a := 51) (x := J 58 ((J 29 5) - 1)) (v := J 59 ((J 29 5) - 1)) (zK_x (a := 50) (x := 9) (v := (J 50 9) + 1) (zK_x (a := 50) (x := 8) (v := (J 29 5) - 1) (zK_x (a := 9) (x := (J 30 ((J 29 5) - 1)) * 5 + (J 31 ((J 29 5) - 1))) (v := J 32 ((J 29 5) - 1)) (zK_x (a := 29) (x := 5) (v := (J 29 5) - 1) (zK_r (k := (kL [9, 51] [(29, 5), (50, 8), (50, 9)])) (A := J)) rfl) rfl) rfl) rfl) rfl)
                    exact ⟨hR, hG, hY2, RelD_k hk (by repeat' constructor) (fun p => by repeat' constructor) hD, RelP_k hk (by repeat' constructor) (fun p => by repeat' constructor) hP, hC2, RelA_k hk (by repeat' constructor) (fun p => by repeat' constructor) hAc, RelS_k hk (zK_r (k := kM)) (fun x j a b => ⟨kL_38 (by decide) (by decide) x j a b, kM_38 x j a b⟩) (fun p => ⟨rfl, rfl, rfl⟩) rfl hS, RelT_k hk (by repeat' constructor) (fun p => by repeat' constructor) hTp, RelX_k hk (by repeat' constructor) (fun p => by repeat' constructor) hX, RelW_k hk ⟨rfl, rfl⟩ trivial hW⟩
                · have hxhq9 : J 57 ((J 29 5) - 1) = 1 := hxhq9
                  refine z_aload0 gi_156_46 ?_
                  refine z_getR (r := 52) gi_156_47 gk_50 (hRr _ rm_50_3 (by decide)) ?_
                  refine z_iload2 gi_156_50 ?_
                  refine z_iload3 gi_156_51 ?_
                  refine z_iast (e := J 59 ((J 29 5) - 1)) gi_156_52 gk_52 (by decide) (by omega) rfl ?_
                  refine z_goto gi_156_53 ?_
                  refine z_vret gi_156_95 gr_156 ?_
                  show zW _ _ _ _ _ _ _ _ _ _
                  refine z_aload0 gi_158_61 ?_
                  refine z_getI (v := (J 29 5) - 1) gi_158_62 gk_50 ((zU_n (by decide)).trans ((zU_x (by decide)).trans (zU_e))) ?_
                  refine z_iret gi_158_65 gr_158 ?_
                  refine ⟨?_, ?_⟩
                  · first | rfl | exact congrArg (fun v => some (zi v)) (by omega) | (exfalso; omega)
                  · have hs := (zK_u (a := 52) (x := J 58 ((J 29 5) - 1)) (v := J 59 ((J 29 5) - 1)) (zK_x (a := 50) (x := 9) (v := (J 50 9) + 1) (zK_x (a := 50) (x := 8) (v := (J 29 5) - 1) (zK_u (a := 9) (x := (J 30 ((J 29 5) - 1)) * 5 + (J 31 ((J 29 5) - 1))) (v := J 32 ((J 29 5) - 1)) (zK_x (a := 29) (x := 5) (v := (J 29 5) - 1) (zK_r (k := (kL [] [(29, 5), (50, 8), (50, 9)])) (A := J)) rfl)) rfl) rfl))
                    have ev : J 59 ((J 29 5) - 1) = J 32 ((J 29 5) - 1) := by omega
                    have hY2 := RelY_k hs (by repeat' constructor) (fun p => by repeat' constructor) (by rw [ev]; exact RelY_p (p := J 30 (J 29 5 - 1)) (w := 1) hY (by omega) (by omega) (zFit_c hfit (by omega)) (by omega) rfl (by omega))
                    have hs2 := (zK_x (a := 52) (x := J 58 ((J 29 5) - 1)) (v := J 59 ((J 29 5) - 1)) (zK_u (a := 50) (x := 9) (v := (J 50 9) + 1) (zK_u (a := 50) (x := 8) (v := (J 29 5) - 1) (zK_x (a := 9) (x := (J 30 ((J 29 5) - 1)) * 5 + (J 31 ((J 29 5) - 1))) (v := J 32 ((J 29 5) - 1)) (zK_u (a := 29) (x := 5) (v := (J 29 5) - 1) (zK_r (k := (kL [9, 52] [])) (A := J))) rfl))) rfl)
                    have hC2 := RelC_k hs2 (by repeat' constructor) (fun p => by repeat' constructor) (RelC_undo hC (by omega))
                    have hk := (zK_x (a := 52) (x := J 58 ((J 29 5) - 1)) (v := J 59 ((J 29 5) - 1)) (zK_x (a := 50) (x := 9) (v := (J 50 9) + 1) (zK_x (a := 50) (x := 8) (v := (J 29 5) - 1) (zK_x (a := 9) (x := (J 30 ((J 29 5) - 1)) * 5 + (J 31 ((J 29 5) - 1))) (v := J 32 ((J 29 5) - 1)) (zK_x (a := 29) (x := 5) (v := (J 29 5) - 1) (zK_r (k := (kL [9, 52] [(29, 5), (50, 8), (50, 9)])) (A := J)) rfl) rfl) rfl) rfl) rfl)
                    exact ⟨hR, hG, hY2, RelD_k hk (by repeat' constructor) (fun p => by repeat' constructor) hD, RelP_k hk (by repeat' constructor) (fun p => by repeat' constructor) hP, hC2, RelA_k hk (by repeat' constructor) (fun p => by repeat' constructor) hAc, RelS_k hk (zK_r (k := kM)) (fun x j a b => ⟨kL_38 (by decide) (by decide) x j a b, kM_38 x j a b⟩) (fun p => ⟨rfl, rfl, rfl⟩) rfl hS, RelT_k hk (by repeat' constructor) (fun p => by repeat' constructor) hTp, RelX_k hk (by repeat' constructor) (fun p => by repeat' constructor) hX, RelW_k hk ⟨rfl, rfl⟩ trivial hW⟩
                · have hxhq9 : J 57 ((J 29 5) - 1) = 2 := hxhq9
                  refine z_aload0 gi_156_56 ?_
                  refine z_getR (r := 53) gi_156_57 gk_50 (hRr _ rm_50_4 (by decide)) ?_
                  refine z_iload2 gi_156_60 ?_
                  refine z_iload3 gi_156_61 ?_
                  refine z_iast (e := J 59 ((J 29 5) - 1)) gi_156_62 gk_53 (by decide) (by omega) rfl ?_
                  refine z_goto gi_156_63 ?_
                  refine z_vret gi_156_95 gr_156 ?_
                  show zW _ _ _ _ _ _ _ _ _ _
                  refine z_aload0 gi_158_61 ?_
                  refine z_getI (v := (J 29 5) - 1) gi_158_62 gk_50 ((zU_n (by decide)).trans ((zU_x (by decide)).trans (zU_e))) ?_
                  refine z_iret gi_158_65 gr_158 ?_
                  refine ⟨?_, ?_⟩
                  · first | rfl | exact congrArg (fun v => some (zi v)) (by omega) | (exfalso; omega)
                  · have hs := (zK_u (a := 53) (x := J 58 ((J 29 5) - 1)) (v := J 59 ((J 29 5) - 1)) (zK_x (a := 50) (x := 9) (v := (J 50 9) + 1) (zK_x (a := 50) (x := 8) (v := (J 29 5) - 1) (zK_u (a := 9) (x := (J 30 ((J 29 5) - 1)) * 5 + (J 31 ((J 29 5) - 1))) (v := J 32 ((J 29 5) - 1)) (zK_x (a := 29) (x := 5) (v := (J 29 5) - 1) (zK_r (k := (kL [] [(29, 5), (50, 8), (50, 9)])) (A := J)) rfl)) rfl) rfl))
                    have ev : J 59 ((J 29 5) - 1) = J 32 ((J 29 5) - 1) := by omega
                    have hY2 := RelY_k hs (by repeat' constructor) (fun p => by repeat' constructor) (by rw [ev]; exact RelY_p (p := J 30 (J 29 5 - 1)) (w := 2) hY (by omega) (by omega) (zFit_c hfit (by omega)) (by omega) rfl (by omega))
                    have hs2 := (zK_x (a := 53) (x := J 58 ((J 29 5) - 1)) (v := J 59 ((J 29 5) - 1)) (zK_u (a := 50) (x := 9) (v := (J 50 9) + 1) (zK_u (a := 50) (x := 8) (v := (J 29 5) - 1) (zK_x (a := 9) (x := (J 30 ((J 29 5) - 1)) * 5 + (J 31 ((J 29 5) - 1))) (v := J 32 ((J 29 5) - 1)) (zK_u (a := 29) (x := 5) (v := (J 29 5) - 1) (zK_r (k := (kL [9, 53] [])) (A := J))) rfl))) rfl)
                    have hC2 := RelC_k hs2 (by repeat' constructor) (fun p => by repeat' constructor) (RelC_undo hC (by omega))
                    have hk := (zK_x (a := 53) (x := J 58 ((J 29 5) - 1)) (v := J 59 ((J 29 5) - 1)) (zK_x (a := 50) (x := 9) (v := (J 50 9) + 1) (zK_x (a := 50) (x := 8) (v := (J 29 5) - 1) (zK_x (a := 9) (x := (J 30 ((J 29 5) - 1)) * 5 + (J 31 ((J 29 5) - 1))) (v := J 32 ((J 29 5) - 1)) (zK_x (a := 29) (x := 5) (v := (J 29 5) - 1) (zK_r (k := (kL [9, 53] [(29, 5), (50, 8), (50, 9)])) (A := J)) rfl) rfl) rfl) rfl) rfl)
                    exact ⟨hR, hG, hY2, RelD_k hk (by repeat' constructor) (fun p => by repeat' constructor) hD, RelP_k hk (by repeat' constructor) (fun p => by repeat' constructor) hP, hC2, RelA_k hk (by repeat' constructor) (fun p => by repeat' constructor) hAc, RelS_k hk (zK_r (k := kM)) (fun x j a b => ⟨kL_38 (by decide) (by decide) x j a b, kM_38 x j a b⟩) (fun p => ⟨rfl, rfl, rfl⟩) rfl hS, RelT_k hk (by repeat' constructor) (fun p => by repeat' constructor) hTp, RelX_k hk (by repeat' constructor) (fun p => by repeat' constructor) hX, RelW_k hk ⟨rfl, rfl⟩ trivial hW⟩
                · have hxhq9 : J 57 ((J 29 5) - 1) = 3 := hxhq9
                  refine z_aload0 gi_156_66 ?_
                  refine z_getR (r := 54) gi_156_67 gk_50 (hRr _ rm_50_5 (by decide)) ?_
                  refine z_iload2 gi_156_70 ?_
                  refine z_iload3 gi_156_71 ?_
                  refine z_iast (e := J 59 ((J 29 5) - 1)) gi_156_72 gk_54 (by decide) (by omega) rfl ?_
                  refine z_goto gi_156_73 ?_
                  refine z_vret gi_156_95 gr_156 ?_
                  show zW _ _ _ _ _ _ _ _ _ _
                  refine z_aload0 gi_158_61 ?_
                  refine z_getI (v := (J 29 5) - 1) gi_158_62 gk_50 ((zU_n (by decide)).trans ((zU_x (by decide)).trans (zU_e))) ?_
                  refine z_iret gi_158_65 gr_158 ?_
                  refine ⟨?_, ?_⟩
                  · first | rfl | exact congrArg (fun v => some (zi v)) (by omega) | (exfalso; omega)
                  · have hs := (zK_u (a := 54) (x := J 58 ((J 29 5) - 1)) (v := J 59 ((J 29 5) - 1)) (zK_x (a := 50) (x := 9) (v := (J 50 9) + 1) (zK_x (a := 50) (x := 8) (v := (J 29 5) - 1) (zK_u (a := 9) (x := (J 30 ((J 29 5) - 1)) * 5 + (J 31 ((J 29 5) - 1))) (v := J 32 ((J 29 5) - 1)) (zK_x (a := 29) (x := 5) (v := (J 29 5) - 1) (zK_r (k := (kL [] [(29, 5), (50, 8), (50, 9)])) (A := J)) rfl)) rfl) rfl))
                    have ev : J 59 ((J 29 5) - 1) = J 32 ((J 29 5) - 1) := by omega
                    have hY2 := RelY_k hs (by repeat' constructor) (fun p => by repeat' constructor) (by rw [ev]; exact RelY_p (p := J 30 (J 29 5 - 1)) (w := 3) hY (by omega) (by omega) (zFit_c hfit (by omega)) (by omega) rfl (by omega))
                    have hs2 := (zK_x (a := 54) (x := J 58 ((J 29 5) - 1)) (v := J 59 ((J 29 5) - 1)) (zK_u (a := 50) (x := 9) (v := (J 50 9) + 1) (zK_u (a := 50) (x := 8) (v := (J 29 5) - 1) (zK_x (a := 9) (x := (J 30 ((J 29 5) - 1)) * 5 + (J 31 ((J 29 5) - 1))) (v := J 32 ((J 29 5) - 1)) (zK_u (a := 29) (x := 5) (v := (J 29 5) - 1) (zK_r (k := (kL [9, 54] [])) (A := J))) rfl))) rfl)
                    have hC2 := RelC_k hs2 (by repeat' constructor) (fun p => by repeat' constructor) (RelC_undo hC (by omega))
                    have hk := (zK_x (a := 54) (x := J 58 ((J 29 5) - 1)) (v := J 59 ((J 29 5) - 1)) (zK_x (a := 50) (x := 9) (v := (J 50 9) + 1) (zK_x (a := 50) (x := 8) (v := (J 29 5) - 1) (zK_x (a := 9) (x := (J 30 ((J 29 5) - 1)) * 5 + (J 31 ((J 29 5) - 1))) (v := J 32 ((J 29 5) - 1)) (zK_x (a := 29) (x := 5) (v := (J 29 5) - 1) (zK_r (k := (kL [9, 54] [(29, 5), (50, 8), (50, 9)])) (A := J)) rfl) rfl) rfl) rfl) rfl)
                    exact ⟨hR, hG, hY2, RelD_k hk (by repeat' constructor) (fun p => by repeat' constructor) hD, RelP_k hk (by repeat' constructor) (fun p => by repeat' constructor) hP, hC2, RelA_k hk (by repeat' constructor) (fun p => by repeat' constructor) hAc, RelS_k hk (zK_r (k := kM)) (fun x j a b => ⟨kL_38 (by decide) (by decide) x j a b, kM_38 x j a b⟩) (fun p => ⟨rfl, rfl, rfl⟩) rfl hS, RelT_k hk (by repeat' constructor) (fun p => by repeat' constructor) hTp, RelX_k hk (by repeat' constructor) (fun p => by repeat' constructor) hX, RelW_k hk ⟨rfl, rfl⟩ trivial hW⟩
                · have hxhq9 : J 57 ((J 29 5) - 1) = 4 := hxhq9
                  refine z_aload0 gi_156_76 ?_
                  refine z_getR (r := 55) gi_156_77 gk_50 (hRr _ rm_50_6 (by decide)) ?_
                  refine z_iload2 gi_156_80 ?_
                  refine z_iload3 gi_156_81 ?_
                  refine z_iast (e := J 59 ((J 29 5) - 1)) gi_156_82 gk_55 (by decide) (by omega) rfl ?_
                  refine z_goto gi_156_83 ?_
                  refine z_vret gi_156_95 gr_156 ?_
                  show zW _ _ _ _ _ _ _ _ _ _
                  refine z_aload0 gi_158_61 ?_
                  refine z_getI (v := (J 29 5) - 1) gi_158_62 gk_50 ((zU_n (by decide)).trans ((zU_x (by decide)).trans (zU_e))) ?_
                  refine z_iret gi_158_65 gr_158 ?_
                  refine ⟨?_, ?_⟩
                  · first | rfl | exact congrArg (fun v => some (zi v)) (by omega) | (exfalso; omega)
                  · have hs := (zK_u (a := 55) (x := J 58 ((J 29 5) - 1)) (v := J 59 ((J 29 5) - 1)) (zK_x (a := 50) (x := 9) (v := (J 50 9) + 1) (zK_x (a := 50) (x := 8) (v := (J 29 5) - 1) (zK_u (a := 9) (x := (J 30 ((J 29 5) - 1)) * 5 + (J 31 ((J 29 5) - 1))) (v := J 32 ((J 29 5) - 1)) (zK_x (a := 29) (x := 5) (v := (J 29 5) - 1) (zK_r (k := (kL [] [(29, 5), (50, 8), (50, 9)])) (A := J)) rfl)) rfl) rfl))
                    have ev : J 59 ((J 29 5) - 1) = J 32 ((J 29 5) - 1) := by omega
                    have hY2 := RelY_k hs (by repeat' constructor) (fun p => by repeat' constructor) (by rw [ev]; exact RelY_p (p := J 30 (J 29 5 - 1)) (w := 4) hY (by omega) (by omega) (zFit_c hfit (by omega)) (by omega) rfl (by omega))
                    have hs2 := (zK_x (a := 55) (x := J 58 ((J 29 5) - 1)) (v := J 59 ((J 29 5) - 1)) (zK_u (a := 50) (x := 9) (v := (J 50 9) + 1) (zK_u (a := 50) (x := 8) (v := (J 29 5) - 1) (zK_x (a := 9) (x := (J 30 ((J 29 5) - 1)) * 5 + (J 31 ((J 29 5) - 1))) (v := J 32 ((J 29 5) - 1)) (zK_u (a := 29) (x := 5) (v := (J 29 5) - 1) (zK_r (k := (kL [9, 55] [])) (A := J))) rfl))) rfl)
                    have hC2 := RelC_k hs2 (by repeat' constructor) (fun p => by repeat' constructor) (RelC_undo hC (by omega))
                    have hk := (zK_x (a := 55) (x := J 58 ((J 29 5) - 1)) (v := J 59 ((J 29 5) - 1)) (zK_x (a := 50) (x := 9) (v := (J 50 9) + 1) (zK_x (a := 50) (x := 8) (v := (J 29 5) - 1) (zK_x (a := 9) (x := (J 30 ((J 29 5) - 1)) * 5 + (J 31 ((J 29 5) - 1))) (v := J 32 ((J 29 5) - 1)) (zK_x (a := 29) (x := 5) (v := (J 29 5) - 1) (zK_r (k := (kL [9, 55] [(29, 5), (50, 8), (50, 9)])) (A := J)) rfl) rfl) rfl) rfl) rfl)
                    exact ⟨hR, hG, hY2, RelD_k hk (by repeat' constructor) (fun p => by repeat' constructor) hD, RelP_k hk (by repeat' constructor) (fun p => by repeat' constructor) hP, hC2, RelA_k hk (by repeat' constructor) (fun p => by repeat' constructor) hAc, RelS_k hk (zK_r (k := kM)) (fun x j a b => ⟨kL_38 (by decide) (by decide) x j a b, kM_38 x j a b⟩) (fun p => ⟨rfl, rfl, rfl⟩) rfl hS, RelT_k hk (by repeat' constructor) (fun p => by repeat' constructor) hTp, RelX_k hk (by repeat' constructor) (fun p => by repeat' constructor) hX, RelW_k hk ⟨rfl, rfl⟩ trivial hW⟩
              · have hq9 : ∀ q ∈ [((0 : Int), 36), ((1 : Int), 46), ((2 : Int), 56), ((3 : Int), 66), ((4 : Int), 76)], ¬ J 57 ((J 29 5) - 1) = q.1 := hq9
                have hq9_0 : ¬ J 57 ((J 29 5) - 1) = 0 := hq9 (0, 36) (by simp)
                have hq9_1 : ¬ J 57 ((J 29 5) - 1) = 1 := hq9 (1, 46) (by simp)
                have hq9_2 : ¬ J 57 ((J 29 5) - 1) = 2 := hq9 (2, 56) (by simp)
                have hq9_3 : ¬ J 57 ((J 29 5) - 1) = 3 := hq9 (3, 66) (by simp)
                have hq9_4 : ¬ J 57 ((J 29 5) - 1) = 4 := hq9 (4, 76) (by simp)
                refine z_aload0 gi_156_86 ?_
                refine z_getR (r := 56) gi_156_87 gk_50 (hRr _ rm_50_7 (by decide)) ?_
                refine z_iload1 gi_156_90 ?_
                refine z_pushJ gp_156_91 ?_
                refine z_isub (e := (J 57 ((J 29 5) - 1)) - 5) gi_156_92 rfl ?_
                refine z_iload3 gi_156_93 ?_
                refine z_iast (e := J 59 ((J 29 5) - 1)) gi_156_94 gk_56 (by decide) (by omega) rfl ?_
                refine z_vret gi_156_95 gr_156 ?_
                show zW _ _ _ _ _ _ _ _ _ _
                refine z_aload0 gi_158_61 ?_
                refine z_getI (v := (J 29 5) - 1) gi_158_62 gk_50 ((zU_n (by decide)).trans ((zU_x (by decide)).trans (zU_e))) ?_
                refine z_iret gi_158_65 gr_158 ?_
                refine ⟨?_, ?_⟩
                · first | rfl | exact congrArg (fun v => some (zi v)) (by omega) | (exfalso; omega)
                · have hs := (zK_u (a := 56) (x := (J 57 ((J 29 5) - 1)) - 5) (v := J 59 ((J 29 5) - 1)) (zK_x (a := 50) (x := 9) (v := (J 50 9) + 1) (zK_x (a := 50) (x := 8) (v := (J 29 5) - 1) (zK_u (a := 9) (x := (J 30 ((J 29 5) - 1)) * 5 + (J 31 ((J 29 5) - 1))) (v := J 32 ((J 29 5) - 1)) (zK_x (a := 29) (x := 5) (v := (J 29 5) - 1) (zK_r (k := (kL [] [(29, 5), (50, 8), (50, 9)])) (A := J)) rfl)) rfl) rfl))
                  have ev : J 59 ((J 29 5) - 1) = J 32 ((J 29 5) - 1) := by omega
                  have hY2 := RelY_k hs (by repeat' constructor) (fun p => by repeat' constructor) (by rw [ev]; exact RelY_g (w := J 31 (J 29 5 - 1)) hY (by omega) hfit (by omega) (by omega))
                  have hs2 := (zK_x (a := 56) (x := (J 57 ((J 29 5) - 1)) - 5) (v := J 59 ((J 29 5) - 1)) (zK_u (a := 50) (x := 9) (v := (J 50 9) + 1) (zK_u (a := 50) (x := 8) (v := (J 29 5) - 1) (zK_x (a := 9) (x := (J 30 ((J 29 5) - 1)) * 5 + (J 31 ((J 29 5) - 1))) (v := J 32 ((J 29 5) - 1)) (zK_u (a := 29) (x := 5) (v := (J 29 5) - 1) (zK_r (k := (kL [9, 56] [])) (A := J))) rfl))) rfl)
                  have hC2 := RelC_k hs2 (by repeat' constructor) (fun p => by repeat' constructor) (RelC_undo hC (by omega))
                  have hk := (zK_x (a := 56) (x := (J 57 ((J 29 5) - 1)) - 5) (v := J 59 ((J 29 5) - 1)) (zK_x (a := 50) (x := 9) (v := (J 50 9) + 1) (zK_x (a := 50) (x := 8) (v := (J 29 5) - 1) (zK_x (a := 9) (x := (J 30 ((J 29 5) - 1)) * 5 + (J 31 ((J 29 5) - 1))) (v := J 32 ((J 29 5) - 1)) (zK_x (a := 29) (x := 5) (v := (J 29 5) - 1) (zK_r (k := (kL [9, 56] [(29, 5), (50, 8), (50, 9)])) (A := J)) rfl) rfl) rfl) rfl) rfl)
                  exact ⟨hR, hG, hY2, RelD_k hk (by repeat' constructor) (fun p => by repeat' constructor) hD, RelP_k hk (by repeat' constructor) (fun p => by repeat' constructor) hP, hC2, RelA_k hk (by repeat' constructor) (fun p => by repeat' constructor) hAc, RelS_k hk (zK_r (k := kM)) (fun x j a b => ⟨kL_38 (by decide) (by decide) x j a b, kM_38 x j a b⟩) (fun p => ⟨rfl, rfl, rfl⟩) rfl hS, RelT_k hk (by repeat' constructor) (fun p => by repeat' constructor) hTp, RelX_k hk (by repeat' constructor) (fun p => by repeat' constructor) hX, RelW_k hk ⟨rfl, rfl⟩ trivial hW⟩
    · refine z_pushJ gp_89_10 ?_
      refine z_iret gi_89_11 gr_89 ?_
      show zW _ _ _ _ _ _ _ _ _ _
      refine z_istore (ls1 := [some (.ref 8), some (zi (J 30 ((J 29 5) - 1))), some (zi (J 31 ((J 29 5) - 1))), some (zi (J 32 ((J 29 5) - 1))), some (zi (-1))]) gi_91_6 rfl ?_
      refine z_iload4 gi_91_8 ?_
      refine z_if_ltT gi_91_10 zrn_1 (by decide) ?_
      refine z_vret gi_91_21 gr_91 ?_
      show zW _ _ _ _ _ _ _ _ _ _
      refine z_pushJ gp_16_53 ?_
      refine z_bret1 gi_16_54 gr_16 ?_
      show zW _ _ _ _ _ _ _ _ _ _
      refine z_if_eqF gi_131_7 zr_1 (by decide) ?_
      refine z_aload0 gi_131_10 ?_
      refine z_getR (r := 29) gi_131_11 gk_0 (hR _ rm_0_9) ?_
      refine z_getI (v := (J 29 5) - 1) gi_131_14 gk_29 (zU_e) ?_
      refine z_goto gi_131_17 ?_
      refine z_iret gi_131_22 gr_131 ?_
      refine ⟨_, rfl, ?_⟩
      show zW _ _ _ _ [some (.ref 50)] _ _ _ _ _
      refine z_aload0 gi_158_0 ?_
      refine z_getI (v := J 29 5) gi_158_1 gk_50 ((zU_n (by decide)).trans (c1.symm)) ?_
      refine z_if_neT gi_158_4 (by omega) (by omega) ?_
      refine z_aload0 gi_158_10 ?_
      refine z_dup gi_158_11 rfl ?_
      refine z_getI (v := J 29 5) gi_158_12 gk_50 ((zU_n (by decide)).trans (c1.symm)) ?_
      refine z_pushJ gp_158_15 ?_
      refine z_isub (e := (J 29 5) - 1) gi_158_16 rfl ?_
      refine z_putI (y := 8) gi_158_17 rfl gk_50 ?_
      refine z_aload0 gi_158_20 ?_
      refine z_dup gi_158_21 rfl ?_
      refine z_getI (v := J 50 9) gi_158_22 gk_50 ((zU_x (by decide)).trans ((zU_n (by decide)).trans (rfl))) ?_
      refine z_pushJ gp_158_25 ?_
      refine z_iadd (e := (J 50 9) + 1) gi_158_26 rfl ?_
      refine z_putI (y := 9) gi_158_27 rfl gk_50 ?_
      refine z_aload0 gi_158_30 ?_
      refine z_aload0 gi_158_31 ?_
      refine z_getR (r := 57) gi_158_32 gk_50 (hRr _ rm_50_10 (by decide)) ?_
      refine z_aload0 gi_158_35 ?_
      refine z_getI (v := (J 29 5) - 1) gi_158_36 gk_50 ((zU_x (by decide)).trans (zU_e)) ?_
      refine z_iald (v := J 57 ((J 29 5) - 1)) gi_158_39 gk_57 (by decide) (by omega) ((zU_n (by decide)).trans ((zU_n (by decide)).trans ((zU_n (by decide)).trans (rfl)))) ?_
      refine z_aload0 gi_158_40 ?_
      refine z_getR (r := 58) gi_158_41 gk_50 (hRr _ rm_50_11 (by decide)) ?_
      refine z_aload0 gi_158_44 ?_
      refine z_getI (v := (J 29 5) - 1) gi_158_45 gk_50 ((zU_x (by decide)).trans (zU_e)) ?_
      refine z_iald (v := J 58 ((J 29 5) - 1)) gi_158_48 gk_58 (by decide) (by omega) ((zU_n (by decide)).trans ((zU_n (by decide)).trans ((zU_n (by decide)).trans (rfl)))) ?_
      refine z_aload0 gi_158_49 ?_
      refine z_getR (r := 59) gi_158_50 gk_50 (hRr _ rm_50_12 (by decide)) ?_
      refine z_aload0 gi_158_53 ?_
      refine z_getI (v := (J 29 5) - 1) gi_158_54 gk_50 ((zU_x (by decide)).trans (zU_e)) ?_
      refine z_iald (v := J 59 ((J 29 5) - 1)) gi_158_57 gk_59 (by decide) (by omega) ((zU_n (by decide)).trans ((zU_n (by decide)).trans ((zU_n (by decide)).trans (rfl)))) ?_
      refine z_cV3 gi_158_58 gk_50 go_156 (Nat.le_of_ble_eq_true rfl) gc_156_RIII ?_
      refine z_iload1 gi_156_0 ?_
      refine z_sw (T := [((0 : Int), 36), ((1 : Int), 46), ((2 : Int), 56), ((3 : Int), 66), ((4 : Int), 76)]) gi_156_1 (by omega) rfl (fun q hq9 hxhq9 => ?_) (fun hq9 => ?_)
      · simp only [List.mem_cons, List.not_mem_nil, or_false] at hq9
        rcases hq9 with rfl | rfl | rfl | rfl | rfl
        · have hxhq9 : J 57 ((J 29 5) - 1) = 0 := hxhq9
          refine z_aload0 gi_156_36 ?_
          refine z_getR (r := 51) gi_156_37 gk_50 (hRr _ rm_50_2 (by decide)) ?_
          refine z_iload2 gi_156_40 ?_
          refine z_iload3 gi_156_41 ?_
          refine z_iast (e := J 59 ((J 29 5) - 1)) gi_156_42 gk_51 (by decide) (by omega) rfl ?_
          refine z_goto gi_156_43 ?_
          refine z_vret gi_156_95 gr_156 ?_
          show zW _ _ _ _ _ _ _ _ _ _
          refine z_aload0 gi_158_61 ?_
          refine z_getI (v := (J 29 5) - 1) gi_158_62 gk_50 ((zU_n (by decide)).trans ((zU_x (by decide)).trans (zU_e))) ?_
          refine z_iret gi_158_65 gr_158 ?_
          refine ⟨?_, ?_⟩
          · first | rfl | exact congrArg (fun v => some (zi v)) (by omega) | (exfalso; omega)
          · exfalso
            omega
        · have hxhq9 : J 57 ((J 29 5) - 1) = 1 := hxhq9
          refine z_aload0 gi_156_46 ?_
          refine z_getR (r := 52) gi_156_47 gk_50 (hRr _ rm_50_3 (by decide)) ?_
          refine z_iload2 gi_156_50 ?_
          refine z_iload3 gi_156_51 ?_
          refine z_iast (e := J 59 ((J 29 5) - 1)) gi_156_52 gk_52 (by decide) (by omega) rfl ?_
          refine z_goto gi_156_53 ?_
          refine z_vret gi_156_95 gr_156 ?_
          show zW _ _ _ _ _ _ _ _ _ _
          refine z_aload0 gi_158_61 ?_
          refine z_getI (v := (J 29 5) - 1) gi_158_62 gk_50 ((zU_n (by decide)).trans ((zU_x (by decide)).trans (zU_e))) ?_
          refine z_iret gi_158_65 gr_158 ?_
          refine ⟨?_, ?_⟩
          · first | rfl | exact congrArg (fun v => some (zi v)) (by omega) | (exfalso; omega)
          · exfalso
            omega
        · have hxhq9 : J 57 ((J 29 5) - 1) = 2 := hxhq9
          refine z_aload0 gi_156_56 ?_
          refine z_getR (r := 53) gi_156_57 gk_50 (hRr _ rm_50_4 (by decide)) ?_
          refine z_iload2 gi_156_60 ?_
          refine z_iload3 gi_156_61 ?_
          refine z_iast (e := J 59 ((J 29 5) - 1)) gi_156_62 gk_53 (by decide) (by omega) rfl ?_
          refine z_goto gi_156_63 ?_
          refine z_vret gi_156_95 gr_156 ?_
          show zW _ _ _ _ _ _ _ _ _ _
          refine z_aload0 gi_158_61 ?_
          refine z_getI (v := (J 29 5) - 1) gi_158_62 gk_50 ((zU_n (by decide)).trans ((zU_x (by decide)).trans (zU_e))) ?_
          refine z_iret gi_158_65 gr_158 ?_
          refine ⟨?_, ?_⟩
          · first | rfl | exact congrArg (fun v => some (zi v)) (by omega) | (exfalso; omega)
          · exfalso
            omega
        · have hxhq9 : J 57 ((J 29 5) - 1) = 3 := hxhq9
          refine z_aload0 gi_156_66 ?_
          refine z_getR (r := 54) gi_156_67 gk_50 (hRr _ rm_50_5 (by decide)) ?_
          refine z_iload2 gi_156_70 ?_
          refine z_iload3 gi_156_71 ?_
          refine z_iast (e := J 59 ((J 29 5) - 1)) gi_156_72 gk_54 (by decide) (by omega) rfl ?_
          refine z_goto gi_156_73 ?_
          refine z_vret gi_156_95 gr_156 ?_
          show zW _ _ _ _ _ _ _ _ _ _
          refine z_aload0 gi_158_61 ?_
          refine z_getI (v := (J 29 5) - 1) gi_158_62 gk_50 ((zU_n (by decide)).trans ((zU_x (by decide)).trans (zU_e))) ?_
          refine z_iret gi_158_65 gr_158 ?_
          refine ⟨?_, ?_⟩
          · first | rfl | exact congrArg (fun v => some (zi v)) (by omega) | (exfalso; omega)
          · exfalso
            omega
        · have hxhq9 : J 57 ((J 29 5) - 1) = 4 := hxhq9
          refine z_aload0 gi_156_76 ?_
          refine z_getR (r := 55) gi_156_77 gk_50 (hRr _ rm_50_6 (by decide)) ?_
          refine z_iload2 gi_156_80 ?_
          refine z_iload3 gi_156_81 ?_
          refine z_iast (e := J 59 ((J 29 5) - 1)) gi_156_82 gk_55 (by decide) (by omega) rfl ?_
          refine z_goto gi_156_83 ?_
          refine z_vret gi_156_95 gr_156 ?_
          show zW _ _ _ _ _ _ _ _ _ _
          refine z_aload0 gi_158_61 ?_
          refine z_getI (v := (J 29 5) - 1) gi_158_62 gk_50 ((zU_n (by decide)).trans ((zU_x (by decide)).trans (zU_e))) ?_
          refine z_iret gi_158_65 gr_158 ?_
          refine ⟨?_, ?_⟩
          · first | rfl | exact congrArg (fun v => some (zi v)) (by omega) | (exfalso; omega)
          · exfalso
            omega
      · have hq9 : ∀ q ∈ [((0 : Int), 36), ((1 : Int), 46), ((2 : Int), 56), ((3 : Int), 66), ((4 : Int), 76)], ¬ J 57 ((J 29 5) - 1) = q.1 := hq9
        have hq9_0 : ¬ J 57 ((J 29 5) - 1) = 0 := hq9 (0, 36) (by simp)
        have hq9_1 : ¬ J 57 ((J 29 5) - 1) = 1 := hq9 (1, 46) (by simp)
        have hq9_2 : ¬ J 57 ((J 29 5) - 1) = 2 := hq9 (2, 56) (by simp)
        have hq9_3 : ¬ J 57 ((J 29 5) - 1) = 3 := hq9 (3, 66) (by simp)
        have hq9_4 : ¬ J 57 ((J 29 5) - 1) = 4 := hq9 (4, 76) (by simp)
        refine z_aload0 gi_156_86 ?_
        refine z_getR (r := 56) gi_156_87 gk_50 (hRr _ rm_50_7 (by decide)) ?_
        refine z_iload1 gi_156_90 ?_
        refine z_pushJ gp_156_91 ?_
        refine z_isub (e := (J 57 ((J 29 5) - 1)) - 5) gi_156_92 rfl ?_
        refine z_iload3 gi_156_93 ?_
        refine z_iast (e := J 59 ((J 29 5) - 1)) gi_156_94 gk_56 (by decide) (by omega) rfl ?_
        refine z_vret gi_156_95 gr_156 ?_
        show zW _ _ _ _ _ _ _ _ _ _
        refine z_aload0 gi_158_61 ?_
        refine z_getI (v := (J 29 5) - 1) gi_158_62 gk_50 ((zU_n (by decide)).trans ((zU_x (by decide)).trans (zU_e))) ?_
        refine z_iret gi_158_65 gr_158 ?_
        refine ⟨?_, ?_⟩
        · first | rfl | exact congrArg (fun v => some (zi v)) (by omega) | (exfalso; omega)
        · exfalso
          omega
theorem st_undo {X : Nat × (Nat → Int32)} {d : Nat} {J M : zA} {R : zR} (hr : Rel X J M R) : zW X (d + 20) 131 0 (gEn 131 [.ref 0]) [] J M R (stP X (d + 20) 158 []) := by
  by_cases h0 : J 29 5 ≤ 0
  · exact st_undo_0 hr h0
  · exact st_undo_1 hr h0
theorem st_redo_0 {X : Nat × (Nat → Int32)} {d : Nat} {J M : zA} {R : zR} (hr : Rel X J M R)  (h0 : J 29 6 ≤ J 29 5) : zW X (d + 20) 132 0 (gEn 132 [(.ref 0)]) [] J M R (stP X (d + 20) 159 []) := by
  have hr0 := hr
  obtain ⟨hR, hG, hY, hD, hP, hC, hAc, hS, hTp, hX, hW⟩ := hr0
  have hRr : zRoR R := zRoR_of hR
  have hY0 := hY
  obtain ⟨y1, y2, y3⟩ := hY0
  have yn := zNn y3
  have hC0 := hC
  obtain ⟨c1, c2, c3, c4, c5, c6⟩ := hC0
  show zW _ _ _ _ [some (.ref 0)] _ _ _ _ _
  refine z_aload0 gi_132_0 ?_
  refine z_getR (r := 29) gi_132_1 gk_0 (hR _ rm_0_9) ?_
  refine z_cV0 gi_132_4 gk_29 go_17 (Nat.le_of_ble_eq_true rfl) gc_17_R ?_
  refine z_aload0 gi_17_0 ?_
  refine z_getI (v := J 29 5) gi_17_1 gk_29 (rfl) ?_
  refine z_aload0 gi_17_4 ?_
  refine z_getI (v := J 29 6) gi_17_5 gk_29 (rfl) ?_
  refine z_icmp_ltF gi_17_8 (by omega) (by omega) (by omega) ?_
  refine z_pushJ gp_17_11 ?_
  refine z_bret0 rfl gr_17 ?_
  show zW _ _ _ _ _ _ _ _ _ _
  refine z_if_eqT gi_132_7 zr_0 (by decide) ?_
  refine z_pushJ gp_132_28 ?_
  refine z_iret gi_132_30 gr_132 ?_
  refine ⟨_, rfl, ?_⟩
  show zW _ _ _ _ [some (.ref 50)] _ _ _ _ _
  refine z_aload0 gi_159_0 ?_
  refine z_getI (v := J 50 9) gi_159_1 gk_50 (rfl) ?_
  refine z_if_neF gi_159_4 (by omega) (by omega) ?_
  refine z_pushJ gp_159_7 ?_
  refine z_iret rfl gr_159 ?_
  refine ⟨?_, ?_⟩
  · first | rfl | exact congrArg (fun v => some (zi v)) (by omega) | (exfalso; omega)
  · exact hr
theorem st_redo_1 {X : Nat × (Nat → Int32)} {d : Nat} {J M : zA} {R : zR} (hr : Rel X J M R)  (h0 : ¬ J 29 6 ≤ J 29 5) : zW X (d + 20) 132 0 (gEn 132 [(.ref 0)]) [] J M R (stP X (d + 20) 159 []) := by
  have hr0 := hr
  obtain ⟨hR, hG, hY, hD, hP, hC, hAc, hS, hTp, hX, hW⟩ := hr0
  have hRr : zRoR R := zRoR_of hR
  have hY0 := hY
  obtain ⟨y1, y2, y3⟩ := hY0
  have yn := zNn y3
  have hC0 := hC
  obtain ⟨c1, c2, c3, c4, c5, c6⟩ := hC0
  have ci := RelC_i hC (i := J 29 5) (by omega) (by omega)
  obtain ⟨⟨ci1, ci2, ci3, ci4⟩, ci5, ci6, ci7⟩ := ci
  have hfit : zFit (J 31 (J 29 5)) (J 33 (J 29 5)) := ci7
  have rv := zFit_r (w := J 31 (J 29 5)) (by omega) hfit
  show zW _ _ _ _ [some (.ref 0)] _ _ _ _ _
  refine z_aload0 gi_132_0 ?_
  refine z_getR (r := 29) gi_132_1 gk_0 (hR _ rm_0_9) ?_
  refine z_cV0 gi_132_4 gk_29 go_17 (Nat.le_of_ble_eq_true rfl) gc_17_R ?_
  refine z_aload0 gi_17_0 ?_
  refine z_getI (v := J 29 5) gi_17_1 gk_29 (rfl) ?_
  refine z_aload0 gi_17_4 ?_
  refine z_getI (v := J 29 6) gi_17_5 gk_29 (rfl) ?_
  refine z_icmp_ltT gi_17_8 (by omega) (by omega) (by omega) ?_
  refine z_aload0 rfl ?_
  refine z_getR (r := 8) rfl gk_29 (hR _ rm_29_0) ?_
  refine z_aload0 rfl ?_
  refine z_getR (r := 30) rfl gk_29 (hR _ rm_29_1) ?_
  refine z_aload0 rfl ?_
  refine z_getI (v := J 29 5) rfl gk_29 (rfl) ?_
  refine z_iald (v := J 30 (J 29 5)) rfl gk_30 (by decide) (by omega) (rfl) ?_
  refine z_aload0 rfl ?_
  refine z_getR (r := 31) rfl gk_29 (hR _ rm_29_2) ?_
  refine z_aload0 rfl ?_
  refine z_getI (v := J 29 5) rfl gk_29 (rfl) ?_
  refine z_iald (v := J 31 (J 29 5)) rfl gk_31 (by decide) (by omega) (rfl) ?_
  refine z_aload0 rfl ?_
  refine z_getR (r := 33) rfl gk_29 (hR _ rm_29_4) ?_
  refine z_aload0 rfl ?_
  refine z_getI (v := J 29 5) rfl gk_29 (rfl) ?_
  refine z_iald (v := J 33 (J 29 5)) rfl gk_33 (by decide) (by omega) (rfl) ?_
  refine z_callVi (As := [_, _, _]) (le := [some _, some _, some _, some _, none]) rfl rfl gk_8 (Nat.le_of_ble_eq_true rfl) (Nat.le_of_ble_eq_true rfl) rfl ?_
  refine z_aload0 gi_91_0 ?_
  refine z_iload1 gi_91_1 ?_
  refine z_iload2 gi_91_2 ?_
  refine z_cV2 gi_91_3 gk_8 go_89 (Nat.le_of_ble_eq_true rfl) gc_89_RII ?_
  refine z_iload2 gi_89_0 ?_
  refine z_if_lt gi_89_1 (by omega) (fun h1 => ?_) (fun h1 => ?_)
  · refine z_pushJ gp_89_10 ?_
    refine z_iret gi_89_11 gr_89 ?_
    show zW _ _ _ _ _ _ _ _ _ _
    refine z_istore (ls1 := [some (.ref 8), some (zi (J 30 (J 29 5))), some (zi (J 31 (J 29 5))), some (zi (J 33 (J 29 5))), some (zi (-1))]) gi_91_6 rfl ?_
    refine z_iload4 gi_91_8 ?_
    refine z_if_ltT gi_91_10 zrn_1 (by decide) ?_
    refine z_vret gi_91_21 gr_91 ?_
    show zW _ _ _ _ _ _ _ _ _ _
    refine z_aload0 gi_17_47 ?_
    refine z_dup gi_17_48 rfl ?_
    refine z_getI (v := J 29 5) gi_17_49 gk_29 (rfl) ?_
    refine z_pushJ gp_17_52 ?_
    refine z_iadd (e := (J 29 5) + 1) gi_17_53 rfl ?_
    refine z_putI (y := 5) gi_17_54 rfl gk_29 ?_
    refine z_pushJ gp_17_57 ?_
    refine z_bret1 gi_17_58 gr_17 ?_
    show zW _ _ _ _ _ _ _ _ _ _
    refine z_if_eqF gi_132_7 zr_1 (by decide) ?_
    refine z_aload0 gi_132_10 ?_
    refine z_getR (r := 29) gi_132_11 gk_0 (hR _ rm_0_9) ?_
    refine z_getI (v := J 29 6) gi_132_14 gk_29 ((zU_x (by decide)).trans (rfl)) ?_
    refine z_aload0 gi_132_17 ?_
    refine z_getR (r := 29) gi_132_18 gk_0 (hR _ rm_0_9) ?_
    refine z_getI (v := (J 29 5) + 1) gi_132_21 gk_29 (zU_e) ?_
    refine z_isub (e := (J 29 6) - ((J 29 5) + 1)) gi_132_24 rfl ?_
    refine z_goto gi_132_25 ?_
    refine z_iret gi_132_30 gr_132 ?_
    refine ⟨_, rfl, ?_⟩
    show zW _ _ _ _ [some (.ref 50)] _ _ _ _ _
    refine z_aload0 gi_159_0 ?_
    refine z_getI (v := J 50 9) gi_159_1 gk_50 ((zU_n (by decide)).trans (rfl)) ?_
    refine z_if_neT gi_159_4 (by omega) (by omega) ?_
    refine z_aload0 gi_159_10 ?_
    refine z_aload0 gi_159_11 ?_
    refine z_getR (r := 57) gi_159_12 gk_50 (hRr _ rm_50_10 (by decide)) ?_
    refine z_aload0 gi_159_15 ?_
    refine z_getI (v := J 29 5) gi_159_16 gk_50 ((zU_n (by decide)).trans (c1.symm)) ?_
    refine z_iald (v := J 57 (J 29 5)) gi_159_19 gk_57 (by decide) (by omega) ((zU_n (by decide)).trans (rfl)) ?_
    refine z_aload0 gi_159_20 ?_
    refine z_getR (r := 58) gi_159_21 gk_50 (hRr _ rm_50_11 (by decide)) ?_
    refine z_aload0 gi_159_24 ?_
    refine z_getI (v := J 29 5) gi_159_25 gk_50 ((zU_n (by decide)).trans (c1.symm)) ?_
    refine z_iald (v := J 58 (J 29 5)) gi_159_28 gk_58 (by decide) (by omega) ((zU_n (by decide)).trans (rfl)) ?_
    refine z_aload0 gi_159_29 ?_
    refine z_getR (r := 60) gi_159_30 gk_50 (hRr _ rm_50_13 (by decide)) ?_
    refine z_aload0 gi_159_33 ?_
    refine z_getI (v := J 29 5) gi_159_34 gk_50 ((zU_n (by decide)).trans (c1.symm)) ?_
    refine z_iald (v := J 60 (J 29 5)) gi_159_37 gk_60 (by decide) (by omega) ((zU_n (by decide)).trans (rfl)) ?_
    refine z_cV3 gi_159_38 gk_50 go_156 (Nat.le_of_ble_eq_true rfl) gc_156_RIII ?_
    refine z_iload1 gi_156_0 ?_
    refine z_sw (T := [((0 : Int), 36), ((1 : Int), 46), ((2 : Int), 56), ((3 : Int), 66), ((4 : Int), 76)]) gi_156_1 (by omega) rfl (fun q hq2 hxhq2 => ?_) (fun hq2 => ?_)
    · simp only [List.mem_cons, List.not_mem_nil, or_false] at hq2
      rcases hq2 with rfl | rfl | rfl | rfl | rfl
      · have hxhq2 : J 57 (J 29 5) = 0 := hxhq2
        refine z_aload0 gi_156_36 ?_
        refine z_getR (r := 51) gi_156_37 gk_50 (hRr _ rm_50_2 (by decide)) ?_
        refine z_iload2 gi_156_40 ?_
        refine z_iload3 gi_156_41 ?_
        refine z_iast (e := J 60 (J 29 5)) gi_156_42 gk_51 (by decide) (by omega) rfl ?_
        refine z_goto gi_156_43 ?_
        refine z_vret gi_156_95 gr_156 ?_
        show zW _ _ _ _ _ _ _ _ _ _
        refine z_aload0 gi_159_41 ?_
        refine z_dup gi_159_42 rfl ?_
        refine z_getI (v := J 29 5) gi_159_43 gk_50 ((zU_n (by decide)).trans ((zU_n (by decide)).trans (c1.symm))) ?_
        refine z_pushJ gp_159_46 ?_
        refine z_iadd (e := (J 29 5) + 1) gi_159_47 rfl ?_
        refine z_putI (y := 8) gi_159_48 rfl gk_50 ?_
        refine z_aload0 gi_159_51 ?_
        refine z_dup gi_159_52 rfl ?_
        refine z_getI (v := J 50 9) gi_159_53 gk_50 ((zU_x (by decide)).trans ((zU_n (by decide)).trans ((zU_n (by decide)).trans (rfl)))) ?_
        refine z_pushJ gp_159_56 ?_
        refine z_isub (e := (J 50 9) - 1) gi_159_57 rfl ?_
        refine z_putI (y := 9) gi_159_58 rfl gk_50 ?_
        refine z_aload0 gi_159_61 ?_
        refine z_getI (v := (J 50 9) - 1) gi_159_62 gk_50 (zU_e) ?_
        refine z_iret gi_159_65 gr_159 ?_
        refine ⟨?_, ?_⟩
        · first | rfl | exact congrArg (fun v => some (zi v)) (by omega) | (exfalso; omega)
        · exfalso
          omega
      · have hxhq2 : J 57 (J 29 5) = 1 := hxhq2
        refine z_aload0 gi_156_46 ?_
        refine z_getR (r := 52) gi_156_47 gk_50 (hRr _ rm_50_3 (by decide)) ?_
        refine z_iload2 gi_156_50 ?_
        refine z_iload3 gi_156_51 ?_
        refine z_iast (e := J 60 (J 29 5)) gi_156_52 gk_52 (by decide) (by omega) rfl ?_
        refine z_goto gi_156_53 ?_
        refine z_vret gi_156_95 gr_156 ?_
        show zW _ _ _ _ _ _ _ _ _ _
        refine z_aload0 gi_159_41 ?_
        refine z_dup gi_159_42 rfl ?_
        refine z_getI (v := J 29 5) gi_159_43 gk_50 ((zU_n (by decide)).trans ((zU_n (by decide)).trans (c1.symm))) ?_
        refine z_pushJ gp_159_46 ?_
        refine z_iadd (e := (J 29 5) + 1) gi_159_47 rfl ?_
        refine z_putI (y := 8) gi_159_48 rfl gk_50 ?_
        refine z_aload0 gi_159_51 ?_
        refine z_dup gi_159_52 rfl ?_
        refine z_getI (v := J 50 9) gi_159_53 gk_50 ((zU_x (by decide)).trans ((zU_n (by decide)).trans ((zU_n (by decide)).trans (rfl)))) ?_
        refine z_pushJ gp_159_56 ?_
        refine z_isub (e := (J 50 9) - 1) gi_159_57 rfl ?_
        refine z_putI (y := 9) gi_159_58 rfl gk_50 ?_
        refine z_aload0 gi_159_61 ?_
        refine z_getI (v := (J 50 9) - 1) gi_159_62 gk_50 (zU_e) ?_
        refine z_iret gi_159_65 gr_159 ?_
        refine ⟨?_, ?_⟩
        · first | rfl | exact congrArg (fun v => some (zi v)) (by omega) | (exfalso; omega)
        · exfalso
          omega
      · have hxhq2 : J 57 (J 29 5) = 2 := hxhq2
        refine z_aload0 gi_156_56 ?_
        refine z_getR (r := 53) gi_156_57 gk_50 (hRr _ rm_50_4 (by decide)) ?_
        refine z_iload2 gi_156_60 ?_
        refine z_iload3 gi_156_61 ?_
        refine z_iast (e := J 60 (J 29 5)) gi_156_62 gk_53 (by decide) (by omega) rfl ?_
        refine z_goto gi_156_63 ?_
        refine z_vret gi_156_95 gr_156 ?_
        show zW _ _ _ _ _ _ _ _ _ _
        refine z_aload0 gi_159_41 ?_
        refine z_dup gi_159_42 rfl ?_
        refine z_getI (v := J 29 5) gi_159_43 gk_50 ((zU_n (by decide)).trans ((zU_n (by decide)).trans (c1.symm))) ?_
        refine z_pushJ gp_159_46 ?_
        refine z_iadd (e := (J 29 5) + 1) gi_159_47 rfl ?_
        refine z_putI (y := 8) gi_159_48 rfl gk_50 ?_
        refine z_aload0 gi_159_51 ?_
        refine z_dup gi_159_52 rfl ?_
        refine z_getI (v := J 50 9) gi_159_53 gk_50 ((zU_x (by decide)).trans ((zU_n (by decide)).trans ((zU_n (by decide)).trans (rfl)))) ?_
        refine z_pushJ gp_159_56 ?_
        refine z_isub (e := (J 50 9) - 1) gi_159_57 rfl ?_
        refine z_putI (y := 9) gi_159_58 rfl gk_50 ?_
        refine z_aload0 gi_159_61 ?_
        refine z_getI (v := (J 50 9) - 1) gi_159_62 gk_50 (zU_e) ?_
        refine z_iret gi_159_65 gr_159 ?_
        refine ⟨?_, ?_⟩
        · first | rfl | exact congrArg (fun v => some (zi v)) (by omega) | (exfalso; omega)
        · exfalso
          omega
      · have hxhq2 : J 57 (J 29 5) = 3 := hxhq2
        refine z_aload0 gi_156_66 ?_
        refine z_getR (r := 54) gi_156_67 gk_50 (hRr _ rm_50_5 (by decide)) ?_
        refine z_iload2 gi_156_70 ?_
        refine z_iload3 gi_156_71 ?_
        refine z_iast (e := J 60 (J 29 5)) gi_156_72 gk_54 (by decide) (by omega) rfl ?_
        refine z_goto gi_156_73 ?_
        refine z_vret gi_156_95 gr_156 ?_
        show zW _ _ _ _ _ _ _ _ _ _
        refine z_aload0 gi_159_41 ?_
        refine z_dup gi_159_42 rfl ?_
        refine z_getI (v := J 29 5) gi_159_43 gk_50 ((zU_n (by decide)).trans ((zU_n (by decide)).trans (c1.symm))) ?_
        refine z_pushJ gp_159_46 ?_
        refine z_iadd (e := (J 29 5) + 1) gi_159_47 rfl ?_
        refine z_putI (y := 8) gi_159_48 rfl gk_50 ?_
        refine z_aload0 gi_159_51 ?_
        refine z_dup gi_159_52 rfl ?_
        refine z_getI (v := J 50 9) gi_159_53 gk_50 ((zU_x (by decide)).trans ((zU_n (by decide)).trans ((zU_n (by decide)).trans (rfl)))) ?_
        refine z_pushJ gp_159_56 ?_
        refine z_isub (e := (J 50 9) - 1) gi_159_57 rfl ?_
        refine z_putI (y := 9) gi_159_58 rfl gk_50 ?_
        refine z_aload0 gi_159_61 ?_
        refine z_getI (v := (J 50 9) - 1) gi_159_62 gk_50 (zU_e) ?_
        refine z_iret gi_159_65 gr_159 ?_
        refine ⟨?_, ?_⟩
        · first | rfl | exact congrArg (fun v => some (zi v)) (by omega) | (exfalso; omega)
        · exfalso
          omega
      · have hxhq2 : J 57 (J 29 5) = 4 := hxhq2
        refine z_aload0 gi_156_76 ?_
        refine z_getR (r := 55) gi_156_77 gk_50 (hRr _ rm_50_6 (by decide)) ?_
        refine z_iload2 gi_156_80 ?_
        refine z_iload3 gi_156_81 ?_
        refine z_iast (e := J 60 (J 29 5)) gi_156_82 gk_55 (by decide) (by omega) rfl ?_
        refine z_goto gi_156_83 ?_
        refine z_vret gi_156_95 gr_156 ?_
        show zW _ _ _ _ _ _ _ _ _ _
        refine z_aload0 gi_159_41 ?_
        refine z_dup gi_159_42 rfl ?_
        refine z_getI (v := J 29 5) gi_159_43 gk_50 ((zU_n (by decide)).trans ((zU_n (by decide)).trans (c1.symm))) ?_
        refine z_pushJ gp_159_46 ?_
        refine z_iadd (e := (J 29 5) + 1) gi_159_47 rfl ?_
        refine z_putI (y := 8) gi_159_48 rfl gk_50 ?_
        refine z_aload0 gi_159_51 ?_
        refine z_dup gi_159_52 rfl ?_
        refine z_getI (v := J 50 9) gi_159_53 gk_50 ((zU_x (by decide)).trans ((zU_n (by decide)).trans ((zU_n (by decide)).trans (rfl)))) ?_
        refine z_pushJ gp_159_56 ?_
        refine z_isub (e := (J 50 9) - 1) gi_159_57 rfl ?_
        refine z_putI (y := 9) gi_159_58 rfl gk_50 ?_
        refine z_aload0 gi_159_61 ?_
        refine z_getI (v := (J 50 9) - 1) gi_159_62 gk_50 (zU_e) ?_
        refine z_iret gi_159_65 gr_159 ?_
        refine ⟨?_, ?_⟩
        · first | rfl | exact congrArg (fun v => some (zi v)) (by omega) | (exfalso; omega)
        · exfalso
          omega
    · have hq2 : ∀ q ∈ [((0 : Int), 36), ((1 : Int), 46), ((2 : Int), 56), ((3 : Int), 66), ((4 : Int), 76)], ¬ J 57 (J 29 5) = q.1 := hq2
      have hq2_0 : ¬ J 57 (J 29 5) = 0 := hq2 (0, 36) (by simp)
      have hq2_1 : ¬ J 57 (J 29 5) = 1 := hq2 (1, 46) (by simp)
      have hq2_2 : ¬ J 57 (J 29 5) = 2 := hq2 (2, 56) (by simp)
      have hq2_3 : ¬ J 57 (J 29 5) = 3 := hq2 (3, 66) (by simp)
      have hq2_4 : ¬ J 57 (J 29 5) = 4 := hq2 (4, 76) (by simp)
      refine z_aload0 gi_156_86 ?_
      refine z_getR (r := 56) gi_156_87 gk_50 (hRr _ rm_50_7 (by decide)) ?_
      refine z_iload1 gi_156_90 ?_
      refine z_pushJ gp_156_91 ?_
      refine z_isub (e := (J 57 (J 29 5)) - 5) gi_156_92 rfl ?_
      refine z_iload3 gi_156_93 ?_
      refine z_iast (e := J 60 (J 29 5)) gi_156_94 gk_56 (by decide) (by omega) rfl ?_
      refine z_vret gi_156_95 gr_156 ?_
      show zW _ _ _ _ _ _ _ _ _ _
      refine z_aload0 gi_159_41 ?_
      refine z_dup gi_159_42 rfl ?_
      refine z_getI (v := J 29 5) gi_159_43 gk_50 ((zU_n (by decide)).trans ((zU_n (by decide)).trans (c1.symm))) ?_
      refine z_pushJ gp_159_46 ?_
      refine z_iadd (e := (J 29 5) + 1) gi_159_47 rfl ?_
      refine z_putI (y := 8) gi_159_48 rfl gk_50 ?_
      refine z_aload0 gi_159_51 ?_
      refine z_dup gi_159_52 rfl ?_
      refine z_getI (v := J 50 9) gi_159_53 gk_50 ((zU_x (by decide)).trans ((zU_n (by decide)).trans ((zU_n (by decide)).trans (rfl)))) ?_
      refine z_pushJ gp_159_56 ?_
      refine z_isub (e := (J 50 9) - 1) gi_159_57 rfl ?_
      refine z_putI (y := 9) gi_159_58 rfl gk_50 ?_
      refine z_aload0 gi_159_61 ?_
      refine z_getI (v := (J 50 9) - 1) gi_159_62 gk_50 (zU_e) ?_
      refine z_iret gi_159_65 gr_159 ?_
      refine ⟨?_, ?_⟩
      · first | rfl | exact congrArg (fun v => some (zi v)) (by omega) | (exfalso; omega)
      · exfalso
        omega
  · refine z_iload2 gi_89_4 ?_
    refine z_pushJ gp_89_5 ?_
    refine z_icmp_lt gi_89_7 (by omega) zr_14 (fun h2 => ?_) (fun h2 => ?_)
    · refine z_iload2 gi_89_12 ?_
      refine z_pushJ gp_89_13 ?_
      refine z_icmp_ge gi_89_14 (by omega) zr_5 (fun h3 => ?_) (fun h3 => ?_)
      · refine z_iload1 gi_89_35 ?_
        refine z_if_ne gi_89_36 (by omega) (fun h4 => ?_) (fun h4 => ?_)
        · refine z_pushJ gp_89_46 ?_
          refine z_iret gi_89_47 gr_89 ?_
          show zW _ _ _ _ _ _ _ _ _ _
          refine z_istore (ls1 := [some (.ref 8), some (zi (J 30 (J 29 5))), some (zi (J 31 (J 29 5))), some (zi (J 33 (J 29 5))), some (zi (-1))]) gi_91_6 rfl ?_
          refine z_iload4 gi_91_8 ?_
          refine z_if_ltT gi_91_10 zrn_1 (by decide) ?_
          refine z_vret gi_91_21 gr_91 ?_
          show zW _ _ _ _ _ _ _ _ _ _
          refine z_aload0 gi_17_47 ?_
          refine z_dup gi_17_48 rfl ?_
          refine z_getI (v := J 29 5) gi_17_49 gk_29 (rfl) ?_
          refine z_pushJ gp_17_52 ?_
          refine z_iadd (e := (J 29 5) + 1) gi_17_53 rfl ?_
          refine z_putI (y := 5) gi_17_54 rfl gk_29 ?_
          refine z_pushJ gp_17_57 ?_
          refine z_bret1 gi_17_58 gr_17 ?_
          show zW _ _ _ _ _ _ _ _ _ _
          refine z_if_eqF gi_132_7 zr_1 (by decide) ?_
          refine z_aload0 gi_132_10 ?_
          refine z_getR (r := 29) gi_132_11 gk_0 (hR _ rm_0_9) ?_
          refine z_getI (v := J 29 6) gi_132_14 gk_29 ((zU_x (by decide)).trans (rfl)) ?_
          refine z_aload0 gi_132_17 ?_
          refine z_getR (r := 29) gi_132_18 gk_0 (hR _ rm_0_9) ?_
          refine z_getI (v := (J 29 5) + 1) gi_132_21 gk_29 (zU_e) ?_
          refine z_isub (e := (J 29 6) - ((J 29 5) + 1)) gi_132_24 rfl ?_
          refine z_goto gi_132_25 ?_
          refine z_iret gi_132_30 gr_132 ?_
          refine ⟨_, rfl, ?_⟩
          show zW _ _ _ _ [some (.ref 50)] _ _ _ _ _
          refine z_aload0 gi_159_0 ?_
          refine z_getI (v := J 50 9) gi_159_1 gk_50 ((zU_n (by decide)).trans (rfl)) ?_
          refine z_if_neT gi_159_4 (by omega) (by omega) ?_
          refine z_aload0 gi_159_10 ?_
          refine z_aload0 gi_159_11 ?_
          refine z_getR (r := 57) gi_159_12 gk_50 (hRr _ rm_50_10 (by decide)) ?_
          refine z_aload0 gi_159_15 ?_
          refine z_getI (v := J 29 5) gi_159_16 gk_50 ((zU_n (by decide)).trans (c1.symm)) ?_
          refine z_iald (v := J 57 (J 29 5)) gi_159_19 gk_57 (by decide) (by omega) ((zU_n (by decide)).trans (rfl)) ?_
          refine z_aload0 gi_159_20 ?_
          refine z_getR (r := 58) gi_159_21 gk_50 (hRr _ rm_50_11 (by decide)) ?_
          refine z_aload0 gi_159_24 ?_
          refine z_getI (v := J 29 5) gi_159_25 gk_50 ((zU_n (by decide)).trans (c1.symm)) ?_
          refine z_iald (v := J 58 (J 29 5)) gi_159_28 gk_58 (by decide) (by omega) ((zU_n (by decide)).trans (rfl)) ?_
          refine z_aload0 gi_159_29 ?_
          refine z_getR (r := 60) gi_159_30 gk_50 (hRr _ rm_50_13 (by decide)) ?_
          refine z_aload0 gi_159_33 ?_
          refine z_getI (v := J 29 5) gi_159_34 gk_50 ((zU_n (by decide)).trans (c1.symm)) ?_
          refine z_iald (v := J 60 (J 29 5)) gi_159_37 gk_60 (by decide) (by omega) ((zU_n (by decide)).trans (rfl)) ?_
          refine z_cV3 gi_159_38 gk_50 go_156 (Nat.le_of_ble_eq_true rfl) gc_156_RIII ?_
          refine z_iload1 gi_156_0 ?_
          refine z_sw (T := [((0 : Int), 36), ((1 : Int), 46), ((2 : Int), 56), ((3 : Int), 66), ((4 : Int), 76)]) gi_156_1 (by omega) rfl (fun q hq5 hxhq5 => ?_) (fun hq5 => ?_)
          · simp only [List.mem_cons, List.not_mem_nil, or_false] at hq5
            rcases hq5 with rfl | rfl | rfl | rfl | rfl
            · have hxhq5 : J 57 (J 29 5) = 0 := hxhq5
              refine z_aload0 gi_156_36 ?_
              refine z_getR (r := 51) gi_156_37 gk_50 (hRr _ rm_50_2 (by decide)) ?_
              refine z_iload2 gi_156_40 ?_
              refine z_iload3 gi_156_41 ?_
              refine z_iast (e := J 60 (J 29 5)) gi_156_42 gk_51 (by decide) (by omega) rfl ?_
              refine z_goto gi_156_43 ?_
              refine z_vret gi_156_95 gr_156 ?_
              show zW _ _ _ _ _ _ _ _ _ _
              refine z_aload0 gi_159_41 ?_
              refine z_dup gi_159_42 rfl ?_
              refine z_getI (v := J 29 5) gi_159_43 gk_50 ((zU_n (by decide)).trans ((zU_n (by decide)).trans (c1.symm))) ?_
              refine z_pushJ gp_159_46 ?_
              refine z_iadd (e := (J 29 5) + 1) gi_159_47 rfl ?_
              refine z_putI (y := 8) gi_159_48 rfl gk_50 ?_
              refine z_aload0 gi_159_51 ?_
              refine z_dup gi_159_52 rfl ?_
              refine z_getI (v := J 50 9) gi_159_53 gk_50 ((zU_x (by decide)).trans ((zU_n (by decide)).trans ((zU_n (by decide)).trans (rfl)))) ?_
              refine z_pushJ gp_159_56 ?_
              refine z_isub (e := (J 50 9) - 1) gi_159_57 rfl ?_
              refine z_putI (y := 9) gi_159_58 rfl gk_50 ?_
              refine z_aload0 gi_159_61 ?_
              refine z_getI (v := (J 50 9) - 1) gi_159_62 gk_50 (zU_e) ?_
              refine z_iret gi_159_65 gr_159 ?_
              refine ⟨?_, ?_⟩
              · first | rfl | exact congrArg (fun v => some (zi v)) (by omega) | (exfalso; omega)
              · exfalso
                omega
            · have hxhq5 : J 57 (J 29 5) = 1 := hxhq5
              refine z_aload0 gi_156_46 ?_
              refine z_getR (r := 52) gi_156_47 gk_50 (hRr _ rm_50_3 (by decide)) ?_
              refine z_iload2 gi_156_50 ?_
              refine z_iload3 gi_156_51 ?_
              refine z_iast (e := J 60 (J 29 5)) gi_156_52 gk_52 (by decide) (by omega) rfl ?_
              refine z_goto gi_156_53 ?_
              refine z_vret gi_156_95 gr_156 ?_
              show zW _ _ _ _ _ _ _ _ _ _
              refine z_aload0 gi_159_41 ?_
              refine z_dup gi_159_42 rfl ?_
              refine z_getI (v := J 29 5) gi_159_43 gk_50 ((zU_n (by decide)).trans ((zU_n (by decide)).trans (c1.symm))) ?_
              refine z_pushJ gp_159_46 ?_
              refine z_iadd (e := (J 29 5) + 1) gi_159_47 rfl ?_
              refine z_putI (y := 8) gi_159_48 rfl gk_50 ?_
              refine z_aload0 gi_159_51 ?_
              refine z_dup gi_159_52 rfl ?_
              refine z_getI (v := J 50 9) gi_159_53 gk_50 ((zU_x (by decide)).trans ((zU_n (by decide)).trans ((zU_n (by decide)).trans (rfl)))) ?_
              refine z_pushJ gp_159_56 ?_
              refine z_isub (e := (J 50 9) - 1) gi_159_57 rfl ?_
              refine z_putI (y := 9) gi_159_58 rfl gk_50 ?_
              refine z_aload0 gi_159_61 ?_
              refine z_getI (v := (J 50 9) - 1) gi_159_62 gk_50 (zU_e) ?_
              refine z_iret gi_159_65 gr_159 ?_
              refine ⟨?_, ?_⟩
              · first | rfl | exact congrArg (fun v => some (zi v)) (by omega) | (exfalso; omega)
              · exfalso
                omega
            · have hxhq5 : J 57 (J 29 5) = 2 := hxhq5
              refine z_aload0 gi_156_56 ?_
              refine z_getR (r := 53) gi_156_57 gk_50 (hRr _ rm_50_4 (by decide)) ?_
              refine z_iload2 gi_156_60 ?_
              refine z_iload3 gi_156_61 ?_
              refine z_iast (e := J 60 (J 29 5)) gi_156_62 gk_53 (by decide) (by omega) rfl ?_
              refine z_goto gi_156_63 ?_
              refine z_vret gi_156_95 gr_156 ?_
              show zW _ _ _ _ _ _ _ _ _ _
              refine z_aload0 gi_159_41 ?_
              refine z_dup gi_159_42 rfl ?_
              refine z_getI (v := J 29 5) gi_159_43 gk_50 ((zU_n (by decide)).trans ((zU_n (by decide)).trans (c1.symm))) ?_
              refine z_pushJ gp_159_46 ?_
              refine z_iadd (e := (J 29 5) + 1) gi_159_47 rfl ?_
              refine z_putI (y := 8) gi_159_48 rfl gk_50 ?_
              refine z_aload0 gi_159_51 ?_
              refine z_dup gi_159_52 rfl ?_
              refine z_getI (v := J 50 9) gi_159_53 gk_50 ((zU_x (by decide)).trans ((zU_n (by decide)).trans ((zU_n (by decide)).trans (rfl)))) ?_
              refine z_pushJ gp_159_56 ?_
              refine z_isub (e := (J 50 9) - 1) gi_159_57 rfl ?_
              refine z_putI (y := 9) gi_159_58 rfl gk_50 ?_
              refine z_aload0 gi_159_61 ?_
              refine z_getI (v := (J 50 9) - 1) gi_159_62 gk_50 (zU_e) ?_
              refine z_iret gi_159_65 gr_159 ?_
              refine ⟨?_, ?_⟩
              · first | rfl | exact congrArg (fun v => some (zi v)) (by omega) | (exfalso; omega)
              · exfalso
                omega
            · have hxhq5 : J 57 (J 29 5) = 3 := hxhq5
              refine z_aload0 gi_156_66 ?_
              refine z_getR (r := 54) gi_156_67 gk_50 (hRr _ rm_50_5 (by decide)) ?_
              refine z_iload2 gi_156_70 ?_
              refine z_iload3 gi_156_71 ?_
              refine z_iast (e := J 60 (J 29 5)) gi_156_72 gk_54 (by decide) (by omega) rfl ?_
              refine z_goto gi_156_73 ?_
              refine z_vret gi_156_95 gr_156 ?_
              show zW _ _ _ _ _ _ _ _ _ _
              refine z_aload0 gi_159_41 ?_
              refine z_dup gi_159_42 rfl ?_
              refine z_getI (v := J 29 5) gi_159_43 gk_50 ((zU_n (by decide)).trans ((zU_n (by decide)).trans (c1.symm))) ?_
              refine z_pushJ gp_159_46 ?_
              refine z_iadd (e := (J 29 5) + 1) gi_159_47 rfl ?_
              refine z_putI (y := 8) gi_159_48 rfl gk_50 ?_
              refine z_aload0 gi_159_51 ?_
              refine z_dup gi_159_52 rfl ?_
              refine z_getI (v := J 50 9) gi_159_53 gk_50 ((zU_x (by decide)).trans ((zU_n (by decide)).trans ((zU_n (by decide)).trans (rfl)))) ?_
              refine z_pushJ gp_159_56 ?_
              refine z_isub (e := (J 50 9) - 1) gi_159_57 rfl ?_
              refine z_putI (y := 9) gi_159_58 rfl gk_50 ?_
              refine z_aload0 gi_159_61 ?_
              refine z_getI (v := (J 50 9) - 1) gi_159_62 gk_50 (zU_e) ?_
              refine z_iret gi_159_65 gr_159 ?_
              refine ⟨?_, ?_⟩
              · first | rfl | exact congrArg (fun v => some (zi v)) (by omega) | (exfalso; omega)
              · exfalso
                omega
            · have hxhq5 : J 57 (J 29 5) = 4 := hxhq5
              refine z_aload0 gi_156_76 ?_
              refine z_getR (r := 55) gi_156_77 gk_50 (hRr _ rm_50_6 (by decide)) ?_
              refine z_iload2 gi_156_80 ?_
              refine z_iload3 gi_156_81 ?_
              refine z_iast (e := J 60 (J 29 5)) gi_156_82 gk_55 (by decide) (by omega) rfl ?_
              refine z_goto gi_156_83 ?_
              refine z_vret gi_156_95 gr_156 ?_
              show zW _ _ _ _ _ _ _ _ _ _
              refine z_aload0 gi_159_41 ?_
              refine z_dup gi_159_42 rfl ?_
              refine z_getI (v := J 29 5) gi_159_43 gk_50 ((zU_n (by decide)).trans ((zU_n (by decide)).trans (c1.symm))) ?_
              refine z_pushJ gp_159_46 ?_
              refine z_iadd (e := (J 29 5) + 1) gi_159_47 rfl ?_
              refine z_putI (y := 8) gi_159_48 rfl gk_50 ?_
              refine z_aload0 gi_159_51 ?_
              refine z_dup gi_159_52 rfl ?_
              refine z_getI (v := J 50 9) gi_159_53 gk_50 ((zU_x (by decide)).trans ((zU_n (by decide)).trans ((zU_n (by decide)).trans (rfl)))) ?_
              refine z_pushJ gp_159_56 ?_
              refine z_isub (e := (J 50 9) - 1) gi_159_57 rfl ?_
              refine z_putI (y := 9) gi_159_58 rfl gk_50 ?_
              refine z_aload0 gi_159_61 ?_
              refine z_getI (v := (J 50 9) - 1) gi_159_62 gk_50 (zU_e) ?_
              refine z_iret gi_159_65 gr_159 ?_
              refine ⟨?_, ?_⟩
              · first | rfl | exact congrArg (fun v => some (zi v)) (by omega) | (exfalso; omega)
              · exfalso
                omega
          · have hq5 : ∀ q ∈ [((0 : Int), 36), ((1 : Int), 46), ((2 : Int), 56), ((3 : Int), 66), ((4 : Int), 76)], ¬ J 57 (J 29 5) = q.1 := hq5
            have hq5_0 : ¬ J 57 (J 29 5) = 0 := hq5 (0, 36) (by simp)
            have hq5_1 : ¬ J 57 (J 29 5) = 1 := hq5 (1, 46) (by simp)
            have hq5_2 : ¬ J 57 (J 29 5) = 2 := hq5 (2, 56) (by simp)
            have hq5_3 : ¬ J 57 (J 29 5) = 3 := hq5 (3, 66) (by simp)
            have hq5_4 : ¬ J 57 (J 29 5) = 4 := hq5 (4, 76) (by simp)
            refine z_aload0 gi_156_86 ?_
            refine z_getR (r := 56) gi_156_87 gk_50 (hRr _ rm_50_7 (by decide)) ?_
            refine z_iload1 gi_156_90 ?_
            refine z_pushJ gp_156_91 ?_
            refine z_isub (e := (J 57 (J 29 5)) - 5) gi_156_92 rfl ?_
            refine z_iload3 gi_156_93 ?_
            refine z_iast (e := J 60 (J 29 5)) gi_156_94 gk_56 (by decide) (by omega) rfl ?_
            refine z_vret gi_156_95 gr_156 ?_
            show zW _ _ _ _ _ _ _ _ _ _
            refine z_aload0 gi_159_41 ?_
            refine z_dup gi_159_42 rfl ?_
            refine z_getI (v := J 29 5) gi_159_43 gk_50 ((zU_n (by decide)).trans ((zU_n (by decide)).trans (c1.symm))) ?_
            refine z_pushJ gp_159_46 ?_
            refine z_iadd (e := (J 29 5) + 1) gi_159_47 rfl ?_
            refine z_putI (y := 8) gi_159_48 rfl gk_50 ?_
            refine z_aload0 gi_159_51 ?_
            refine z_dup gi_159_52 rfl ?_
            refine z_getI (v := J 50 9) gi_159_53 gk_50 ((zU_x (by decide)).trans ((zU_n (by decide)).trans ((zU_n (by decide)).trans (rfl)))) ?_
            refine z_pushJ gp_159_56 ?_
            refine z_isub (e := (J 50 9) - 1) gi_159_57 rfl ?_
            refine z_putI (y := 9) gi_159_58 rfl gk_50 ?_
            refine z_aload0 gi_159_61 ?_
            refine z_getI (v := (J 50 9) - 1) gi_159_62 gk_50 (zU_e) ?_
            refine z_iret gi_159_65 gr_159 ?_
            refine ⟨?_, ?_⟩
            · first | rfl | exact congrArg (fun v => some (zi v)) (by omega) | (exfalso; omega)
            · exfalso
              omega
        · refine z_pushJ gp_89_39 ?_
          refine z_iload2 gi_89_41 ?_
          refine z_iadd (e := 40 + (J 31 (J 29 5))) gi_89_42 rfl ?_
          refine z_goto gi_89_43 ?_
          refine z_iret gi_89_47 gr_89 ?_
          show zW _ _ _ _ _ _ _ _ _ _
          refine z_istore (ls1 := [some (.ref 8), some (zi (J 30 (J 29 5))), some (zi (J 31 (J 29 5))), some (zi (J 33 (J 29 5))), some (zi (40 + (J 31 (J 29 5))))]) gi_91_6 rfl ?_
          refine z_iload4 gi_91_8 ?_
          refine z_if_lt gi_91_10 (by omega) (fun h5 => ?_) (fun h5 => ?_)
          · refine z_vret gi_91_21 gr_91 ?_
            show zW _ _ _ _ _ _ _ _ _ _
            refine z_aload0 gi_17_47 ?_
            refine z_dup gi_17_48 rfl ?_
            refine z_getI (v := J 29 5) gi_17_49 gk_29 (rfl) ?_
            refine z_pushJ gp_17_52 ?_
            refine z_iadd (e := (J 29 5) + 1) gi_17_53 rfl ?_
            refine z_putI (y := 5) gi_17_54 rfl gk_29 ?_
            refine z_pushJ gp_17_57 ?_
            refine z_bret1 gi_17_58 gr_17 ?_
            show zW _ _ _ _ _ _ _ _ _ _
            refine z_if_eqF gi_132_7 zr_1 (by decide) ?_
            refine z_aload0 gi_132_10 ?_
            refine z_getR (r := 29) gi_132_11 gk_0 (hR _ rm_0_9) ?_
            refine z_getI (v := J 29 6) gi_132_14 gk_29 ((zU_x (by decide)).trans (rfl)) ?_
            refine z_aload0 gi_132_17 ?_
            refine z_getR (r := 29) gi_132_18 gk_0 (hR _ rm_0_9) ?_
            refine z_getI (v := (J 29 5) + 1) gi_132_21 gk_29 (zU_e) ?_
            refine z_isub (e := (J 29 6) - ((J 29 5) + 1)) gi_132_24 rfl ?_
            refine z_goto gi_132_25 ?_
            refine z_iret gi_132_30 gr_132 ?_
            refine ⟨_, rfl, ?_⟩
            show zW _ _ _ _ [some (.ref 50)] _ _ _ _ _
            refine z_aload0 gi_159_0 ?_
            refine z_getI (v := J 50 9) gi_159_1 gk_50 ((zU_n (by decide)).trans (rfl)) ?_
            refine z_if_neT gi_159_4 (by omega) (by omega) ?_
            refine z_aload0 gi_159_10 ?_
            refine z_aload0 gi_159_11 ?_
            refine z_getR (r := 57) gi_159_12 gk_50 (hRr _ rm_50_10 (by decide)) ?_
            refine z_aload0 gi_159_15 ?_
            refine z_getI (v := J 29 5) gi_159_16 gk_50 ((zU_n (by decide)).trans (c1.symm)) ?_
            refine z_iald (v := J 57 (J 29 5)) gi_159_19 gk_57 (by decide) (by omega) ((zU_n (by decide)).trans (rfl)) ?_
            refine z_aload0 gi_159_20 ?_
            refine z_getR (r := 58) gi_159_21 gk_50 (hRr _ rm_50_11 (by decide)) ?_
            refine z_aload0 gi_159_24 ?_
            refine z_getI (v := J 29 5) gi_159_25 gk_50 ((zU_n (by decide)).trans (c1.symm)) ?_
            refine z_iald (v := J 58 (J 29 5)) gi_159_28 gk_58 (by decide) (by omega) ((zU_n (by decide)).trans (rfl)) ?_
            refine z_aload0 gi_159_29 ?_
            refine z_getR (r := 60) gi_159_30 gk_50 (hRr _ rm_50_13 (by decide)) ?_
            refine z_aload0 gi_159_33 ?_
            refine z_getI (v := J 29 5) gi_159_34 gk_50 ((zU_n (by decide)).trans (c1.symm)) ?_
            refine z_iald (v := J 60 (J 29 5)) gi_159_37 gk_60 (by decide) (by omega) ((zU_n (by decide)).trans (rfl)) ?_
            refine z_cV3 gi_159_38 gk_50 go_156 (Nat.le_of_ble_eq_true rfl) gc_156_RIII ?_
            refine z_iload1 gi_156_0 ?_
            refine z_sw (T := [((0 : Int), 36), ((1 : Int), 46), ((2 : Int), 56), ((3 : Int), 66), ((4 : Int), 76)]) gi_156_1 (by omega) rfl (fun q hq6 hxhq6 => ?_) (fun hq6 => ?_)
            · simp only [List.mem_cons, List.not_mem_nil, or_false] at hq6
              rcases hq6 with rfl | rfl | rfl | rfl | rfl
              · have hxhq6 : J 57 (J 29 5) = 0 := hxhq6
                refine z_aload0 gi_156_36 ?_
                refine z_getR (r := 51) gi_156_37 gk_50 (hRr _ rm_50_2 (by decide)) ?_
                refine z_iload2 gi_156_40 ?_
                refine z_iload3 gi_156_41 ?_
                refine z_iast (e := J 60 (J 29 5)) gi_156_42 gk_51 (by decide) (by omega) rfl ?_
                refine z_goto gi_156_43 ?_
                refine z_vret gi_156_95 gr_156 ?_
                show zW _ _ _ _ _ _ _ _ _ _
                refine z_aload0 gi_159_41 ?_
                refine z_dup gi_159_42 rfl ?_
                refine z_getI (v := J 29 5) gi_159_43 gk_50 ((zU_n (by decide)).trans ((zU_n (by decide)).trans (c1.symm))) ?_
                refine z_pushJ gp_159_46 ?_
                refine z_iadd (e := (J 29 5) + 1) gi_159_47 rfl ?_
                refine z_putI (y := 8) gi_159_48 rfl gk_50 ?_
                refine z_aload0 gi_159_51 ?_
                refine z_dup gi_159_52 rfl ?_
                refine z_getI (v := J 50 9) gi_159_53 gk_50 ((zU_x (by decide)).trans ((zU_n (by decide)).trans ((zU_n (by decide)).trans (rfl)))) ?_
                refine z_pushJ gp_159_56 ?_
                refine z_isub (e := (J 50 9) - 1) gi_159_57 rfl ?_
                refine z_putI (y := 9) gi_159_58 rfl gk_50 ?_
                refine z_aload0 gi_159_61 ?_
                refine z_getI (v := (J 50 9) - 1) gi_159_62 gk_50 (zU_e) ?_
                refine z_iret gi_159_65 gr_159 ?_
                refine ⟨?_, ?_⟩
                · first | rfl | exact congrArg (fun v => some (zi v)) (by omega) | (exfalso; omega)
                · exfalso
                  omega
              · have hxhq6 : J 57 (J 29 5) = 1 := hxhq6
                refine z_aload0 gi_156_46 ?_
                refine z_getR (r := 52) gi_156_47 gk_50 (hRr _ rm_50_3 (by decide)) ?_
                refine z_iload2 gi_156_50 ?_
                refine z_iload3 gi_156_51 ?_
                refine z_iast (e := J 60 (J 29 5)) gi_156_52 gk_52 (by decide) (by omega) rfl ?_
                refine z_goto gi_156_53 ?_
                refine z_vret gi_156_95 gr_156 ?_
                show zW _ _ _ _ _ _ _ _ _ _
                refine z_aload0 gi_159_41 ?_
                refine z_dup gi_159_42 rfl ?_
                refine z_getI (v := J 29 5) gi_159_43 gk_50 ((zU_n (by decide)).trans ((zU_n (by decide)).trans (c1.symm))) ?_
                refine z_pushJ gp_159_46 ?_
                refine z_iadd (e := (J 29 5) + 1) gi_159_47 rfl ?_
                refine z_putI (y := 8) gi_159_48 rfl gk_50 ?_
                refine z_aload0 gi_159_51 ?_
                refine z_dup gi_159_52 rfl ?_
                refine z_getI (v := J 50 9) gi_159_53 gk_50 ((zU_x (by decide)).trans ((zU_n (by decide)).trans ((zU_n (by decide)).trans (rfl)))) ?_
                refine z_pushJ gp_159_56 ?_
                refine z_isub (e := (J 50 9) - 1) gi_159_57 rfl ?_
                refine z_putI (y := 9) gi_159_58 rfl gk_50 ?_
                refine z_aload0 gi_159_61 ?_
                refine z_getI (v := (J 50 9) - 1) gi_159_62 gk_50 (zU_e) ?_
                refine z_iret gi_159_65 gr_159 ?_
                refine ⟨?_, ?_⟩
                · first | rfl | exact congrArg (fun v => some (zi v)) (by omega) | (exfalso; omega)
                · exfalso
                  omega
              · have hxhq6 : J 57 (J 29 5) = 2 := hxhq6
                refine z_aload0 gi_156_56 ?_
                refine z_getR (r := 53) gi_156_57 gk_50 (hRr _ rm_50_4 (by decide)) ?_
                refine z_iload2 gi_156_60 ?_
                refine z_iload3 gi_156_61 ?_
                refine z_iast (e := J 60 (J 29 5)) gi_156_62 gk_53 (by decide) (by omega) rfl ?_
                refine z_goto gi_156_63 ?_
                refine z_vret gi_156_95 gr_156 ?_
                show zW _ _ _ _ _ _ _ _ _ _
                refine z_aload0 gi_159_41 ?_
                refine z_dup gi_159_42 rfl ?_
                refine z_getI (v := J 29 5) gi_159_43 gk_50 ((zU_n (by decide)).trans ((zU_n (by decide)).trans (c1.symm))) ?_
                refine z_pushJ gp_159_46 ?_
                refine z_iadd (e := (J 29 5) + 1) gi_159_47 rfl ?_
                refine z_putI (y := 8) gi_159_48 rfl gk_50 ?_
                refine z_aload0 gi_159_51 ?_
                refine z_dup gi_159_52 rfl ?_
                refine z_getI (v := J 50 9) gi_159_53 gk_50 ((zU_x (by decide)).trans ((zU_n (by decide)).trans ((zU_n (by decide)).trans (rfl)))) ?_
                refine z_pushJ gp_159_56 ?_
                refine z_isub (e := (J 50 9) - 1) gi_159_57 rfl ?_
                refine z_putI (y := 9) gi_159_58 rfl gk_50 ?_
                refine z_aload0 gi_159_61 ?_
                refine z_getI (v := (J 50 9) - 1) gi_159_62 gk_50 (zU_e) ?_
                refine z_iret gi_159_65 gr_159 ?_
                refine ⟨?_, ?_⟩
                · first | rfl | exact congrArg (fun v => some (zi v)) (by omega) | (exfalso; omega)
                · exfalso
                  omega
              · have hxhq6 : J 57 (J 29 5) = 3 := hxhq6
                refine z_aload0 gi_156_66 ?_
                refine z_getR (r := 54) gi_156_67 gk_50 (hRr _ rm_50_5 (by decide)) ?_
                refine z_iload2 gi_156_70 ?_
                refine z_iload3 gi_156_71 ?_
                refine z_iast (e := J 60 (J 29 5)) gi_156_72 gk_54 (by decide) (by omega) rfl ?_
                refine z_goto gi_156_73 ?_
                refine z_vret gi_156_95 gr_156 ?_
                show zW _ _ _ _ _ _ _ _ _ _
                refine z_aload0 gi_159_41 ?_
                refine z_dup gi_159_42 rfl ?_
                refine z_getI (v := J 29 5) gi_159_43 gk_50 ((zU_n (by decide)).trans ((zU_n (by decide)).trans (c1.symm))) ?_
                refine z_pushJ gp_159_46 ?_
                refine z_iadd (e := (J 29 5) + 1) gi_159_47 rfl ?_
                refine z_putI (y := 8) gi_159_48 rfl gk_50 ?_
                refine z_aload0 gi_159_51 ?_
                refine z_dup gi_159_52 rfl ?_
                refine z_getI (v := J 50 9) gi_159_53 gk_50 ((zU_x (by decide)).trans ((zU_n (by decide)).trans ((zU_n (by decide)).trans (rfl)))) ?_
                refine z_pushJ gp_159_56 ?_
                refine z_isub (e := (J 50 9) - 1) gi_159_57 rfl ?_
                refine z_putI (y := 9) gi_159_58 rfl gk_50 ?_
                refine z_aload0 gi_159_61 ?_
                refine z_getI (v := (J 50 9) - 1) gi_159_62 gk_50 (zU_e) ?_
                refine z_iret gi_159_65 gr_159 ?_
                refine ⟨?_, ?_⟩
                · first | rfl | exact congrArg (fun v => some (zi v)) (by omega) | (exfalso; omega)
                · exfalso
                  omega
              · have hxhq6 : J 57 (J 29 5) = 4 := hxhq6
                refine z_aload0 gi_156_76 ?_
                refine z_getR (r := 55) gi_156_77 gk_50 (hRr _ rm_50_6 (by decide)) ?_
                refine z_iload2 gi_156_80 ?_
                refine z_iload3 gi_156_81 ?_
                refine z_iast (e := J 60 (J 29 5)) gi_156_82 gk_55 (by decide) (by omega) rfl ?_
                refine z_goto gi_156_83 ?_
                refine z_vret gi_156_95 gr_156 ?_
                show zW _ _ _ _ _ _ _ _ _ _
                refine z_aload0 gi_159_41 ?_
                refine z_dup gi_159_42 rfl ?_
                refine z_getI (v := J 29 5) gi_159_43 gk_50 ((zU_n (by decide)).trans ((zU_n (by decide)).trans (c1.symm))) ?_
                refine z_pushJ gp_159_46 ?_
                refine z_iadd (e := (J 29 5) + 1) gi_159_47 rfl ?_
                refine z_putI (y := 8) gi_159_48 rfl gk_50 ?_
                refine z_aload0 gi_159_51 ?_
                refine z_dup gi_159_52 rfl ?_
                refine z_getI (v := J 50 9) gi_159_53 gk_50 ((zU_x (by decide)).trans ((zU_n (by decide)).trans ((zU_n (by decide)).trans (rfl)))) ?_
                refine z_pushJ gp_159_56 ?_
                refine z_isub (e := (J 50 9) - 1) gi_159_57 rfl ?_
                refine z_putI (y := 9) gi_159_58 rfl gk_50 ?_
                refine z_aload0 gi_159_61 ?_
                refine z_getI (v := (J 50 9) - 1) gi_159_62 gk_50 (zU_e) ?_
                refine z_iret gi_159_65 gr_159 ?_
                refine ⟨?_, ?_⟩
                · first | rfl | exact congrArg (fun v => some (zi v)) (by omega) | (exfalso; omega)
                · exfalso
                  omega
            · have hq6 : ∀ q ∈ [((0 : Int), 36), ((1 : Int), 46), ((2 : Int), 56), ((3 : Int), 66), ((4 : Int), 76)], ¬ J 57 (J 29 5) = q.1 := hq6
              have hq6_0 : ¬ J 57 (J 29 5) = 0 := hq6 (0, 36) (by simp)
              have hq6_1 : ¬ J 57 (J 29 5) = 1 := hq6 (1, 46) (by simp)
              have hq6_2 : ¬ J 57 (J 29 5) = 2 := hq6 (2, 56) (by simp)
              have hq6_3 : ¬ J 57 (J 29 5) = 3 := hq6 (3, 66) (by simp)
              have hq6_4 : ¬ J 57 (J 29 5) = 4 := hq6 (4, 76) (by simp)
              refine z_aload0 gi_156_86 ?_
              refine z_getR (r := 56) gi_156_87 gk_50 (hRr _ rm_50_7 (by decide)) ?_
              refine z_iload1 gi_156_90 ?_
              refine z_pushJ gp_156_91 ?_
              refine z_isub (e := (J 57 (J 29 5)) - 5) gi_156_92 rfl ?_
              refine z_iload3 gi_156_93 ?_
              refine z_iast (e := J 60 (J 29 5)) gi_156_94 gk_56 (by decide) (by omega) rfl ?_
              refine z_vret gi_156_95 gr_156 ?_
              show zW _ _ _ _ _ _ _ _ _ _
              refine z_aload0 gi_159_41 ?_
              refine z_dup gi_159_42 rfl ?_
              refine z_getI (v := J 29 5) gi_159_43 gk_50 ((zU_n (by decide)).trans ((zU_n (by decide)).trans (c1.symm))) ?_
              refine z_pushJ gp_159_46 ?_
              refine z_iadd (e := (J 29 5) + 1) gi_159_47 rfl ?_
              refine z_putI (y := 8) gi_159_48 rfl gk_50 ?_
              refine z_aload0 gi_159_51 ?_
              refine z_dup gi_159_52 rfl ?_
              refine z_getI (v := J 50 9) gi_159_53 gk_50 ((zU_x (by decide)).trans ((zU_n (by decide)).trans ((zU_n (by decide)).trans (rfl)))) ?_
              refine z_pushJ gp_159_56 ?_
              refine z_isub (e := (J 50 9) - 1) gi_159_57 rfl ?_
              refine z_putI (y := 9) gi_159_58 rfl gk_50 ?_
              refine z_aload0 gi_159_61 ?_
              refine z_getI (v := (J 50 9) - 1) gi_159_62 gk_50 (zU_e) ?_
              refine z_iret gi_159_65 gr_159 ?_
              refine ⟨?_, ?_⟩
              · first | rfl | exact congrArg (fun v => some (zi v)) (by omega) | (exfalso; omega)
              · exfalso
                omega
          · refine z_aload0 gi_91_13 ?_
            refine z_getR (r := 9) gi_91_14 gk_8 (hR _ rm_8_1) ?_
            refine z_iload4 gi_91_17 ?_
            refine z_iload3 gi_91_19 ?_
            refine z_iast (e := J 33 (J 29 5)) gi_91_20 gk_9 (by decide) (by omega) rfl ?_
            refine z_vret gi_91_21 gr_91 ?_
            show zW _ _ _ _ _ _ _ _ _ _
            refine z_aload0 gi_17_47 ?_
            refine z_dup gi_17_48 rfl ?_
            refine z_getI (v := J 29 5) gi_17_49 gk_29 ((zU_n (by decide)).trans (rfl)) ?_
            refine z_pushJ gp_17_52 ?_
            refine z_iadd (e := (J 29 5) + 1) gi_17_53 rfl ?_
            refine z_putI (y := 5) gi_17_54 rfl gk_29 ?_
            refine z_pushJ gp_17_57 ?_
            refine z_bret1 gi_17_58 gr_17 ?_
            show zW _ _ _ _ _ _ _ _ _ _
            refine z_if_eqF gi_132_7 zr_1 (by decide) ?_
            refine z_aload0 gi_132_10 ?_
            refine z_getR (r := 29) gi_132_11 gk_0 (hR _ rm_0_9) ?_
            refine z_getI (v := J 29 6) gi_132_14 gk_29 ((zU_x (by decide)).trans ((zU_n (by decide)).trans (rfl))) ?_
            refine z_aload0 gi_132_17 ?_
            refine z_getR (r := 29) gi_132_18 gk_0 (hR _ rm_0_9) ?_
            refine z_getI (v := (J 29 5) + 1) gi_132_21 gk_29 (zU_e) ?_
            refine z_isub (e := (J 29 6) - ((J 29 5) + 1)) gi_132_24 rfl ?_
            refine z_goto gi_132_25 ?_
            refine z_iret gi_132_30 gr_132 ?_
            refine ⟨_, rfl, ?_⟩
            show zW _ _ _ _ [some (.ref 50)] _ _ _ _ _
            refine z_aload0 gi_159_0 ?_
            refine z_getI (v := J 50 9) gi_159_1 gk_50 ((zU_n (by decide)).trans ((zU_n (by decide)).trans (rfl))) ?_
            refine z_if_neT gi_159_4 (by omega) (by omega) ?_
            refine z_aload0 gi_159_10 ?_
            refine z_aload0 gi_159_11 ?_
            refine z_getR (r := 57) gi_159_12 gk_50 (hRr _ rm_50_10 (by decide)) ?_
            refine z_aload0 gi_159_15 ?_
            refine z_getI (v := J 29 5) gi_159_16 gk_50 ((zU_n (by decide)).trans ((zU_n (by decide)).trans (c1.symm))) ?_
            refine z_iald (v := J 57 (J 29 5)) gi_159_19 gk_57 (by decide) (by omega) ((zU_n (by decide)).trans ((zU_n (by decide)).trans (rfl))) ?_
            refine z_aload0 gi_159_20 ?_
            refine z_getR (r := 58) gi_159_21 gk_50 (hRr _ rm_50_11 (by decide)) ?_
            refine z_aload0 gi_159_24 ?_
            refine z_getI (v := J 29 5) gi_159_25 gk_50 ((zU_n (by decide)).trans ((zU_n (by decide)).trans (c1.symm))) ?_
            refine z_iald (v := J 58 (J 29 5)) gi_159_28 gk_58 (by decide) (by omega) ((zU_n (by decide)).trans ((zU_n (by decide)).trans (rfl))) ?_
            refine z_aload0 gi_159_29 ?_
            refine z_getR (r := 60) gi_159_30 gk_50 (hRr _ rm_50_13 (by decide)) ?_
            refine z_aload0 gi_159_33 ?_
            refine z_getI (v := J 29 5) gi_159_34 gk_50 ((zU_n (by decide)).trans ((zU_n (by decide)).trans (c1.symm))) ?_
            refine z_iald (v := J 60 (J 29 5)) gi_159_37 gk_60 (by decide) (by omega) ((zU_n (by decide)).trans ((zU_n (by decide)).trans (rfl))) ?_
            refine z_cV3 gi_159_38 gk_50 go_156 (Nat.le_of_ble_eq_true rfl) gc_156_RIII ?_
            refine z_iload1 gi_156_0 ?_
            refine z_sw (T := [((0 : Int), 36), ((1 : Int), 46), ((2 : Int), 56), ((3 : Int), 66), ((4 : Int), 76)]) gi_156_1 (by omega) rfl (fun q hq6 hxhq6 => ?_) (fun hq6 => ?_)
            · simp only [List.mem_cons, List.not_mem_nil, or_false] at hq6
              rcases hq6 with rfl | rfl | rfl | rfl | rfl
              · have hxhq6 : J 57 (J 29 5) = 0 := hxhq6
                refine z_aload0 gi_156_36 ?_
                refine z_getR (r := 51) gi_156_37 gk_50 (hRr _ rm_50_2 (by decide)) ?_
                refine z_iload2 gi_156_40 ?_
                refine z_iload3 gi_156_41 ?_
                refine z_iast (e := J 60 (J 29 5)) gi_156_42 gk_51 (by decide) (by omega) rfl ?_
                refine z_goto gi_156_43 ?_
                refine z_vret gi_156_95 gr_156 ?_
                show zW _ _ _ _ _ _ _ _ _ _
                refine z_aload0 gi_159_41 ?_
                refine z_dup gi_159_42 rfl ?_
                refine z_getI (v := J 29 5) gi_159_43 gk_50 ((zU_n (by decide)).trans ((zU_n (by decide)).trans ((zU_n (by decide)).trans (c1.symm)))) ?_
                refine z_pushJ gp_159_46 ?_
                refine z_iadd (e := (J 29 5) + 1) gi_159_47 rfl ?_
                refine z_putI (y := 8) gi_159_48 rfl gk_50 ?_
                refine z_aload0 gi_159_51 ?_
                refine z_dup gi_159_52 rfl ?_
                refine z_getI (v := J 50 9) gi_159_53 gk_50 ((zU_x (by decide)).trans ((zU_n (by decide)).trans ((zU_n (by decide)).trans ((zU_n (by decide)).trans (rfl))))) ?_
                refine z_pushJ gp_159_56 ?_
                refine z_isub (e := (J 50 9) - 1) gi_159_57 rfl ?_
                refine z_putI (y := 9) gi_159_58 rfl gk_50 ?_
                refine z_aload0 gi_159_61 ?_
                refine z_getI (v := (J 50 9) - 1) gi_159_62 gk_50 (zU_e) ?_
                refine z_iret gi_159_65 gr_159 ?_
                refine ⟨?_, ?_⟩
                · first | rfl | exact congrArg (fun v => some (zi v)) (by omega) | (exfalso; omega)
                · have hs := (zK_x (a := 50) (x := 9) (v := (J 50 9) - 1) (zK_x (a := 50) (x := 8) (v := (J 29 5) + 1) (zK_u (a := 51) (x := J 58 (J 29 5)) (v := J 60 (J 29 5)) (zK_x (a := 29) (x := 5) (v := (J 29 5) + 1) (zK_u (a := 9) (x := 40 + (J 31 (J 29 5))) (v := J 33 (J 29 5)) (zK_r (k := (kL [] [(29, 5), (50, 8), (50, 9)])) (A := J))) rfl)) rfl) rfl)
                  have ev : J 60 (J 29 5) = J 33 (J 29 5) := by omega
                  have hY2 := RelY_k hs (by repeat' constructor) (fun p => by repeat' constructor) (by rw [ev]; exact RelY_p (p := J 30 (J 29 5)) (w := 0) hY (by omega) (by omega) (zFit_c hfit (by omega)) (by omega) rfl (by omega))
                  have hs2 := (zK_u (a := 50) (x := 9) (v := (J 50 9) - 1) (zK_u (a := 50) (x := 8) (v := (J 29 5) + 1) (zK_x (a := 51) (x := J 58 (J 29 5)) (v := J 60 (J 29 5)) (zK_u (a := 29) (x := 5) (v := (J 29 5) + 1) (zK_x (a := 9) (x := 40 + (J 31 (J 29 5))) (v := J 33 (J 29 5)) (zK_r (k := (kL [9, 51] [])) (A := J)) rfl)) rfl)))
                  have hC2 := RelC_k hs2 (by repeat' constructor) (fun p => by repeat' constructor) (RelC_redo hC (by omega))
                  have hk := (zK_x (a := 50) (x := 9) (v := (J 50 9) - 1) (zK_x (a := 50) (x := 8) (v := (J 29 5) + 1) (zK_x (a := 51) (x := J 58 (J 29 5)) (v := J 60 (J 29 5)) (zK_x (a := 29) (x := 5) (v := (J 29 5) + 1) (zK_x (a := 9) (x := 40 + (J 31 (J 29 5))) (v := J 33 (J 29 5)) (zK_r (k := (kL [9, 51] [(29, 5), (50, 8), (50, 9)])) (A := J)) rfl) rfl) rfl) rfl) rfl)
                  exact ⟨hR, hG, hY2, RelD_k hk (by repeat' constructor) (fun p => by repeat' constructor) hD, RelP_k hk (by repeat' constructor) (fun p => by repeat' constructor) hP, hC2, RelA_k hk (by repeat' constructor) (fun p => by repeat' constructor) hAc, RelS_k hk (zK_r (k := kM)) (fun x j a b => ⟨kL_38 (by decide) (by decide) x j a b, kM_38 x j a b⟩) (fun p => ⟨rfl, rfl, rfl⟩) rfl hS, RelT_k hk (by repeat' constructor) (fun p => by repeat' constructor) hTp, RelX_k hk (by repeat' constructor) (fun p => by repeat' constructor) hX, RelW_k hk ⟨rfl, rfl⟩ trivial hW⟩
              · have hxhq6 : J 57 (J 29 5) = 1 := hxhq6
                refine z_aload0 gi_156_46 ?_
                refine z_getR (r := 52) gi_156_47 gk_50 (hRr _ rm_50_3 (by decide)) ?_
                refine z_iload2 gi_156_50 ?_
                refine z_iload3 gi_156_51 ?_
                refine z_iast (e := J 60 (J 29 5)) gi_156_52 gk_52 (by decide) (by omega) rfl ?_
                refine z_goto gi_156_53 ?_
                refine z_vret gi_156_95 gr_156 ?_
                show zW _ _ _ _ _ _ _ _ _ _
                refine z_aload0 gi_159_41 ?_
                refine z_dup gi_159_42 rfl ?_
                refine z_getI (v := J 29 5) gi_159_43 gk_50 ((zU_n (by decide)).trans ((zU_n (by decide)).trans ((zU_n (by decide)).trans (c1.symm)))) ?_
                refine z_pushJ gp_159_46 ?_
                refine z_iadd (e := (J 29 5) + 1) gi_159_47 rfl ?_
                refine z_putI (y := 8) gi_159_48 rfl gk_50 ?_
                refine z_aload0 gi_159_51 ?_
                refine z_dup gi_159_52 rfl ?_
                refine z_getI (v := J 50 9) gi_159_53 gk_50 ((zU_x (by decide)).trans ((zU_n (by decide)).trans ((zU_n (by decide)).trans ((zU_n (by decide)).trans (rfl))))) ?_
                refine z_pushJ gp_159_56 ?_
                refine z_isub (e := (J 50 9) - 1) gi_159_57 rfl ?_
                refine z_putI (y := 9) gi_159_58 rfl gk_50 ?_
                refine z_aload0 gi_159_61 ?_
                refine z_getI (v := (J 50 9) - 1) gi_159_62 gk_50 (zU_e) ?_
                refine z_iret gi_159_65 gr_159 ?_
                refine ⟨?_, ?_⟩
                · first | rfl | exact congrArg (fun v => some (zi v)) (by omega) | (exfalso; omega)
                · have hs := (zK_x (a := 50) (x := 9) (v := (J 50 9) - 1) (zK_x (a := 50) (x := 8) (v := (J 29 5) + 1) (zK_u (a := 52) (x := J 58 (J 29 5)) (v := J 60 (J 29 5)) (zK_x (a := 29) (x := 5) (v := (J 29 5) + 1) (zK_u (a := 9) (x := 40 + (J 31 (J 29 5))) (v := J 33 (J 29 5)) (zK_r (k := (kL [] [(29, 5), (50, 8), (50, 9)])) (A := J))) rfl)) rfl) rfl)
                  have ev : J 60 (J 29 5) = J 33 (J 29 5) := by omega
                  have hY2 := RelY_k hs (by repeat' constructor) (fun p => by repeat' constructor) (by rw [ev]; exact RelY_p (p := J 30 (J 29 5)) (w := 1) hY (by omega) (by omega) (zFit_c hfit (by omega)) (by omega) rfl (by omega))
                  have hs2 := (zK_u (a := 50) (x := 9) (v := (J 50 9) - 1) (zK_u (a := 50) (x := 8) (v := (J 29 5) + 1) (zK_x (a := 52) (x := J 58 (J 29 5)) (v := J 60 (J 29 5)) (zK_u (a := 29) (x := 5) (v := (J 29 5) + 1) (zK_x (a := 9) (x := 40 + (J 31 (J 29 5))) (v := J 33 (J 29 5)) (zK_r (k := (kL [9, 52] [])) (A := J)) rfl)) rfl)))
                  have hC2 := RelC_k hs2 (by repeat' constructor) (fun p => by repeat' constructor) (RelC_redo hC (by omega))
                  have hk := (zK_x (a := 50) (x := 9) (v := (J 50 9) - 1) (zK_x (a := 50) (x := 8) (v := (J 29 5) + 1) (zK_x (a := 52) (x := J 58 (J 29 5)) (v := J 60 (J 29 5)) (zK_x (a := 29) (x := 5) (v := (J 29 5) + 1) (zK_x (a := 9) (x := 40 + (J 31 (J 29 5))) (v := J 33 (J 29 5)) (zK_r (k := (kL [9, 52] [(29, 5), (50, 8), (50, 9)])) (A := J)) rfl) rfl) rfl) rfl) rfl)
                  exact ⟨hR, hG, hY2, RelD_k hk (by repeat' constructor) (fun p => by repeat' constructor) hD, RelP_k hk (by repeat' constructor) (fun p => by repeat' constructor) hP, hC2, RelA_k hk (by repeat' constructor) (fun p => by repeat' constructor) hAc, RelS_k hk (zK_r (k := kM)) (fun x j a b => ⟨kL_38 (by decide) (by decide) x j a b, kM_38 x j a b⟩) (fun p => ⟨rfl, rfl, rfl⟩) rfl hS, RelT_k hk (by repeat' constructor) (fun p => by repeat' constructor) hTp, RelX_k hk (by repeat' constructor) (fun p => by repeat' constructor) hX, RelW_k hk ⟨rfl, rfl⟩ trivial hW⟩
              · have hxhq6 : J 57 (J 29 5) = 2 := hxhq6
                refine z_aload0 gi_156_56 ?_
                refine z_getR (r := 53) gi_156_57 gk_50 (hRr _ rm_50_4 (by decide)) ?_
                refine z_iload2 gi_156_60 ?_
                refine z_iload3 gi_156_61 ?_
                refine z_iast (e := J 60 (J 29 5)) gi_156_62 gk_53 (by decide) (by omega) rfl ?_
                refine z_goto gi_156_63 ?_
                refine z_vret gi_156_95 gr_156 ?_
                show zW _ _ _ _ _ _ _ _ _ _
                refine z_aload0 gi_159_41 ?_
                refine z_dup gi_159_42 rfl ?_
                refine z_getI (v := J 29 5) gi_159_43 gk_50 ((zU_n (by decide)).trans ((zU_n (by decide)).trans ((zU_n (by decide)).trans (c1.symm)))) ?_
                refine z_pushJ gp_159_46 ?_
                refine z_iadd (e := (J 29 5) + 1) gi_159_47 rfl ?_
                refine z_putI (y := 8) gi_159_48 rfl gk_50 ?_
                refine z_aload0 gi_159_51 ?_
                refine z_dup gi_159_52 rfl ?_
                refine z_getI (v := J 50 9) gi_159_53 gk_50 ((zU_x (by decide)).trans ((zU_n (by decide)).trans ((zU_n (by decide)).trans ((zU_n (by decide)).trans (rfl))))) ?_
                refine z_pushJ gp_159_56 ?_
                refine z_isub (e := (J 50 9) - 1) gi_159_57 rfl ?_
                refine z_putI (y := 9) gi_159_58 rfl gk_50 ?_
                refine z_aload0 gi_159_61 ?_
                refine z_getI (v := (J 50 9) - 1) gi_159_62 gk_50 (zU_e) ?_
                refine z_iret gi_159_65 gr_159 ?_
                refine ⟨?_, ?_⟩
                · first | rfl | exact congrArg (fun v => some (zi v)) (by omega) | (exfalso; omega)
                · have hs := (zK_x (a := 50) (x := 9) (v := (J 50 9) - 1) (zK_x (a := 50) (x := 8) (v := (J 29 5) + 1) (zK_u (a := 53) (x := J 58 (J 29 5)) (v := J 60 (J 29 5)) (zK_x (a := 29) (x := 5) (v := (J 29 5) + 1) (zK_u (a := 9) (x := 40 + (J 31 (J 29 5))) (v := J 33 (J 29 5)) (zK_r (k := (kL [] [(29, 5), (50, 8), (50, 9)])) (A := J))) rfl)) rfl) rfl)
                  have ev : J 60 (J 29 5) = J 33 (J 29 5) := by omega
                  have hY2 := RelY_k hs (by repeat' constructor) (fun p => by repeat' constructor) (by rw [ev]; exact RelY_p (p := J 30 (J 29 5)) (w := 2) hY (by omega) (by omega) (zFit_c hfit (by omega)) (by omega) rfl (by omega))
                  have hs2 := (zK_u (a := 50) (x := 9) (v := (J 50 9) - 1) (zK_u (a := 50) (x := 8) (v := (J 29 5) + 1) (zK_x (a := 53) (x := J 58 (J 29 5)) (v := J 60 (J 29 5)) (zK_u (a := 29) (x := 5) (v := (J 29 5) + 1) (zK_x (a := 9) (x := 40 + (J 31 (J 29 5))) (v := J 33 (J 29 5)) (zK_r (k := (kL [9, 53] [])) (A := J)) rfl)) rfl)))
                  have hC2 := RelC_k hs2 (by repeat' constructor) (fun p => by repeat' constructor) (RelC_redo hC (by omega))
                  have hk := (zK_x (a := 50) (x := 9) (v := (J 50 9) - 1) (zK_x (a := 50) (x := 8) (v := (J 29 5) + 1) (zK_x (a := 53) (x := J 58 (J 29 5)) (v := J 60 (J 29 5)) (zK_x (a := 29) (x := 5) (v := (J 29 5) + 1) (zK_x (a := 9) (x := 40 + (J 31 (J 29 5))) (v := J 33 (J 29 5)) (zK_r (k := (kL [9, 53] [(29, 5), (50, 8), (50, 9)])) (A := J)) rfl) rfl) rfl) rfl) rfl)
                  exact ⟨hR, hG, hY2, RelD_k hk (by repeat' constructor) (fun p => by repeat' constructor) hD, RelP_k hk (by repeat' constructor) (fun p => by repeat' constructor) hP, hC2, RelA_k hk (by repeat' constructor) (fun p => by repeat' constructor) hAc, RelS_k hk (zK_r (k := kM)) (fun x j a b => ⟨kL_38 (by decide) (by decide) x j a b, kM_38 x j a b⟩) (fun p => ⟨rfl, rfl, rfl⟩) rfl hS, RelT_k hk (by repeat' constructor) (fun p => by repeat' constructor) hTp, RelX_k hk (by repeat' constructor) (fun p => by repeat' constructor) hX, RelW_k hk ⟨rfl, rfl⟩ trivial hW⟩
              · have hxhq6 : J 57 (J 29 5) = 3 := hxhq6
                refine z_aload0 gi_156_66 ?_
                refine z_getR (r := 54) gi_156_67 gk_50 (hRr _ rm_50_5 (by decide)) ?_
                refine z_iload2 gi_156_70 ?_
                refine z_iload3 gi_156_71 ?_
                refine z_iast (e := J 60 (J 29 5)) gi_156_72 gk_54 (by decide) (by omega) rfl ?_
                refine z_goto gi_156_73 ?_
                refine z_vret gi_156_95 gr_156 ?_
                show zW _ _ _ _ _ _ _ _ _ _
                refine z_aload0 gi_159_41 ?_
                refine z_dup gi_159_42 rfl ?_
                refine z_getI (v := J 29 5) gi_159_43 gk_50 ((zU_n (by decide)).trans ((zU_n (by decide)).trans ((zU_n (by decide)).trans (c1.symm)))) ?_
                refine z_pushJ gp_159_46 ?_
                refine z_iadd (e := (J 29 5) + 1) gi_159_47 rfl ?_
                refine z_putI (y := 8) gi_159_48 rfl gk_50 ?_
                refine z_aload0 gi_159_51 ?_
                refine z_dup gi_159_52 rfl ?_
                refine z_getI (v := J 50 9) gi_159_53 gk_50 ((zU_x (by decide)).trans ((zU_n (by decide)).trans ((zU_n (by decide)).trans ((zU_n (by decide)).trans (rfl))))) ?_
                refine z_pushJ gp_159_56 ?_
                refine z_isub (e := (J 50 9) - 1) gi_159_57 rfl ?_
                refine z_putI (y := 9) gi_159_58 rfl gk_50 ?_
                refine z_aload0 gi_159_61 ?_
                refine z_getI (v := (J 50 9) - 1) gi_159_62 gk_50 (zU_e) ?_
                refine z_iret gi_159_65 gr_159 ?_
                refine ⟨?_, ?_⟩
                · first | rfl | exact congrArg (fun v => some (zi v)) (by omega) | (exfalso; omega)
                · have hs := (zK_x (a := 50) (x := 9) (v := (J 50 9) - 1) (zK_x (a := 50) (x := 8) (v := (J 29 5) + 1) (zK_u (a := 54) (x := J 58 (J 29 5)) (v := J 60 (J 29 5)) (zK_x (a := 29) (x := 5) (v := (J 29 5) + 1) (zK_u (a := 9) (x := 40 + (J 31 (J 29 5))) (v := J 33 (J 29 5)) (zK_r (k := (kL [] [(29, 5), (50, 8), (50, 9)])) (A := J))) rfl)) rfl) rfl)
                  have ev : J 60 (J 29 5) = J 33 (J 29 5) := by omega
                  have hY2 := RelY_k hs (by repeat' constructor) (fun p => by repeat' constructor) (by rw [ev]; exact RelY_p (p := J 30 (J 29 5)) (w := 3) hY (by omega) (by omega) (zFit_c hfit (by omega)) (by omega) rfl (by omega))
                  have hs2 := (zK_u (a := 50) (x := 9) (v := (J 50 9) - 1) (zK_u (a := 50) (x := 8) (v := (J 29 5) + 1) (zK_x (a := 54) (x := J 58 (J 29 5)) (v := J 60 (J 29 5)) (zK_u (a := 29) (x := 5) (v := (J 29 5) + 1) (zK_x (a := 9) (x := 40 + (J 31 (J 29 5))) (v := J 33 (J 29 5)) (zK_r (k := (kL [9, 54] [])) (A := J)) rfl)) rfl)))
                  have hC2 := RelC_k hs2 (by repeat' constructor) (fun p => by repeat' constructor) (RelC_redo hC (by omega))
                  have hk := (zK_x (a := 50) (x := 9) (v := (J 50 9) - 1) (zK_x (a := 50) (x := 8) (v := (J 29 5) + 1) (zK_x (a := 54) (x := J 58 (J 29 5)) (v := J 60 (J 29 5)) (zK_x (a := 29) (x := 5) (v := (J 29 5) + 1) (zK_x (a := 9) (x := 40 + (J 31 (J 29 5))) (v := J 33 (J 29 5)) (zK_r (k := (kL [9, 54] [(29, 5), (50, 8), (50, 9)])) (A := J)) rfl) rfl) rfl) rfl) rfl)
                  exact ⟨hR, hG, hY2, RelD_k hk (by repeat' constructor) (fun p => by repeat' constructor) hD, RelP_k hk (by repeat' constructor) (fun p => by repeat' constructor) hP, hC2, RelA_k hk (by repeat' constructor) (fun p => by repeat' constructor) hAc, RelS_k hk (zK_r (k := kM)) (fun x j a b => ⟨kL_38 (by decide) (by decide) x j a b, kM_38 x j a b⟩) (fun p => ⟨rfl, rfl, rfl⟩) rfl hS, RelT_k hk (by repeat' constructor) (fun p => by repeat' constructor) hTp, RelX_k hk (by repeat' constructor) (fun p => by repeat' constructor) hX, RelW_k hk ⟨rfl, rfl⟩ trivial hW⟩
              · have hxhq6 : J 57 (J 29 5) = 4 := hxhq6
                refine z_aload0 gi_156_76 ?_
                refine z_getR (r := 55) gi_156_77 gk_50 (hRr _ rm_50_6 (by decide)) ?_
                refine z_iload2 gi_156_80 ?_
                refine z_iload3 gi_156_81 ?_
                refine z_iast (e := J 60 (J 29 5)) gi_156_82 gk_55 (by decide) (by omega) rfl ?_
                refine z_goto gi_156_83 ?_
                refine z_vret gi_156_95 gr_156 ?_
                show zW _ _ _ _ _ _ _ _ _ _
                refine z_aload0 gi_159_41 ?_
                refine z_dup gi_159_42 rfl ?_
                refine z_getI (v := J 29 5) gi_159_43 gk_50 ((zU_n (by decide)).trans ((zU_n (by decide)).trans ((zU_n (by decide)).trans (c1.symm)))) ?_
                refine z_pushJ gp_159_46 ?_
                refine z_iadd (e := (J 29 5) + 1) gi_159_47 rfl ?_
                refine z_putI (y := 8) gi_159_48 rfl gk_50 ?_
                refine z_aload0 gi_159_51 ?_
                refine z_dup gi_159_52 rfl ?_
                refine z_getI (v := J 50 9) gi_159_53 gk_50 ((zU_x (by decide)).trans ((zU_n (by decide)).trans ((zU_n (by decide)).trans ((zU_n (by decide)).trans (rfl))))) ?_
                refine z_pushJ gp_159_56 ?_
                refine z_isub (e := (J 50 9) - 1) gi_159_57 rfl ?_
                refine z_putI (y := 9) gi_159_58 rfl gk_50 ?_
                refine z_aload0 gi_159_61 ?_
                refine z_getI (v := (J 50 9) - 1) gi_159_62 gk_50 (zU_e) ?_
                refine z_iret gi_159_65 gr_159 ?_
                refine ⟨?_, ?_⟩
                · first | rfl | exact congrArg (fun v => some (zi v)) (by omega) | (exfalso; omega)
                · have hs := (zK_x (a := 50) (x := 9) (v := (J 50 9) - 1) (zK_x (a := 50) (x := 8) (v := (J 29 5) + 1) (zK_u (a := 55) (x := J 58 (J 29 5)) (v := J 60 (J 29 5)) (zK_x (a := 29) (x := 5) (v := (J 29 5) + 1) (zK_u (a := 9) (x := 40 + (J 31 (J 29 5))) (v := J 33 (J 29 5)) (zK_r (k := (kL [] [(29, 5), (50, 8), (50, 9)])) (A := J))) rfl)) rfl) rfl)
                  have ev : J 60 (J 29 5) = J 33 (J 29 5) := by omega
                  have hY2 := RelY_k hs (by repeat' constructor) (fun p => by repeat' constructor) (by rw [ev]; exact RelY_p (p := J 30 (J 29 5)) (w := 4) hY (by omega) (by omega) (zFit_c hfit (by omega)) (by omega) rfl (by omega))
                  have hs2 := (zK_u (a := 50) (x := 9) (v := (J 50 9) - 1) (zK_u (a := 50) (x := 8) (v := (J 29 5) + 1) (zK_x (a := 55) (x := J 58 (J 29 5)) (v := J 60 (J 29 5)) (zK_u (a := 29) (x := 5) (v := (J 29 5) + 1) (zK_x (a := 9) (x := 40 + (J 31 (J 29 5))) (v := J 33 (J 29 5)) (zK_r (k := (kL [9, 55] [])) (A := J)) rfl)) rfl)))
                  have hC2 := RelC_k hs2 (by repeat' constructor) (fun p => by repeat' constructor) (RelC_redo hC (by omega))
                  have hk := (zK_x (a := 50) (x := 9) (v := (J 50 9) - 1) (zK_x (a := 50) (x := 8) (v := (J 29 5) + 1) (zK_x (a := 55) (x := J 58 (J 29 5)) (v := J 60 (J 29 5)) (zK_x (a := 29) (x := 5) (v := (J 29 5) + 1) (zK_x (a := 9) (x := 40 + (J 31 (J 29 5))) (v := J 33 (J 29 5)) (zK_r (k := (kL [9, 55] [(29, 5), (50, 8), (50, 9)])) (A := J)) rfl) rfl) rfl) rfl) rfl)
                  exact ⟨hR, hG, hY2, RelD_k hk (by repeat' constructor) (fun p => by repeat' constructor) hD, RelP_k hk (by repeat' constructor) (fun p => by repeat' constructor) hP, hC2, RelA_k hk (by repeat' constructor) (fun p => by repeat' constructor) hAc, RelS_k hk (zK_r (k := kM)) (fun x j a b => ⟨kL_38 (by decide) (by decide) x j a b, kM_38 x j a b⟩) (fun p => ⟨rfl, rfl, rfl⟩) rfl hS, RelT_k hk (by repeat' constructor) (fun p => by repeat' constructor) hTp, RelX_k hk (by repeat' constructor) (fun p => by repeat' constructor) hX, RelW_k hk ⟨rfl, rfl⟩ trivial hW⟩
            · have hq6 : ∀ q ∈ [((0 : Int), 36), ((1 : Int), 46), ((2 : Int), 56), ((3 : Int), 66), ((4 : Int), 76)], ¬ J 57 (J 29 5) = q.1 := hq6
              have hq6_0 : ¬ J 57 (J 29 5) = 0 := hq6 (0, 36) (by simp)
              have hq6_1 : ¬ J 57 (J 29 5) = 1 := hq6 (1, 46) (by simp)
              have hq6_2 : ¬ J 57 (J 29 5) = 2 := hq6 (2, 56) (by simp)
              have hq6_3 : ¬ J 57 (J 29 5) = 3 := hq6 (3, 66) (by simp)
              have hq6_4 : ¬ J 57 (J 29 5) = 4 := hq6 (4, 76) (by simp)
              refine z_aload0 gi_156_86 ?_
              refine z_getR (r := 56) gi_156_87 gk_50 (hRr _ rm_50_7 (by decide)) ?_
              refine z_iload1 gi_156_90 ?_
              refine z_pushJ gp_156_91 ?_
              refine z_isub (e := (J 57 (J 29 5)) - 5) gi_156_92 rfl ?_
              refine z_iload3 gi_156_93 ?_
              refine z_iast (e := J 60 (J 29 5)) gi_156_94 gk_56 (by decide) (by omega) rfl ?_
              refine z_vret gi_156_95 gr_156 ?_
              show zW _ _ _ _ _ _ _ _ _ _
              refine z_aload0 gi_159_41 ?_
              refine z_dup gi_159_42 rfl ?_
              refine z_getI (v := J 29 5) gi_159_43 gk_50 ((zU_n (by decide)).trans ((zU_n (by decide)).trans ((zU_n (by decide)).trans (c1.symm)))) ?_
              refine z_pushJ gp_159_46 ?_
              refine z_iadd (e := (J 29 5) + 1) gi_159_47 rfl ?_
              refine z_putI (y := 8) gi_159_48 rfl gk_50 ?_
              refine z_aload0 gi_159_51 ?_
              refine z_dup gi_159_52 rfl ?_
              refine z_getI (v := J 50 9) gi_159_53 gk_50 ((zU_x (by decide)).trans ((zU_n (by decide)).trans ((zU_n (by decide)).trans ((zU_n (by decide)).trans (rfl))))) ?_
              refine z_pushJ gp_159_56 ?_
              refine z_isub (e := (J 50 9) - 1) gi_159_57 rfl ?_
              refine z_putI (y := 9) gi_159_58 rfl gk_50 ?_
              refine z_aload0 gi_159_61 ?_
              refine z_getI (v := (J 50 9) - 1) gi_159_62 gk_50 (zU_e) ?_
              refine z_iret gi_159_65 gr_159 ?_
              refine ⟨?_, ?_⟩
              · first | rfl | exact congrArg (fun v => some (zi v)) (by omega) | (exfalso; omega)
              · have hs := (zK_x (a := 50) (x := 9) (v := (J 50 9) - 1) (zK_x (a := 50) (x := 8) (v := (J 29 5) + 1) (zK_u (a := 56) (x := (J 57 (J 29 5)) - 5) (v := J 60 (J 29 5)) (zK_x (a := 29) (x := 5) (v := (J 29 5) + 1) (zK_u (a := 9) (x := 40 + (J 31 (J 29 5))) (v := J 33 (J 29 5)) (zK_r (k := (kL [] [(29, 5), (50, 8), (50, 9)])) (A := J))) rfl)) rfl) rfl)
                have ev : J 60 (J 29 5) = J 33 (J 29 5) := by omega
                have hY2 := RelY_k hs (by repeat' constructor) (fun p => by repeat' constructor) (by rw [ev]; exact RelY_g (w := J 31 (J 29 5)) hY (by omega) hfit (by omega) (by omega))
                have hs2 := (zK_u (a := 50) (x := 9) (v := (J 50 9) - 1) (zK_u (a := 50) (x := 8) (v := (J 29 5) + 1) (zK_x (a := 56) (x := (J 57 (J 29 5)) - 5) (v := J 60 (J 29 5)) (zK_u (a := 29) (x := 5) (v := (J 29 5) + 1) (zK_x (a := 9) (x := 40 + (J 31 (J 29 5))) (v := J 33 (J 29 5)) (zK_r (k := (kL [9, 56] [])) (A := J)) rfl)) rfl)))
                have hC2 := RelC_k hs2 (by repeat' constructor) (fun p => by repeat' constructor) (RelC_redo hC (by omega))
                have hk := (zK_x (a := 50) (x := 9) (v := (J 50 9) - 1) (zK_x (a := 50) (x := 8) (v := (J 29 5) + 1) (zK_x (a := 56) (x := (J 57 (J 29 5)) - 5) (v := J 60 (J 29 5)) (zK_x (a := 29) (x := 5) (v := (J 29 5) + 1) (zK_x (a := 9) (x := 40 + (J 31 (J 29 5))) (v := J 33 (J 29 5)) (zK_r (k := (kL [9, 56] [(29, 5), (50, 8), (50, 9)])) (A := J)) rfl) rfl) rfl) rfl) rfl)
                exact ⟨hR, hG, hY2, RelD_k hk (by repeat' constructor) (fun p => by repeat' constructor) hD, RelP_k hk (by repeat' constructor) (fun p => by repeat' constructor) hP, hC2, RelA_k hk (by repeat' constructor) (fun p => by repeat' constructor) hAc, RelS_k hk (zK_r (k := kM)) (fun x j a b => ⟨kL_38 (by decide) (by decide) x j a b, kM_38 x j a b⟩) (fun p => ⟨rfl, rfl, rfl⟩) rfl hS, RelT_k hk (by repeat' constructor) (fun p => by repeat' constructor) hTp, RelX_k hk (by repeat' constructor) (fun p => by repeat' constructor) hX, RelW_k hk ⟨rfl, rfl⟩ trivial hW⟩
      · refine z_aload0 gi_89_17 ?_
        refine z_iload1 gi_89_18 ?_
        refine z_cV1 gi_89_19 gk_8 go_87 (Nat.le_of_ble_eq_true rfl) gc_87_RI ?_
        refine z_iload1 gi_87_0 ?_
        refine z_if_lt gi_87_1 (by omega) (fun h6 => ?_) (fun h6 => ?_)
        · refine z_pushJ gp_87_16 ?_
          refine z_bret0 gi_87_17 gr_87 ?_
          show zW _ _ _ _ _ _ _ _ _ _
          refine z_if_eqT gi_89_22 zr_0 (by decide) ?_
          refine z_pushJ gp_89_33 ?_
          refine z_iret gi_89_34 gr_89 ?_
          show zW _ _ _ _ _ _ _ _ _ _
          refine z_istore (ls1 := [some (.ref 8), some (zi (J 30 (J 29 5))), some (zi (J 31 (J 29 5))), some (zi (J 33 (J 29 5))), some (zi (-1))]) gi_91_6 rfl ?_
          refine z_iload4 gi_91_8 ?_
          refine z_if_ltT gi_91_10 zrn_1 (by decide) ?_
          refine z_vret gi_91_21 gr_91 ?_
          show zW _ _ _ _ _ _ _ _ _ _
          refine z_aload0 gi_17_47 ?_
          refine z_dup gi_17_48 rfl ?_
          refine z_getI (v := J 29 5) gi_17_49 gk_29 (rfl) ?_
          refine z_pushJ gp_17_52 ?_
          refine z_iadd (e := (J 29 5) + 1) gi_17_53 rfl ?_
          refine z_putI (y := 5) gi_17_54 rfl gk_29 ?_
          refine z_pushJ gp_17_57 ?_
          refine z_bret1 gi_17_58 gr_17 ?_
          show zW _ _ _ _ _ _ _ _ _ _
          refine z_if_eqF gi_132_7 zr_1 (by decide) ?_
          refine z_aload0 gi_132_10 ?_
          refine z_getR (r := 29) gi_132_11 gk_0 (hR _ rm_0_9) ?_
          refine z_getI (v := J 29 6) gi_132_14 gk_29 ((zU_x (by decide)).trans (rfl)) ?_
          refine z_aload0 gi_132_17 ?_
          refine z_getR (r := 29) gi_132_18 gk_0 (hR _ rm_0_9) ?_
          refine z_getI (v := (J 29 5) + 1) gi_132_21 gk_29 (zU_e) ?_
          refine z_isub (e := (J 29 6) - ((J 29 5) + 1)) gi_132_24 rfl ?_
          refine z_goto gi_132_25 ?_
          refine z_iret gi_132_30 gr_132 ?_
          refine ⟨_, rfl, ?_⟩
          show zW _ _ _ _ [some (.ref 50)] _ _ _ _ _
          refine z_aload0 gi_159_0 ?_
          refine z_getI (v := J 50 9) gi_159_1 gk_50 ((zU_n (by decide)).trans (rfl)) ?_
          refine z_if_neT gi_159_4 (by omega) (by omega) ?_
          refine z_aload0 gi_159_10 ?_
          refine z_aload0 gi_159_11 ?_
          refine z_getR (r := 57) gi_159_12 gk_50 (hRr _ rm_50_10 (by decide)) ?_
          refine z_aload0 gi_159_15 ?_
          refine z_getI (v := J 29 5) gi_159_16 gk_50 ((zU_n (by decide)).trans (c1.symm)) ?_
          refine z_iald (v := J 57 (J 29 5)) gi_159_19 gk_57 (by decide) (by omega) ((zU_n (by decide)).trans (rfl)) ?_
          refine z_aload0 gi_159_20 ?_
          refine z_getR (r := 58) gi_159_21 gk_50 (hRr _ rm_50_11 (by decide)) ?_
          refine z_aload0 gi_159_24 ?_
          refine z_getI (v := J 29 5) gi_159_25 gk_50 ((zU_n (by decide)).trans (c1.symm)) ?_
          refine z_iald (v := J 58 (J 29 5)) gi_159_28 gk_58 (by decide) (by omega) ((zU_n (by decide)).trans (rfl)) ?_
          refine z_aload0 gi_159_29 ?_
          refine z_getR (r := 60) gi_159_30 gk_50 (hRr _ rm_50_13 (by decide)) ?_
          refine z_aload0 gi_159_33 ?_
          refine z_getI (v := J 29 5) gi_159_34 gk_50 ((zU_n (by decide)).trans (c1.symm)) ?_
          refine z_iald (v := J 60 (J 29 5)) gi_159_37 gk_60 (by decide) (by omega) ((zU_n (by decide)).trans (rfl)) ?_
          refine z_cV3 gi_159_38 gk_50 go_156 (Nat.le_of_ble_eq_true rfl) gc_156_RIII ?_
          refine z_iload1 gi_156_0 ?_
          refine z_sw (T := [((0 : Int), 36), ((1 : Int), 46), ((2 : Int), 56), ((3 : Int), 66), ((4 : Int), 76)]) gi_156_1 (by omega) rfl (fun q hq7 hxhq7 => ?_) (fun hq7 => ?_)
          · simp only [List.mem_cons, List.not_mem_nil, or_false] at hq7
            rcases hq7 with rfl | rfl | rfl | rfl | rfl
            · have hxhq7 : J 57 (J 29 5) = 0 := hxhq7
              refine z_aload0 gi_156_36 ?_
              refine z_getR (r := 51) gi_156_37 gk_50 (hRr _ rm_50_2 (by decide)) ?_
              refine z_iload2 gi_156_40 ?_
              refine z_iload3 gi_156_41 ?_
              refine z_iast (e := J 60 (J 29 5)) gi_156_42 gk_51 (by decide) (by omega) rfl ?_
              refine z_goto gi_156_43 ?_
              refine z_vret gi_156_95 gr_156 ?_
              show zW _ _ _ _ _ _ _ _ _ _
              refine z_aload0 gi_159_41 ?_
              refine z_dup gi_159_42 rfl ?_
              refine z_getI (v := J 29 5) gi_159_43 gk_50 ((zU_n (by decide)).trans ((zU_n (by decide)).trans (c1.symm))) ?_
              refine z_pushJ gp_159_46 ?_
              refine z_iadd (e := (J 29 5) + 1) gi_159_47 rfl ?_
              refine z_putI (y := 8) gi_159_48 rfl gk_50 ?_
              refine z_aload0 gi_159_51 ?_
              refine z_dup gi_159_52 rfl ?_
              refine z_getI (v := J 50 9) gi_159_53 gk_50 ((zU_x (by decide)).trans ((zU_n (by decide)).trans ((zU_n (by decide)).trans (rfl)))) ?_
              refine z_pushJ gp_159_56 ?_
              refine z_isub (e := (J 50 9) - 1) gi_159_57 rfl ?_
              refine z_putI (y := 9) gi_159_58 rfl gk_50 ?_
              refine z_aload0 gi_159_61 ?_
              refine z_getI (v := (J 50 9) - 1) gi_159_62 gk_50 (zU_e) ?_
              refine z_iret gi_159_65 gr_159 ?_
              refine ⟨?_, ?_⟩
              · first | rfl | exact congrArg (fun v => some (zi v)) (by omega) | (exfalso; omega)
              · exfalso
                omega
            · have hxhq7 : J 57 (J 29 5) = 1 := hxhq7
              refine z_aload0 gi_156_46 ?_
              refine z_getR (r := 52) gi_156_47 gk_50 (hRr _ rm_50_3 (by decide)) ?_
              refine z_iload2 gi_156_50 ?_
              refine z_iload3 gi_156_51 ?_
              refine z_iast (e := J 60 (J 29 5)) gi_156_52 gk_52 (by decide) (by omega) rfl ?_
              refine z_goto gi_156_53 ?_
              refine z_vret gi_156_95 gr_156 ?_
              show zW _ _ _ _ _ _ _ _ _ _
              refine z_aload0 gi_159_41 ?_
              refine z_dup gi_159_42 rfl ?_
              refine z_getI (v := J 29 5) gi_159_43 gk_50 ((zU_n (by decide)).trans ((zU_n (by decide)).trans (c1.symm))) ?_
              refine z_pushJ gp_159_46 ?_
              refine z_iadd (e := (J 29 5) + 1) gi_159_47 rfl ?_
              refine z_putI (y := 8) gi_159_48 rfl gk_50 ?_
              refine z_aload0 gi_159_51 ?_
              refine z_dup gi_159_52 rfl ?_
              refine z_getI (v := J 50 9) gi_159_53 gk_50 ((zU_x (by decide)).trans ((zU_n (by decide)).trans ((zU_n (by decide)).trans (rfl)))) ?_
              refine z_pushJ gp_159_56 ?_
              refine z_isub (e := (J 50 9) - 1) gi_159_57 rfl ?_
              refine z_putI (y := 9) gi_159_58 rfl gk_50 ?_
              refine z_aload0 gi_159_61 ?_
              refine z_getI (v := (J 50 9) - 1) gi_159_62 gk_50 (zU_e) ?_
              refine z_iret gi_159_65 gr_159 ?_
              refine ⟨?_, ?_⟩
              · first | rfl | exact congrArg (fun v => some (zi v)) (by omega) | (exfalso; omega)
              · exfalso
                omega
            · have hxhq7 : J 57 (J 29 5) = 2 := hxhq7
              refine z_aload0 gi_156_56 ?_
              refine z_getR (r := 53) gi_156_57 gk_50 (hRr _ rm_50_4 (by decide)) ?_
              refine z_iload2 gi_156_60 ?_
              refine z_iload3 gi_156_61 ?_
              refine z_iast (e := J 60 (J 29 5)) gi_156_62 gk_53 (by decide) (by omega) rfl ?_
              refine z_goto gi_156_63 ?_
              refine z_vret gi_156_95 gr_156 ?_
              show zW _ _ _ _ _ _ _ _ _ _
              refine z_aload0 gi_159_41 ?_
              refine z_dup gi_159_42 rfl ?_
              refine z_getI (v := J 29 5) gi_159_43 gk_50 ((zU_n (by decide)).trans ((zU_n (by decide)).trans (c1.symm))) ?_
              refine z_pushJ gp_159_46 ?_
              refine z_iadd (e := (J 29 5) + 1) gi_159_47 rfl ?_
              refine z_putI (y := 8) gi_159_48 rfl gk_50 ?_
              refine z_aload0 gi_159_51 ?_
              refine z_dup gi_159_52 rfl ?_
              refine z_getI (v := J 50 9) gi_159_53 gk_50 ((zU_x (by decide)).trans ((zU_n (by decide)).trans ((zU_n (by decide)).trans (rfl)))) ?_
              refine z_pushJ gp_159_56 ?_
              refine z_isub (e := (J 50 9) - 1) gi_159_57 rfl ?_
              refine z_putI (y := 9) gi_159_58 rfl gk_50 ?_
              refine z_aload0 gi_159_61 ?_
              refine z_getI (v := (J 50 9) - 1) gi_159_62 gk_50 (zU_e) ?_
              refine z_iret gi_159_65 gr_159 ?_
              refine ⟨?_, ?_⟩
              · first | rfl | exact congrArg (fun v => some (zi v)) (by omega) | (exfalso; omega)
              · exfalso
                omega
            · have hxhq7 : J 57 (J 29 5) = 3 := hxhq7
              refine z_aload0 gi_156_66 ?_
              refine z_getR (r := 54) gi_156_67 gk_50 (hRr _ rm_50_5 (by decide)) ?_
              refine z_iload2 gi_156_70 ?_
              refine z_iload3 gi_156_71 ?_
              refine z_iast (e := J 60 (J 29 5)) gi_156_72 gk_54 (by decide) (by omega) rfl ?_
              refine z_goto gi_156_73 ?_
              refine z_vret gi_156_95 gr_156 ?_
              show zW _ _ _ _ _ _ _ _ _ _
              refine z_aload0 gi_159_41 ?_
              refine z_dup gi_159_42 rfl ?_
              refine z_getI (v := J 29 5) gi_159_43 gk_50 ((zU_n (by decide)).trans ((zU_n (by decide)).trans (c1.symm))) ?_
              refine z_pushJ gp_159_46 ?_
              refine z_iadd (e := (J 29 5) + 1) gi_159_47 rfl ?_
              refine z_putI (y := 8) gi_159_48 rfl gk_50 ?_
              refine z_aload0 gi_159_51 ?_
              refine z_dup gi_159_52 rfl ?_
              refine z_getI (v := J 50 9) gi_159_53 gk_50 ((zU_x (by decide)).trans ((zU_n (by decide)).trans ((zU_n (by decide)).trans (rfl)))) ?_
              refine z_pushJ gp_159_56 ?_
              refine z_isub (e := (J 50 9) - 1) gi_159_57 rfl ?_
              refine z_putI (y := 9) gi_159_58 rfl gk_50 ?_
              refine z_aload0 gi_159_61 ?_
              refine z_getI (v := (J 50 9) - 1) gi_159_62 gk_50 (zU_e) ?_
              refine z_iret gi_159_65 gr_159 ?_
              refine ⟨?_, ?_⟩
              · first | rfl | exact congrArg (fun v => some (zi v)) (by omega) | (exfalso; omega)
              · exfalso
                omega
            · have hxhq7 : J 57 (J 29 5) = 4 := hxhq7
              refine z_aload0 gi_156_76 ?_
              refine z_getR (r := 55) gi_156_77 gk_50 (hRr _ rm_50_6 (by decide)) ?_
              refine z_iload2 gi_156_80 ?_
              refine z_iload3 gi_156_81 ?_
              refine z_iast (e := J 60 (J 29 5)) gi_156_82 gk_55 (by decide) (by omega) rfl ?_
              refine z_goto gi_156_83 ?_
              refine z_vret gi_156_95 gr_156 ?_
              show zW _ _ _ _ _ _ _ _ _ _
              refine z_aload0 gi_159_41 ?_
              refine z_dup gi_159_42 rfl ?_
              refine z_getI (v := J 29 5) gi_159_43 gk_50 ((zU_n (by decide)).trans ((zU_n (by decide)).trans (c1.symm))) ?_
              refine z_pushJ gp_159_46 ?_
              refine z_iadd (e := (J 29 5) + 1) gi_159_47 rfl ?_
              refine z_putI (y := 8) gi_159_48 rfl gk_50 ?_
              refine z_aload0 gi_159_51 ?_
              refine z_dup gi_159_52 rfl ?_
              refine z_getI (v := J 50 9) gi_159_53 gk_50 ((zU_x (by decide)).trans ((zU_n (by decide)).trans ((zU_n (by decide)).trans (rfl)))) ?_
              refine z_pushJ gp_159_56 ?_
              refine z_isub (e := (J 50 9) - 1) gi_159_57 rfl ?_
              refine z_putI (y := 9) gi_159_58 rfl gk_50 ?_
              refine z_aload0 gi_159_61 ?_
              refine z_getI (v := (J 50 9) - 1) gi_159_62 gk_50 (zU_e) ?_
              refine z_iret gi_159_65 gr_159 ?_
              refine ⟨?_, ?_⟩
              · first | rfl | exact congrArg (fun v => some (zi v)) (by omega) | (exfalso; omega)
              · exfalso
                omega
          · have hq7 : ∀ q ∈ [((0 : Int), 36), ((1 : Int), 46), ((2 : Int), 56), ((3 : Int), 66), ((4 : Int), 76)], ¬ J 57 (J 29 5) = q.1 := hq7
            have hq7_0 : ¬ J 57 (J 29 5) = 0 := hq7 (0, 36) (by simp)
            have hq7_1 : ¬ J 57 (J 29 5) = 1 := hq7 (1, 46) (by simp)
            have hq7_2 : ¬ J 57 (J 29 5) = 2 := hq7 (2, 56) (by simp)
            have hq7_3 : ¬ J 57 (J 29 5) = 3 := hq7 (3, 66) (by simp)
            have hq7_4 : ¬ J 57 (J 29 5) = 4 := hq7 (4, 76) (by simp)
            refine z_aload0 gi_156_86 ?_
            refine z_getR (r := 56) gi_156_87 gk_50 (hRr _ rm_50_7 (by decide)) ?_
            refine z_iload1 gi_156_90 ?_
            refine z_pushJ gp_156_91 ?_
            refine z_isub (e := (J 57 (J 29 5)) - 5) gi_156_92 rfl ?_
            refine z_iload3 gi_156_93 ?_
            refine z_iast (e := J 60 (J 29 5)) gi_156_94 gk_56 (by decide) (by omega) rfl ?_
            refine z_vret gi_156_95 gr_156 ?_
            show zW _ _ _ _ _ _ _ _ _ _
            refine z_aload0 gi_159_41 ?_
            refine z_dup gi_159_42 rfl ?_
            refine z_getI (v := J 29 5) gi_159_43 gk_50 ((zU_n (by decide)).trans ((zU_n (by decide)).trans (c1.symm))) ?_
            refine z_pushJ gp_159_46 ?_
            refine z_iadd (e := (J 29 5) + 1) gi_159_47 rfl ?_
            refine z_putI (y := 8) gi_159_48 rfl gk_50 ?_
            refine z_aload0 gi_159_51 ?_
            refine z_dup gi_159_52 rfl ?_
            refine z_getI (v := J 50 9) gi_159_53 gk_50 ((zU_x (by decide)).trans ((zU_n (by decide)).trans ((zU_n (by decide)).trans (rfl)))) ?_
            refine z_pushJ gp_159_56 ?_
            refine z_isub (e := (J 50 9) - 1) gi_159_57 rfl ?_
            refine z_putI (y := 9) gi_159_58 rfl gk_50 ?_
            refine z_aload0 gi_159_61 ?_
            refine z_getI (v := (J 50 9) - 1) gi_159_62 gk_50 (zU_e) ?_
            refine z_iret gi_159_65 gr_159 ?_
            refine ⟨?_, ?_⟩
            · first | rfl | exact congrArg (fun v => some (zi v)) (by omega) | (exfalso; omega)
            · exfalso
              omega
        · refine z_iload1 gi_87_4 ?_
          refine z_aload0 gi_87_5 ?_
          refine z_getI (v := J 8 2) gi_87_6 gk_8 (rfl) ?_
          refine z_icmp_ge gi_87_9 (by omega) (by omega) (fun h7 => ?_) (fun h7 => ?_)
          · refine z_pushJ gp_87_16 ?_
            refine z_bret0 gi_87_17 gr_87 ?_
            show zW _ _ _ _ _ _ _ _ _ _
            refine z_if_eqT gi_89_22 zr_0 (by decide) ?_
            refine z_pushJ gp_89_33 ?_
            refine z_iret gi_89_34 gr_89 ?_
            show zW _ _ _ _ _ _ _ _ _ _
            refine z_istore (ls1 := [some (.ref 8), some (zi (J 30 (J 29 5))), some (zi (J 31 (J 29 5))), some (zi (J 33 (J 29 5))), some (zi (-1))]) gi_91_6 rfl ?_
            refine z_iload4 gi_91_8 ?_
            refine z_if_ltT gi_91_10 zrn_1 (by decide) ?_
            refine z_vret gi_91_21 gr_91 ?_
            show zW _ _ _ _ _ _ _ _ _ _
            refine z_aload0 gi_17_47 ?_
            refine z_dup gi_17_48 rfl ?_
            refine z_getI (v := J 29 5) gi_17_49 gk_29 (rfl) ?_
            refine z_pushJ gp_17_52 ?_
            refine z_iadd (e := (J 29 5) + 1) gi_17_53 rfl ?_
            refine z_putI (y := 5) gi_17_54 rfl gk_29 ?_
            refine z_pushJ gp_17_57 ?_
            refine z_bret1 gi_17_58 gr_17 ?_
            show zW _ _ _ _ _ _ _ _ _ _
            refine z_if_eqF gi_132_7 zr_1 (by decide) ?_
            refine z_aload0 gi_132_10 ?_
            refine z_getR (r := 29) gi_132_11 gk_0 (hR _ rm_0_9) ?_
            refine z_getI (v := J 29 6) gi_132_14 gk_29 ((zU_x (by decide)).trans (rfl)) ?_
            refine z_aload0 gi_132_17 ?_
            refine z_getR (r := 29) gi_132_18 gk_0 (hR _ rm_0_9) ?_
            refine z_getI (v := (J 29 5) + 1) gi_132_21 gk_29 (zU_e) ?_
            refine z_isub (e := (J 29 6) - ((J 29 5) + 1)) gi_132_24 rfl ?_
            refine z_goto gi_132_25 ?_
            refine z_iret gi_132_30 gr_132 ?_
            refine ⟨_, rfl, ?_⟩
            show zW _ _ _ _ [some (.ref 50)] _ _ _ _ _
            refine z_aload0 gi_159_0 ?_
            refine z_getI (v := J 50 9) gi_159_1 gk_50 ((zU_n (by decide)).trans (rfl)) ?_
            refine z_if_neT gi_159_4 (by omega) (by omega) ?_
            refine z_aload0 gi_159_10 ?_
            refine z_aload0 gi_159_11 ?_
            refine z_getR (r := 57) gi_159_12 gk_50 (hRr _ rm_50_10 (by decide)) ?_
            refine z_aload0 gi_159_15 ?_
            refine z_getI (v := J 29 5) gi_159_16 gk_50 ((zU_n (by decide)).trans (c1.symm)) ?_
            refine z_iald (v := J 57 (J 29 5)) gi_159_19 gk_57 (by decide) (by omega) ((zU_n (by decide)).trans (rfl)) ?_
            refine z_aload0 gi_159_20 ?_
            refine z_getR (r := 58) gi_159_21 gk_50 (hRr _ rm_50_11 (by decide)) ?_
            refine z_aload0 gi_159_24 ?_
            refine z_getI (v := J 29 5) gi_159_25 gk_50 ((zU_n (by decide)).trans (c1.symm)) ?_
            refine z_iald (v := J 58 (J 29 5)) gi_159_28 gk_58 (by decide) (by omega) ((zU_n (by decide)).trans (rfl)) ?_
            refine z_aload0 gi_159_29 ?_
            refine z_getR (r := 60) gi_159_30 gk_50 (hRr _ rm_50_13 (by decide)) ?_
            refine z_aload0 gi_159_33 ?_
            refine z_getI (v := J 29 5) gi_159_34 gk_50 ((zU_n (by decide)).trans (c1.symm)) ?_
            refine z_iald (v := J 60 (J 29 5)) gi_159_37 gk_60 (by decide) (by omega) ((zU_n (by decide)).trans (rfl)) ?_
            refine z_cV3 gi_159_38 gk_50 go_156 (Nat.le_of_ble_eq_true rfl) gc_156_RIII ?_
            refine z_iload1 gi_156_0 ?_
            refine z_sw (T := [((0 : Int), 36), ((1 : Int), 46), ((2 : Int), 56), ((3 : Int), 66), ((4 : Int), 76)]) gi_156_1 (by omega) rfl (fun q hq8 hxhq8 => ?_) (fun hq8 => ?_)
            · simp only [List.mem_cons, List.not_mem_nil, or_false] at hq8
              rcases hq8 with rfl | rfl | rfl | rfl | rfl
              · have hxhq8 : J 57 (J 29 5) = 0 := hxhq8
                refine z_aload0 gi_156_36 ?_
                refine z_getR (r := 51) gi_156_37 gk_50 (hRr _ rm_50_2 (by decide)) ?_
                refine z_iload2 gi_156_40 ?_
                refine z_iload3 gi_156_41 ?_
                refine z_iast (e := J 60 (J 29 5)) gi_156_42 gk_51 (by decide) (by omega) rfl ?_
                refine z_goto gi_156_43 ?_
                refine z_vret gi_156_95 gr_156 ?_
                show zW _ _ _ _ _ _ _ _ _ _
                refine z_aload0 gi_159_41 ?_
                refine z_dup gi_159_42 rfl ?_
                refine z_getI (v := J 29 5) gi_159_43 gk_50 ((zU_n (by decide)).trans ((zU_n (by decide)).trans (c1.symm))) ?_
                refine z_pushJ gp_159_46 ?_
                refine z_iadd (e := (J 29 5) + 1) gi_159_47 rfl ?_
                refine z_putI (y := 8) gi_159_48 rfl gk_50 ?_
                refine z_aload0 gi_159_51 ?_
                refine z_dup gi_159_52 rfl ?_
                refine z_getI (v := J 50 9) gi_159_53 gk_50 ((zU_x (by decide)).trans ((zU_n (by decide)).trans ((zU_n (by decide)).trans (rfl)))) ?_
                refine z_pushJ gp_159_56 ?_
                refine z_isub (e := (J 50 9) - 1) gi_159_57 rfl ?_
                refine z_putI (y := 9) gi_159_58 rfl gk_50 ?_
                refine z_aload0 gi_159_61 ?_
                refine z_getI (v := (J 50 9) - 1) gi_159_62 gk_50 (zU_e) ?_
                refine z_iret gi_159_65 gr_159 ?_
                refine ⟨?_, ?_⟩
                · first | rfl | exact congrArg (fun v => some (zi v)) (by omega) | (exfalso; omega)
                · exfalso
                  omega
              · have hxhq8 : J 57 (J 29 5) = 1 := hxhq8
                refine z_aload0 gi_156_46 ?_
                refine z_getR (r := 52) gi_156_47 gk_50 (hRr _ rm_50_3 (by decide)) ?_
                refine z_iload2 gi_156_50 ?_
                refine z_iload3 gi_156_51 ?_
                refine z_iast (e := J 60 (J 29 5)) gi_156_52 gk_52 (by decide) (by omega) rfl ?_
                refine z_goto gi_156_53 ?_
                refine z_vret gi_156_95 gr_156 ?_
                show zW _ _ _ _ _ _ _ _ _ _
                refine z_aload0 gi_159_41 ?_
                refine z_dup gi_159_42 rfl ?_
                refine z_getI (v := J 29 5) gi_159_43 gk_50 ((zU_n (by decide)).trans ((zU_n (by decide)).trans (c1.symm))) ?_
                refine z_pushJ gp_159_46 ?_
                refine z_iadd (e := (J 29 5) + 1) gi_159_47 rfl ?_
                refine z_putI (y := 8) gi_159_48 rfl gk_50 ?_
                refine z_aload0 gi_159_51 ?_
                refine z_dup gi_159_52 rfl ?_
                refine z_getI (v := J 50 9) gi_159_53 gk_50 ((zU_x (by decide)).trans ((zU_n (by decide)).trans ((zU_n (by decide)).trans (rfl)))) ?_
                refine z_pushJ gp_159_56 ?_
                refine z_isub (e := (J 50 9) - 1) gi_159_57 rfl ?_
                refine z_putI (y := 9) gi_159_58 rfl gk_50 ?_
                refine z_aload0 gi_159_61 ?_
                refine z_getI (v := (J 50 9) - 1) gi_159_62 gk_50 (zU_e) ?_
                refine z_iret gi_159_65 gr_159 ?_
                refine ⟨?_, ?_⟩
                · first | rfl | exact congrArg (fun v => some (zi v)) (by omega) | (exfalso; omega)
                · exfalso
                  omega
              · have hxhq8 : J 57 (J 29 5) = 2 := hxhq8
                refine z_aload0 gi_156_56 ?_
                refine z_getR (r := 53) gi_156_57 gk_50 (hRr _ rm_50_4 (by decide)) ?_
                refine z_iload2 gi_156_60 ?_
                refine z_iload3 gi_156_61 ?_
                refine z_iast (e := J 60 (J 29 5)) gi_156_62 gk_53 (by decide) (by omega) rfl ?_
                refine z_goto gi_156_63 ?_
                refine z_vret gi_156_95 gr_156 ?_
                show zW _ _ _ _ _ _ _ _ _ _
                refine z_aload0 gi_159_41 ?_
                refine z_dup gi_159_42 rfl ?_
                refine z_getI (v := J 29 5) gi_159_43 gk_50 ((zU_n (by decide)).trans ((zU_n (by decide)).trans (c1.symm))) ?_
                refine z_pushJ gp_159_46 ?_
                refine z_iadd (e := (J 29 5) + 1) gi_159_47 rfl ?_
                refine z_putI (y := 8) gi_159_48 rfl gk_50 ?_
                refine z_aload0 gi_159_51 ?_
                refine z_dup gi_159_52 rfl ?_
                refine z_getI (v := J 50 9) gi_159_53 gk_50 ((zU_x (by decide)).trans ((zU_n (by decide)).trans ((zU_n (by decide)).trans (rfl)))) ?_
                refine z_pushJ gp_159_56 ?_
                refine z_isub (e := (J 50 9) - 1) gi_159_57 rfl ?_
                refine z_putI (y := 9) gi_159_58 rfl gk_50 ?_
                refine z_aload0 gi_159_61 ?_
                refine z_getI (v := (J 50 9) - 1) gi_159_62 gk_50 (zU_e) ?_
                refine z_iret gi_159_65 gr_159 ?_
                refine ⟨?_, ?_⟩
                · first | rfl | exact congrArg (fun v => some (zi v)) (by omega) | (exfalso; omega)
                · exfalso
                  omega
              · have hxhq8 : J 57 (J 29 5) = 3 := hxhq8
                refine z_aload0 gi_156_66 ?_
                refine z_getR (r := 54) gi_156_67 gk_50 (hRr _ rm_50_5 (by decide)) ?_
                refine z_iload2 gi_156_70 ?_
                refine z_iload3 gi_156_71 ?_
                refine z_iast (e := J 60 (J 29 5)) gi_156_72 gk_54 (by decide) (by omega) rfl ?_
                refine z_goto gi_156_73 ?_
                refine z_vret gi_156_95 gr_156 ?_
                show zW _ _ _ _ _ _ _ _ _ _
                refine z_aload0 gi_159_41 ?_
                refine z_dup gi_159_42 rfl ?_
                refine z_getI (v := J 29 5) gi_159_43 gk_50 ((zU_n (by decide)).trans ((zU_n (by decide)).trans (c1.symm))) ?_
                refine z_pushJ gp_159_46 ?_
                refine z_iadd (e := (J 29 5) + 1) gi_159_47 rfl ?_
                refine z_putI (y := 8) gi_159_48 rfl gk_50 ?_
                refine z_aload0 gi_159_51 ?_
                refine z_dup gi_159_52 rfl ?_
                refine z_getI (v := J 50 9) gi_159_53 gk_50 ((zU_x (by decide)).trans ((zU_n (by decide)).trans ((zU_n (by decide)).trans (rfl)))) ?_
                refine z_pushJ gp_159_56 ?_
                refine z_isub (e := (J 50 9) - 1) gi_159_57 rfl ?_
                refine z_putI (y := 9) gi_159_58 rfl gk_50 ?_
                refine z_aload0 gi_159_61 ?_
                refine z_getI (v := (J 50 9) - 1) gi_159_62 gk_50 (zU_e) ?_
                refine z_iret gi_159_65 gr_159 ?_
                refine ⟨?_, ?_⟩
                · first | rfl | exact congrArg (fun v => some (zi v)) (by omega) | (exfalso; omega)
                · exfalso
                  omega
              · have hxhq8 : J 57 (J 29 5) = 4 := hxhq8
                refine z_aload0 gi_156_76 ?_
                refine z_getR (r := 55) gi_156_77 gk_50 (hRr _ rm_50_6 (by decide)) ?_
                refine z_iload2 gi_156_80 ?_
                refine z_iload3 gi_156_81 ?_
                refine z_iast (e := J 60 (J 29 5)) gi_156_82 gk_55 (by decide) (by omega) rfl ?_
                refine z_goto gi_156_83 ?_
                refine z_vret gi_156_95 gr_156 ?_
                show zW _ _ _ _ _ _ _ _ _ _
                refine z_aload0 gi_159_41 ?_
                refine z_dup gi_159_42 rfl ?_
                refine z_getI (v := J 29 5) gi_159_43 gk_50 ((zU_n (by decide)).trans ((zU_n (by decide)).trans (c1.symm))) ?_
                refine z_pushJ gp_159_46 ?_
                refine z_iadd (e := (J 29 5) + 1) gi_159_47 rfl ?_
                refine z_putI (y := 8) gi_159_48 rfl gk_50 ?_
                refine z_aload0 gi_159_51 ?_
                refine z_dup gi_159_52 rfl ?_
                refine z_getI (v := J 50 9) gi_159_53 gk_50 ((zU_x (by decide)).trans ((zU_n (by decide)).trans ((zU_n (by decide)).trans (rfl)))) ?_
                refine z_pushJ gp_159_56 ?_
                refine z_isub (e := (J 50 9) - 1) gi_159_57 rfl ?_
                refine z_putI (y := 9) gi_159_58 rfl gk_50 ?_
                refine z_aload0 gi_159_61 ?_
                refine z_getI (v := (J 50 9) - 1) gi_159_62 gk_50 (zU_e) ?_
                refine z_iret gi_159_65 gr_159 ?_
                refine ⟨?_, ?_⟩
                · first | rfl | exact congrArg (fun v => some (zi v)) (by omega) | (exfalso; omega)
                · exfalso
                  omega
            · have hq8 : ∀ q ∈ [((0 : Int), 36), ((1 : Int), 46), ((2 : Int), 56), ((3 : Int), 66), ((4 : Int), 76)], ¬ J 57 (J 29 5) = q.1 := hq8
              have hq8_0 : ¬ J 57 (J 29 5) = 0 := hq8 (0, 36) (by simp)
              have hq8_1 : ¬ J 57 (J 29 5) = 1 := hq8 (1, 46) (by simp)
              have hq8_2 : ¬ J 57 (J 29 5) = 2 := hq8 (2, 56) (by simp)
              have hq8_3 : ¬ J 57 (J 29 5) = 3 := hq8 (3, 66) (by simp)
              have hq8_4 : ¬ J 57 (J 29 5) = 4 := hq8 (4, 76) (by simp)
              refine z_aload0 gi_156_86 ?_
              refine z_getR (r := 56) gi_156_87 gk_50 (hRr _ rm_50_7 (by decide)) ?_
              refine z_iload1 gi_156_90 ?_
              refine z_pushJ gp_156_91 ?_
              refine z_isub (e := (J 57 (J 29 5)) - 5) gi_156_92 rfl ?_
              refine z_iload3 gi_156_93 ?_
              refine z_iast (e := J 60 (J 29 5)) gi_156_94 gk_56 (by decide) (by omega) rfl ?_
              refine z_vret gi_156_95 gr_156 ?_
              show zW _ _ _ _ _ _ _ _ _ _
              refine z_aload0 gi_159_41 ?_
              refine z_dup gi_159_42 rfl ?_
              refine z_getI (v := J 29 5) gi_159_43 gk_50 ((zU_n (by decide)).trans ((zU_n (by decide)).trans (c1.symm))) ?_
              refine z_pushJ gp_159_46 ?_
              refine z_iadd (e := (J 29 5) + 1) gi_159_47 rfl ?_
              refine z_putI (y := 8) gi_159_48 rfl gk_50 ?_
              refine z_aload0 gi_159_51 ?_
              refine z_dup gi_159_52 rfl ?_
              refine z_getI (v := J 50 9) gi_159_53 gk_50 ((zU_x (by decide)).trans ((zU_n (by decide)).trans ((zU_n (by decide)).trans (rfl)))) ?_
              refine z_pushJ gp_159_56 ?_
              refine z_isub (e := (J 50 9) - 1) gi_159_57 rfl ?_
              refine z_putI (y := 9) gi_159_58 rfl gk_50 ?_
              refine z_aload0 gi_159_61 ?_
              refine z_getI (v := (J 50 9) - 1) gi_159_62 gk_50 (zU_e) ?_
              refine z_iret gi_159_65 gr_159 ?_
              refine ⟨?_, ?_⟩
              · first | rfl | exact congrArg (fun v => some (zi v)) (by omega) | (exfalso; omega)
              · exfalso
                omega
          · refine z_pushJ gp_87_12 ?_
            refine z_goto gi_87_13 ?_
            refine z_bret1 gi_87_17 gr_87 ?_
            show zW _ _ _ _ _ _ _ _ _ _
            refine z_if_eqF gi_89_22 zr_1 (by decide) ?_
            refine z_iload1 gi_89_25 ?_
            refine z_pushJ gp_89_26 ?_
            refine z_imul (e := (J 30 (J 29 5)) * 5) gi_89_27 rfl ?_
            refine z_iload2 gi_89_28 ?_
            refine z_iadd (e := (J 30 (J 29 5)) * 5 + (J 31 (J 29 5))) gi_89_29 rfl ?_
            refine z_goto gi_89_30 ?_
            refine z_iret gi_89_34 gr_89 ?_
            show zW _ _ _ _ _ _ _ _ _ _
            refine z_istore (ls1 := [some (.ref 8), some (zi (J 30 (J 29 5))), some (zi (J 31 (J 29 5))), some (zi (J 33 (J 29 5))), some (zi ((J 30 (J 29 5)) * 5 + (J 31 (J 29 5))))]) gi_91_6 rfl ?_
            refine z_iload4 gi_91_8 ?_
            refine z_if_lt gi_91_10 (by omega) (fun h8 => ?_) (fun h8 => ?_)
            · refine z_vret gi_91_21 gr_91 ?_
              show zW _ _ _ _ _ _ _ _ _ _
              refine z_aload0 gi_17_47 ?_
              refine z_dup gi_17_48 rfl ?_
              refine z_getI (v := J 29 5) gi_17_49 gk_29 (rfl) ?_
              refine z_pushJ gp_17_52 ?_
              refine z_iadd (e := (J 29 5) + 1) gi_17_53 rfl ?_
              refine z_putI (y := 5) gi_17_54 rfl gk_29 ?_
              refine z_pushJ gp_17_57 ?_
              refine z_bret1 gi_17_58 gr_17 ?_
              show zW _ _ _ _ _ _ _ _ _ _
              refine z_if_eqF gi_132_7 zr_1 (by decide) ?_
              refine z_aload0 gi_132_10 ?_
              refine z_getR (r := 29) gi_132_11 gk_0 (hR _ rm_0_9) ?_
              refine z_getI (v := J 29 6) gi_132_14 gk_29 ((zU_x (by decide)).trans (rfl)) ?_
              refine z_aload0 gi_132_17 ?_
              refine z_getR (r := 29) gi_132_18 gk_0 (hR _ rm_0_9) ?_
              refine z_getI (v := (J 29 5) + 1) gi_132_21 gk_29 (zU_e) ?_
              refine z_isub (e := (J 29 6) - ((J 29 5) + 1)) gi_132_24 rfl ?_
              refine z_goto gi_132_25 ?_
              refine z_iret gi_132_30 gr_132 ?_
              refine ⟨_, rfl, ?_⟩
              show zW _ _ _ _ [some (.ref 50)] _ _ _ _ _
              refine z_aload0 gi_159_0 ?_
              refine z_getI (v := J 50 9) gi_159_1 gk_50 ((zU_n (by decide)).trans (rfl)) ?_
              refine z_if_neT gi_159_4 (by omega) (by omega) ?_
              refine z_aload0 gi_159_10 ?_
              refine z_aload0 gi_159_11 ?_
              refine z_getR (r := 57) gi_159_12 gk_50 (hRr _ rm_50_10 (by decide)) ?_
              refine z_aload0 gi_159_15 ?_
              refine z_getI (v := J 29 5) gi_159_16 gk_50 ((zU_n (by decide)).trans (c1.symm)) ?_
              refine z_iald (v := J 57 (J 29 5)) gi_159_19 gk_57 (by decide) (by omega) ((zU_n (by decide)).trans (rfl)) ?_
              refine z_aload0 gi_159_20 ?_
              refine z_getR (r := 58) gi_159_21 gk_50 (hRr _ rm_50_11 (by decide)) ?_
              refine z_aload0 gi_159_24 ?_
              refine z_getI (v := J 29 5) gi_159_25 gk_50 ((zU_n (by decide)).trans (c1.symm)) ?_
              refine z_iald (v := J 58 (J 29 5)) gi_159_28 gk_58 (by decide) (by omega) ((zU_n (by decide)).trans (rfl)) ?_
              refine z_aload0 gi_159_29 ?_
              refine z_getR (r := 60) gi_159_30 gk_50 (hRr _ rm_50_13 (by decide)) ?_
              refine z_aload0 gi_159_33 ?_
              refine z_getI (v := J 29 5) gi_159_34 gk_50 ((zU_n (by decide)).trans (c1.symm)) ?_
              refine z_iald (v := J 60 (J 29 5)) gi_159_37 gk_60 (by decide) (by omega) ((zU_n (by decide)).trans (rfl)) ?_
              refine z_cV3 gi_159_38 gk_50 go_156 (Nat.le_of_ble_eq_true rfl) gc_156_RIII ?_
              refine z_iload1 gi_156_0 ?_
              refine z_sw (T := [((0 : Int), 36), ((1 : Int), 46), ((2 : Int), 56), ((3 : Int), 66), ((4 : Int), 76)]) gi_156_1 (by omega) rfl (fun q hq9 hxhq9 => ?_) (fun hq9 => ?_)
              · simp only [List.mem_cons, List.not_mem_nil, or_false] at hq9
                rcases hq9 with rfl | rfl | rfl | rfl | rfl
                · have hxhq9 : J 57 (J 29 5) = 0 := hxhq9
                  refine z_aload0 gi_156_36 ?_
                  refine z_getR (r := 51) gi_156_37 gk_50 (hRr _ rm_50_2 (by decide)) ?_
                  refine z_iload2 gi_156_40 ?_
                  refine z_iload3 gi_156_41 ?_
                  refine z_iast (e := J 60 (J 29 5)) gi_156_42 gk_51 (by decide) (by omega) rfl ?_
                  refine z_goto gi_156_43 ?_
                  refine z_vret gi_156_95 gr_156 ?_
                  show zW _ _ _ _ _ _ _ _ _ _
                  refine z_aload0 gi_159_41 ?_
                  refine z_dup gi_159_42 rfl ?_
                  refine z_getI (v := J 29 5) gi_159_43 gk_50 ((zU_n (by decide)).trans ((zU_n (by decide)).trans (c1.symm))) ?_
                  refine z_pushJ gp_159_46 ?_
                  refine z_iadd (e := (J 29 5) + 1) gi_159_47 rfl ?_
                  refine z_putI (y := 8) gi_159_48 rfl gk_50 ?_
                  refine z_aload0 gi_159_51 ?_
                  refine z_dup gi_159_52 rfl ?_
                  refine z_getI (v := J 50 9) gi_159_53 gk_50 ((zU_x (by decide)).trans ((zU_n (by decide)).trans ((zU_n (by decide)).trans (rfl)))) ?_
                  refine z_pushJ gp_159_56 ?_
                  refine z_isub (e := (J 50 9) - 1) gi_159_57 rfl ?_
                  refine z_putI (y := 9) gi_159_58 rfl gk_50 ?_
                  refine z_aload0 gi_159_61 ?_
                  refine z_getI (v := (J 50 9) - 1) gi_159_62 gk_50 (zU_e) ?_
                  refine z_iret gi_159_65 gr_159 ?_
                  refine ⟨?_, ?_⟩
                  · first | rfl | exact congrArg (fun v => some (zi v)) (by omega) | (exfalso; omega)
                  · exfalso
                    omega
                · have hxhq9 : J 57 (J 29 5) = 1 := hxhq9
                  refine z_aload0 gi_156_46 ?_
                  refine z_getR (r := 52) gi_156_47 gk_50 (hRr _ rm_50_3 (by decide)) ?_
                  refine z_iload2 gi_156_50 ?_
                  refine z_iload3 gi_156_51 ?_
                  refine z_iast (e := J 60 (J 29 5)) gi_156_52 gk_52 (by decide) (by omega) rfl ?_
                  refine z_goto gi_156_53 ?_
                  refine z_vret gi_156_95 gr_156 ?_
                  show zW _ _ _ _ _ _ _ _ _ _
                  refine z_aload0 gi_159_41 ?_
                  refine z_dup gi_159_42 rfl ?_
                  refine z_getI (v := J 29 5) gi_159_43 gk_50 ((zU_n (by decide)).trans ((zU_n (by decide)).trans (c1.symm))) ?_
                  refine z_pushJ gp_159_46 ?_
                  refine z_iadd (e := (J 29 5) + 1) gi_159_47 rfl ?_
                  refine z_putI (y := 8) gi_159_48 rfl gk_50 ?_
                  refine z_aload0 gi_159_51 ?_
                  refine z_dup gi_159_52 rfl ?_
                  refine z_getI (v := J 50 9) gi_159_53 gk_50 ((zU_x (by decide)).trans ((zU_n (by decide)).trans ((zU_n (by decide)).trans (rfl)))) ?_
                  refine z_pushJ gp_159_56 ?_
                  refine z_isub (e := (J 50 9) - 1) gi_159_57 rfl ?_
                  refine z_putI (y := 9) gi_159_58 rfl gk_50 ?_
                  refine z_aload0 gi_159_61 ?_
                  refine z_getI (v := (J 50 9) - 1) gi_159_62 gk_50 (zU_e) ?_
                  refine z_iret gi_159_65 gr_159 ?_
                  refine ⟨?_, ?_⟩
                  · first | rfl | exact congrArg (fun v => some (zi v)) (by omega) | (exfalso; omega)
                  · exfalso
                    omega
                · have hxhq9 : J 57 (J 29 5) = 2 := hxhq9
                  refine z_aload0 gi_156_56 ?_
                  refine z_getR (r := 53) gi_156_57 gk_50 (hRr _ rm_50_4 (by decide)) ?_
                  refine z_iload2 gi_156_60 ?_
                  refine z_iload3 gi_156_61 ?_
                  refine z_iast (e := J 60 (J 29 5)) gi_156_62 gk_53 (by decide) (by omega) rfl ?_
                  refine z_goto gi_156_63 ?_
                  refine z_vret gi_156_95 gr_156 ?_
                  show zW _ _ _ _ _ _ _ _ _ _
                  refine z_aload0 gi_159_41 ?_
                  refine z_dup gi_159_42 rfl ?_
                  refine z_getI (v := J 29 5) gi_159_43 gk_50 ((zU_n (by decide)).trans ((zU_n (by decide)).trans (c1.symm))) ?_
                  refine z_pushJ gp_159_46 ?_
                  refine z_iadd (e := (J 29 5) + 1) gi_159_47 rfl ?_
                  refine z_putI (y := 8) gi_159_48 rfl gk_50 ?_
                  refine z_aload0 gi_159_51 ?_
                  refine z_dup gi_159_52 rfl ?_
                  refine z_getI (v := J 50 9) gi_159_53 gk_50 ((zU_x (by decide)).trans ((zU_n (by decide)).trans ((zU_n (by decide)).trans (rfl)))) ?_
                  refine z_pushJ gp_159_56 ?_
                  refine z_isub (e := (J 50 9) - 1) gi_159_57 rfl ?_
                  refine z_putI (y := 9) gi_159_58 rfl gk_50 ?_
                  refine z_aload0 gi_159_61 ?_
                  refine z_getI (v := (J 50 9) - 1) gi_159_62 gk_50 (zU_e) ?_
                  refine z_iret gi_159_65 gr_159 ?_
                  refine ⟨?_, ?_⟩
                  · first | rfl | exact congrArg (fun v => some (zi v)) (by omega) | (exfalso; omega)
                  · exfalso
                    omega
                · have hxhq9 : J 57 (J 29 5) = 3 := hxhq9
                  refine z_aload0 gi_156_66 ?_
                  refine z_getR (r := 54) gi_156_67 gk_50 (hRr _ rm_50_5 (by decide)) ?_
                  refine z_iload2 gi_156_70 ?_
                  refine z_iload3 gi_156_71 ?_
                  refine z_iast (e := J 60 (J 29 5)) gi_156_72 gk_54 (by decide) (by omega) rfl ?_
                  refine z_goto gi_156_73 ?_
                  refine z_vret gi_156_95 gr_156 ?_
                  show zW _ _ _ _ _ _ _ _ _ _
                  refine z_aload0 gi_159_41 ?_
                  refine z_dup gi_159_42 rfl ?_
                  refine z_getI (v := J 29 5) gi_159_43 gk_50 ((zU_n (by decide)).trans ((zU_n (by decide)).trans (c1.symm))) ?_
                  refine z_pushJ gp_159_46 ?_
                  refine z_iadd (e := (J 29 5) + 1) gi_159_47 rfl ?_
                  refine z_putI (y := 8) gi_159_48 rfl gk_50 ?_
                  refine z_aload0 gi_159_51 ?_
                  refine z_dup gi_159_52 rfl ?_
                  refine z_getI (v := J 50 9) gi_159_53 gk_50 ((zU_x (by decide)).trans ((zU_n (by decide)).trans ((zU_n (by decide)).trans (rfl)))) ?_
                  refine z_pushJ gp_159_56 ?_
                  refine z_isub (e := (J 50 9) - 1) gi_159_57 rfl ?_
                  refine z_putI (y := 9) gi_159_58 rfl gk_50 ?_
                  refine z_aload0 gi_159_61 ?_
                  refine z_getI (v := (J 50 9) - 1) gi_159_62 gk_50 (zU_e) ?_
                  refine z_iret gi_159_65 gr_159 ?_
                  refine ⟨?_, ?_⟩
                  · first | rfl | exact congrArg (fun v => some (zi v)) (by omega) | (exfalso; omega)
                  · exfalso
                    omega
                · have hxhq9 : J 57 (J 29 5) = 4 := hxhq9
                  refine z_aload0 gi_156_76 ?_
                  refine z_getR (r := 55) gi_156_77 gk_50 (hRr _ rm_50_6 (by decide)) ?_
                  refine z_iload2 gi_156_80 ?_
                  refine z_iload3 gi_156_81 ?_
                  refine z_iast (e := J 60 (J 29 5)) gi_156_82 gk_55 (by decide) (by omega) rfl ?_
                  refine z_goto gi_156_83 ?_
                  refine z_vret gi_156_95 gr_156 ?_
                  show zW _ _ _ _ _ _ _ _ _ _
                  refine z_aload0 gi_159_41 ?_
                  refine z_dup gi_159_42 rfl ?_
                  refine z_getI (v := J 29 5) gi_159_43 gk_50 ((zU_n (by decide)).trans ((zU_n (by decide)).trans (c1.symm))) ?_
                  refine z_pushJ gp_159_46 ?_
                  refine z_iadd (e := (J 29 5) + 1) gi_159_47 rfl ?_
                  refine z_putI (y := 8) gi_159_48 rfl gk_50 ?_
                  refine z_aload0 gi_159_51 ?_
                  refine z_dup gi_159_52 rfl ?_
                  refine z_getI (v := J 50 9) gi_159_53 gk_50 ((zU_x (by decide)).trans ((zU_n (by decide)).trans ((zU_n (by decide)).trans (rfl)))) ?_
                  refine z_pushJ gp_159_56 ?_
                  refine z_isub (e := (J 50 9) - 1) gi_159_57 rfl ?_
                  refine z_putI (y := 9) gi_159_58 rfl gk_50 ?_
                  refine z_aload0 gi_159_61 ?_
                  refine z_getI (v := (J 50 9) - 1) gi_159_62 gk_50 (zU_e) ?_
                  refine z_iret gi_159_65 gr_159 ?_
                  refine ⟨?_, ?_⟩
                  · first | rfl | exact congrArg (fun v => some (zi v)) (by omega) | (exfalso; omega)
                  · exfalso
                    omega
              · have hq9 : ∀ q ∈ [((0 : Int), 36), ((1 : Int), 46), ((2 : Int), 56), ((3 : Int), 66), ((4 : Int), 76)], ¬ J 57 (J 29 5) = q.1 := hq9
                have hq9_0 : ¬ J 57 (J 29 5) = 0 := hq9 (0, 36) (by simp)
                have hq9_1 : ¬ J 57 (J 29 5) = 1 := hq9 (1, 46) (by simp)
                have hq9_2 : ¬ J 57 (J 29 5) = 2 := hq9 (2, 56) (by simp)
                have hq9_3 : ¬ J 57 (J 29 5) = 3 := hq9 (3, 66) (by simp)
                have hq9_4 : ¬ J 57 (J 29 5) = 4 := hq9 (4, 76) (by simp)
                refine z_aload0 gi_156_86 ?_
                refine z_getR (r := 56) gi_156_87 gk_50 (hRr _ rm_50_7 (by decide)) ?_
                refine z_iload1 gi_156_90 ?_
                refine z_pushJ gp_156_91 ?_
                refine z_isub (e := (J 57 (J 29 5)) - 5) gi_156_92 rfl ?_
                refine z_iload3 gi_156_93 ?_
                refine z_iast (e := J 60 (J 29 5)) gi_156_94 gk_56 (by decide) (by omega) rfl ?_
                refine z_vret gi_156_95 gr_156 ?_
                show zW _ _ _ _ _ _ _ _ _ _
                refine z_aload0 gi_159_41 ?_
                refine z_dup gi_159_42 rfl ?_
                refine z_getI (v := J 29 5) gi_159_43 gk_50 ((zU_n (by decide)).trans ((zU_n (by decide)).trans (c1.symm))) ?_
                refine z_pushJ gp_159_46 ?_
                refine z_iadd (e := (J 29 5) + 1) gi_159_47 rfl ?_
                refine z_putI (y := 8) gi_159_48 rfl gk_50 ?_
                refine z_aload0 gi_159_51 ?_
                refine z_dup gi_159_52 rfl ?_
                refine z_getI (v := J 50 9) gi_159_53 gk_50 ((zU_x (by decide)).trans ((zU_n (by decide)).trans ((zU_n (by decide)).trans (rfl)))) ?_
                refine z_pushJ gp_159_56 ?_
                refine z_isub (e := (J 50 9) - 1) gi_159_57 rfl ?_
                refine z_putI (y := 9) gi_159_58 rfl gk_50 ?_
                refine z_aload0 gi_159_61 ?_
                refine z_getI (v := (J 50 9) - 1) gi_159_62 gk_50 (zU_e) ?_
                refine z_iret gi_159_65 gr_159 ?_
                refine ⟨?_, ?_⟩
                · first | rfl | exact congrArg (fun v => some (zi v)) (by omega) | (exfalso; omega)
                · exfalso
                  omega
            · refine z_aload0 gi_91_13 ?_
              refine z_getR (r := 9) gi_91_14 gk_8 (hR _ rm_8_1) ?_
              refine z_iload4 gi_91_17 ?_
              refine z_iload3 gi_91_19 ?_
              refine z_iast (e := J 33 (J 29 5)) gi_91_20 gk_9 (by decide) (by omega) rfl ?_
              refine z_vret gi_91_21 gr_91 ?_
              show zW _ _ _ _ _ _ _ _ _ _
              refine z_aload0 gi_17_47 ?_
              refine z_dup gi_17_48 rfl ?_
              refine z_getI (v := J 29 5) gi_17_49 gk_29 ((zU_n (by decide)).trans (rfl)) ?_
              refine z_pushJ gp_17_52 ?_
              refine z_iadd (e := (J 29 5) + 1) gi_17_53 rfl ?_
              refine z_putI (y := 5) gi_17_54 rfl gk_29 ?_
              refine z_pushJ gp_17_57 ?_
              refine z_bret1 gi_17_58 gr_17 ?_
              show zW _ _ _ _ _ _ _ _ _ _
              refine z_if_eqF gi_132_7 zr_1 (by decide) ?_
              refine z_aload0 gi_132_10 ?_
              refine z_getR (r := 29) gi_132_11 gk_0 (hR _ rm_0_9) ?_
              refine z_getI (v := J 29 6) gi_132_14 gk_29 ((zU_x (by decide)).trans ((zU_n (by decide)).trans (rfl))) ?_
              refine z_aload0 gi_132_17 ?_
              refine z_getR (r := 29) gi_132_18 gk_0 (hR _ rm_0_9) ?_
              refine z_getI (v := (J 29 5) + 1) gi_132_21 gk_29 (zU_e) ?_
              refine z_isub (e := (J 29 6) - ((J 29 5) + 1)) gi_132_24 rfl ?_
              refine z_goto gi_132_25 ?_
              refine z_iret gi_132_30 gr_132 ?_
              refine ⟨_, rfl, ?_⟩
              show zW _ _ _ _ [some (.ref 50)] _ _ _ _ _
              refine z_aload0 gi_159_0 ?_
              refine z_getI (v := J 50 9) gi_159_1 gk_50 ((zU_n (by decide)).trans ((zU_n (by decide)).trans (rfl))) ?_
              refine z_if_neT gi_159_4 (by omega) (by omega) ?_
              refine z_aload0 gi_159_10 ?_
              refine z_aload0 gi_159_11 ?_
              refine z_getR (r := 57) gi_159_12 gk_50 (hRr _ rm_50_10 (by decide)) ?_
              refine z_aload0 gi_159_15 ?_
              refine z_getI (v := J 29 5) gi_159_16 gk_50 ((zU_n (by decide)).trans ((zU_n (by decide)).trans (c1.symm))) ?_
              refine z_iald (v := J 57 (J 29 5)) gi_159_19 gk_57 (by decide) (by omega) ((zU_n (by decide)).trans ((zU_n (by decide)).trans (rfl))) ?_
              refine z_aload0 gi_159_20 ?_
              refine z_getR (r := 58) gi_159_21 gk_50 (hRr _ rm_50_11 (by decide)) ?_
              refine z_aload0 gi_159_24 ?_
              refine z_getI (v := J 29 5) gi_159_25 gk_50 ((zU_n (by decide)).trans ((zU_n (by decide)).trans (c1.symm))) ?_
              refine z_iald (v := J 58 (J 29 5)) gi_159_28 gk_58 (by decide) (by omega) ((zU_n (by decide)).trans ((zU_n (by decide)).trans (rfl))) ?_
              refine z_aload0 gi_159_29 ?_
              refine z_getR (r := 60) gi_159_30 gk_50 (hRr _ rm_50_13 (by decide)) ?_
              refine z_aload0 gi_159_33 ?_
              refine z_getI (v := J 29 5) gi_159_34 gk_50 ((zU_n (by decide)).trans ((zU_n (by decide)).trans (c1.symm))) ?_
              refine z_iald (v := J 60 (J 29 5)) gi_159_37 gk_60 (by decide) (by omega) ((zU_n (by decide)).trans ((zU_n (by decide)).trans (rfl))) ?_
              refine z_cV3 gi_159_38 gk_50 go_156 (Nat.le_of_ble_eq_true rfl) gc_156_RIII ?_
              refine z_iload1 gi_156_0 ?_
              refine z_sw (T := [((0 : Int), 36), ((1 : Int), 46), ((2 : Int), 56), ((3 : Int), 66), ((4 : Int), 76)]) gi_156_1 (by omega) rfl (fun q hq9 hxhq9 => ?_) (fun hq9 => ?_)
              · simp only [List.mem_cons, List.not_mem_nil, or_false] at hq9
                rcases hq9 with rfl | rfl | rfl | rfl | rfl
                · have hxhq9 : J 57 (J 29 5) = 0 := hxhq9
                  refine z_aload0 gi_156_36 ?_
                  refine z_getR (r := 51) gi_156_37 gk_50 (hRr _ rm_50_2 (by decide)) ?_
                  refine z_iload2 gi_156_40 ?_
                  refine z_iload3 gi_156_41 ?_
                  refine z_iast (e := J 60 (J 29 5)) gi_156_42 gk_51 (by decide) (by omega) rfl ?_
                  refine z_goto gi_156_43 ?_
                  refine z_vret gi_156_95 gr_156 ?_
                  show zW _ _ _ _ _ _ _ _ _ _
                  refine z_aload0 gi_159_41 ?_
                  refine z_dup gi_159_42 rfl ?_
                  refine z_getI (v := J 29 5) gi_159_43 gk_50 ((zU_n (by decide)).trans ((zU_n (by decide)).trans ((zU_n (by decide)).trans (c1.symm)))) ?_
                  refine z_pushJ gp_159_46 ?_
                  refine z_iadd (e := (J 29 5) + 1) gi_159_47 rfl ?_
                  refine z_putI (y := 8) gi_159_48 rfl gk_50 ?_
                  refine z_aload0 gi_159_51 ?_
                  refine z_dup gi_159_52 rfl ?_
                  refine z_getI (v := J 50 9) gi_159_53 gk_50 ((zU_x (by decide)).trans ((zU_n (by decide)).trans ((zU_n (by decide)).trans ((zU_n (by decide)).trans (rfl))))) ?_
                  refine z_pushJ gp_159_56 ?_
                  refine z_isub (e := (J 50 9) - 1) gi_159_57 rfl ?_
                  refine z_putI (y := 9) gi_159_58 rfl gk_50 ?_
                  refine z_aload0 gi_159_61 ?_
                  refine z_getI (v := (J 50 9) - 1) gi_159_62 gk_50 (zU_e) ?_
                  refine z_iret gi_159_65 gr_159 ?_
                  refine ⟨?_, ?_⟩
                  · first | rfl | exact congrArg (fun v => some (zi v)) (by omega) | (exfalso; omega)
                  · have hs := (zK_x (a := 50) (x := 9) (v := (J 50 9) - 1) (zK_x (a := 50) (x := 8) (v := (J 29 5) + 1) (zK_u (a := 51) (x := J 58 (J 29 5)) (v := J 60 (J 29 5)) (zK_x (a := 29) (x := 5) (v := (J 29 5) + 1) (zK_u (a := 9) (x := (J 30 (J 29 5)) * 5 + (J 31 (J 29 5))) (v := J 33 (J 29 5)) (zK_r (k := (kL [] [(29, 5), (50, 8), (50, 9)])) (A := J))) rfl)) rfl) rfl)
                    have ev : J 60 (J 29 5) = J 33 (J 29 5) := by omega
                    have hY2 := RelY_k hs (by repeat' constructor) (fun p => by repeat' constructor) (by rw [ev]; exact RelY_p (p := J 30 (J 29 5)) (w := 0) hY (by omega) (by omega) (zFit_c hfit (by omega)) (by omega) rfl (by omega))
                    have hs2 := (zK_u (a := 50) (x := 9) (v := (J 50 9) - 1) (zK_u (a := 50) (x := 8) (v := (J 29 5) + 1) (zK_x (a := 51) (x := J 58 (J 29 5)) (v := J 60 (J 29 5)) (zK_u (a := 29) (x := 5) (v := (J 29 5) + 1) (zK_x (a := 9) (x := (J 30 (J 29 5)) * 5 + (J 31 (J 29 5))) (v := J 33 (J 29 5)) (zK_r (k := (kL [9, 51] [])) (A := J)) rfl)) rfl)))
                    have hC2 := RelC_k hs2 (by repeat' constructor) (fun p => by repeat' constructor) (RelC_redo hC (by omega))
                    have hk := (zK_x (a := 50) (x := 9) (v := (J 50 9) - 1) (zK_x (a := 50) (x := 8) (v := (J 29 5) + 1) (zK_x (a := 51) (x := J 58 (J 29 5)) (v := J 60 (J 29 5)) (zK_x (a := 29) (x := 5) (v := (J 29 5) + 1) (zK_x (a := 9) (x := (J 30 (J 29 5)) * 5 + (J 31 (J 29 5))) (v := J 33 (J 29 5)) (zK_r (k := (kL [9, 51] [(29, 5), (50, 8), (50, 9)])) (A := J)) rfl) rfl) rfl) rfl) rfl)
                    exact ⟨hR, hG, hY2, RelD_k hk (by repeat' constructor) (fun p => by repeat' constructor) hD, RelP_k hk (by repeat' constructor) (fun p => by repeat' constructor) hP, hC2, RelA_k hk (by repeat' constructor) (fun p => by repeat' constructor) hAc, RelS_k hk (zK_r (k := kM)) (fun x j a b => ⟨kL_38 (by decide) (by decide) x j a b, kM_38 x j a b⟩) (fun p => ⟨rfl, rfl, rfl⟩) rfl hS, RelT_k hk (by repeat' constructor) (fun p => by repeat' constructor) hTp, RelX_k hk (by repeat' constructor) (fun p => by repeat' constructor) hX, RelW_k hk ⟨rfl, rfl⟩ trivial hW⟩
                · have hxhq9 : J 57 (J 29 5) = 1 := hxhq9
                  refine z_aload0 gi_156_46 ?_
                  refine z_getR (r := 52) gi_156_47 gk_50 (hRr _ rm_50_3 (by decide)) ?_
                  refine z_iload2 gi_156_50 ?_
                  refine z_iload3 gi_156_51 ?_
                  refine z_iast (e := J 60 (J 29 5)) gi_156_52 gk_52 (by decide) (by omega) rfl ?_
                  refine z_goto gi_156_53 ?_
                  refine z_vret gi_156_95 gr_156 ?_
                  show zW _ _ _ _ _ _ _ _ _ _
                  refine z_aload0 gi_159_41 ?_
                  refine z_dup gi_159_42 rfl ?_
                  refine z_getI (v := J 29 5) gi_159_43 gk_50 ((zU_n (by decide)).trans ((zU_n (by decide)).trans ((zU_n (by decide)).trans (c1.symm)))) ?_
                  refine z_pushJ gp_159_46 ?_
                  refine z_iadd (e := (J 29 5) + 1) gi_159_47 rfl ?_
                  refine z_putI (y := 8) gi_159_48 rfl gk_50 ?_
                  refine z_aload0 gi_159_51 ?_
                  refine z_dup gi_159_52 rfl ?_
                  refine z_getI (v := J 50 9) gi_159_53 gk_50 ((zU_x (by decide)).trans ((zU_n (by decide)).trans ((zU_n (by decide)).trans ((zU_n (by decide)).trans (rfl))))) ?_
                  refine z_pushJ gp_159_56 ?_
                  refine z_isub (e := (J 50 9) - 1) gi_159_57 rfl ?_
                  refine z_putI (y := 9) gi_159_58 rfl gk_50 ?_
                  refine z_aload0 gi_159_61 ?_
                  refine z_getI (v := (J 50 9) - 1) gi_159_62 gk_50 (zU_e) ?_
                  refine z_iret gi_159_65 gr_159 ?_
                  refine ⟨?_, ?_⟩
                  · first | rfl | exact congrArg (fun v => some (zi v)) (by omega) | (exfalso; omega)
                  · have hs := (zK_x (a := 50) (x := 9) (v := (J 50 9) - 1) (zK_x (a := 50) (x := 8) (v := (J 29 5) + 1) (zK_u (a := 52) (x := J 58 (J 29 5)) (v := J 60 (J 29 5)) (zK_x (a := 29) (x := 5) (v := (J 29 5) + 1) (zK_u (a := 9) (x := (J 30 (J 29 5)) * 5 + (J 31 (J 29 5))) (v := J 33 (J 29 5)) (zK_r (k := (kL [] [(29, 5), (50, 8), (50, 9)])) (A := J))) rfl)) rfl) rfl)
                    have ev : J 60 (J 29 5) = J 33 (J 29 5) := by omega
                    have hY2 := RelY_k hs (by repeat' constructor) (fun p => by repeat' constructor) (by rw [ev]; exact RelY_p (p := J 30 (J 29 5)) (w := 1) hY (by omega) (by omega) (zFit_c hfit (by omega)) (by omega) rfl (by omega))
                    have hs2 := (zK_u (a := 50) (x := 9) (v := (J 50 9) - 1) (zK_u (a := 50) (x := 8) (v := (J 29 5) + 1) (zK_x (a := 52) (x := J 58 (J 29 5)) (v := J 60 (J 29 5)) (zK_u (a := 29) (x := 5) (v := (J 29 5) + 1) (zK_x (a := 9) (x := (J 30 (J 29 5)) * 5 + (J 31 (J 29 5))) (v := J 33 (J 29 5)) (zK_r (k := (kL [9, 52] [])) (A := J)) rfl)) rfl)))
                    have hC2 := RelC_k hs2 (by repeat' constructor) (fun p => by repeat' constructor) (RelC_redo hC (by omega))
                    have hk := (zK_x (a := 50) (x := 9) (v := (J 50 9) - 1) (zK_x (a := 50) (x := 8) (v := (J 29 5) + 1) (zK_x (a := 52) (x := J 58 (J 29 5)) (v := J 60 (J 29 5)) (zK_x (a := 29) (x := 5) (v := (J 29 5) + 1) (zK_x (a := 9) (x := (J 30 (J 29 5)) * 5 + (J 31 (J 29 5))) (v := J 33 (J 29 5)) (zK_r (k := (kL [9, 52] [(29, 5), (50, 8), (50, 9)])) (A := J)) rfl) rfl) rfl) rfl) rfl)
                    exact ⟨hR, hG, hY2, RelD_k hk (by repeat' constructor) (fun p => by repeat' constructor) hD, RelP_k hk (by repeat' constructor) (fun p => by repeat' constructor) hP, hC2, RelA_k hk (by repeat' constructor) (fun p => by repeat' constructor) hAc, RelS_k hk (zK_r (k := kM)) (fun x j a b => ⟨kL_38 (by decide) (by decide) x j a b, kM_38 x j a b⟩) (fun p => ⟨rfl, rfl, rfl⟩) rfl hS, RelT_k hk (by repeat' constructor) (fun p => by repeat' constructor) hTp, RelX_k hk (by repeat' constructor) (fun p => by repeat' constructor) hX, RelW_k hk ⟨rfl, rfl⟩ trivial hW⟩
                · have hxhq9 : J 57 (J 29 5) = 2 := hxhq9
                  refine z_aload0 gi_156_56 ?_
                  refine z_getR (r := 53) gi_156_57 gk_50 (hRr _ rm_50_4 (by decide)) ?_
                  refine z_iload2 gi_156_60 ?_
                  refine z_iload3 gi_156_61 ?_
                  refine z_iast (e := J 60 (J 29 5)) gi_156_62 gk_53 (by decide) (by omega) rfl ?_
                  refine z_goto gi_156_63 ?_
                  refine z_vret gi_156_95 gr_156 ?_
                  show zW _ _ _ _ _ _ _ _ _ _
                  refine z_aload0 gi_159_41 ?_
                  refine z_dup gi_159_42 rfl ?_
                  refine z_getI (v := J 29 5) gi_159_43 gk_50 ((zU_n (by decide)).trans ((zU_n (by decide)).trans ((zU_n (by decide)).trans (c1.symm)))) ?_
                  refine z_pushJ gp_159_46 ?_
                  refine z_iadd (e := (J 29 5) + 1) gi_159_47 rfl ?_
                  refine z_putI (y := 8) gi_159_48 rfl gk_50 ?_
                  refine z_aload0 gi_159_51 ?_
                  refine z_dup gi_159_52 rfl ?_
                  refine z_getI (v := J 50 9) gi_159_53 gk_50 ((zU_x (by decide)).trans ((zU_n (by decide)).trans ((zU_n (by decide)).trans ((zU_n (by decide)).trans (rfl))))) ?_
                  refine z_pushJ gp_159_56 ?_
                  refine z_isub (e := (J 50 9) - 1) gi_159_57 rfl ?_
                  refine z_putI (y := 9) gi_159_58 rfl gk_50 ?_
                  refine z_aload0 gi_159_61 ?_
                  refine z_getI (v := (J 50 9) - 1) gi_159_62 gk_50 (zU_e) ?_
                  refine z_iret gi_159_65 gr_159 ?_
                  refine ⟨?_, ?_⟩
                  · first | rfl | exact congrArg (fun v => some (zi v)) (by omega) | (exfalso; omega)
                  · have hs := (zK_x (a := 50) (x := 9) (v := (J 50 9) - 1) (zK_x (a := 50) (x := 8) (v := (J 29 5) + 1) (zK_u (a := 53) (x := J 58 (J 29 5)) (v := J 60 (J 29 5)) (zK_x (a := 29) (x := 5) (v := (J 29 5) + 1) (zK_u (a := 9) (x := (J 30 (J 29 5)) * 5 + (J 31 (J 29 5))) (v := J 33 (J 29 5)) (zK_r (k := (kL [] [(29, 5), (50, 8), (50, 9)])) (A := J))) rfl)) rfl) rfl)
                    have ev : J 60 (J 29 5) = J 33 (J 29 5) := by omega
                    have hY2 := RelY_k hs (by repeat' constructor) (fun p => by repeat' constructor) (by rw [ev]; exact RelY_p (p := J 30 (J 29 5)) (w := 2) hY (by omega) (by omega) (zFit_c hfit (by omega)) (by omega) rfl (by omega))
                    have hs2 := (zK_u (a := 50) (x := 9) (v := (J 50 9) - 1) (zK_u (a := 50) (x := 8) (v := (J 29 5) + 1) (zK_x (a := 53) (x := J 58 (J 29 5)) (v := J 60 (J 29 5)) (zK_u (a := 29) (x := 5) (v := (J 29 5) + 1) (zK_x (a := 9) (x := (J 30 (J 29 5)) * 5 + (J 31 (J 29 5))) (v := J 33 (J 29 5)) (zK_r (k := (kL [9, 53] [])) (A := J)) rfl)) rfl)))
                    have hC2 := RelC_k hs2 (by repeat' constructor) (fun p => by repeat' constructor) (RelC_redo hC (by omega))
                    have hk := (zK_x (a := 50) (x := 9) (v := (J 50 9) - 1) (zK_x (a := 50) (x := 8) (v := (J 29 5) + 1) (zK_x (a := 53) (x := J 58 (J 29 5)) (v := J 60 (J 29 5)) (zK_x (a := 29) (x := 5) (v := (J 29 5) + 1) (zK_x (a := 9) (x := (J 30 (J 29 5)) * 5 + (J 31 (J 29 5))) (v := J 33 (J 29 5)) (zK_r (k := (kL [9, 53] [(29, 5), (50, 8), (50, 9)])) (A := J)) rfl) rfl) rfl) rfl) rfl)
                    exact ⟨hR, hG, hY2, RelD_k hk (by repeat' constructor) (fun p => by repeat' constructor) hD, RelP_k hk (by repeat' constructor) (fun p => by repeat' constructor) hP, hC2, RelA_k hk (by repeat' constructor) (fun p => by repeat' constructor) hAc, RelS_k hk (zK_r (k := kM)) (fun x j a b => ⟨kL_38 (by decide) (by decide) x j a b, kM_38 x j a b⟩) (fun p => ⟨rfl, rfl, rfl⟩) rfl hS, RelT_k hk (by repeat' constructor) (fun p => by repeat' constructor) hTp, RelX_k hk (by repeat' constructor) (fun p => by repeat' constructor) hX, RelW_k hk ⟨rfl, rfl⟩ trivial hW⟩
                · have hxhq9 : J 57 (J 29 5) = 3 := hxhq9
                  refine z_aload0 gi_156_66 ?_
                  refine z_getR (r := 54) gi_156_67 gk_50 (hRr _ rm_50_5 (by decide)) ?_
                  refine z_iload2 gi_156_70 ?_
                  refine z_iload3 gi_156_71 ?_
                  refine z_iast (e := J 60 (J 29 5)) gi_156_72 gk_54 (by decide) (by omega) rfl ?_
                  refine z_goto gi_156_73 ?_
                  refine z_vret gi_156_95 gr_156 ?_
                  show zW _ _ _ _ _ _ _ _ _ _
                  refine z_aload0 gi_159_41 ?_
                  refine z_dup gi_159_42 rfl ?_
                  refine z_getI (v := J 29 5) gi_159_43 gk_50 ((zU_n (by decide)).trans ((zU_n (by decide)).trans ((zU_n (by decide)).trans (c1.symm)))) ?_
                  refine z_pushJ gp_159_46 ?_
                  refine z_iadd (e := (J 29 5) + 1) gi_159_47 rfl ?_
                  refine z_putI (y := 8) gi_159_48 rfl gk_50 ?_
                  refine z_aload0 gi_159_51 ?_
                  refine z_dup gi_159_52 rfl ?_
                  refine z_getI (v := J 50 9) gi_159_53 gk_50 ((zU_x (by decide)).trans ((zU_n (by decide)).trans ((zU_n (by decide)).trans ((zU_n (by decide)).trans (rfl))))) ?_
                  refine z_pushJ gp_159_56 ?_
                  refine z_isub (e := (J 50 9) - 1) gi_159_57 rfl ?_
                  refine z_putI (y := 9) gi_159_58 rfl gk_50 ?_
                  refine z_aload0 gi_159_61 ?_
                  refine z_getI (v := (J 50 9) - 1) gi_159_62 gk_50 (zU_e) ?_
                  refine z_iret gi_159_65 gr_159 ?_
                  refine ⟨?_, ?_⟩
                  · first | rfl | exact congrArg (fun v => some (zi v)) (by omega) | (exfalso; omega)
                  · have hs := (zK_x (a := 50) (x := 9) (v := (J 50 9) - 1) (zK_x (a := 50) (x := 8) (v := (J 29 5) + 1) (zK_u (a := 54) (x := J 58 (J 29 5)) (v := J 60 (J 29 5)) (zK_x (a := 29) (x := 5) (v := (J 29 5) + 1) (zK_u (a := 9) (x := (J 30 (J 29 5)) * 5 + (J 31 (J 29 5))) (v := J 33 (J 29 5)) (zK_r (k := (kL [] [(29, 5), (50, 8), (50, 9)])) (A := J))) rfl)) rfl) rfl)
                    have ev : J 60 (J 29 5) = J 33 (J 29 5) := by omega
                    have hY2 := RelY_k hs (by repeat' constructor) (fun p => by repeat' constructor) (by rw [ev]; exact RelY_p (p := J 30 (J 29 5)) (w := 3) hY (by omega) (by omega) (zFit_c hfit (by omega)) (by omega) rfl (by omega))
                    have hs2 := (zK_u (a := 50) (x := 9) (v := (J 50 9) - 1) (zK_u (a := 50) (x := 8) (v := (J 29 5) + 1) (zK_x (a := 54) (x := J 58 (J 29 5)) (v := J 60 (J 29 5)) (zK_u (a := 29) (x := 5) (v := (J 29 5) + 1) (zK_x (a := 9) (x := (J 30 (J 29 5)) * 5 + (J 31 (J 29 5))) (v := J 33 (J 29 5)) (zK_r (k := (kL [9, 54] [])) (A := J)) rfl)) rfl)))
                    have hC2 := RelC_k hs2 (by repeat' constructor) (fun p => by repeat' constructor) (RelC_redo hC (by omega))
                    have hk := (zK_x (a := 50) (x := 9) (v := (J 50 9) - 1) (zK_x (a := 50) (x := 8) (v := (J 29 5) + 1) (zK_x (a := 54) (x := J 58 (J 29 5)) (v := J 60 (J 29 5)) (zK_x (a := 29) (x := 5) (v := (J 29 5) + 1) (zK_x (a := 9) (x := (J 30 (J 29 5)) * 5 + (J 31 (J 29 5))) (v := J 33 (J 29 5)) (zK_r (k := (kL [9, 54] [(29, 5), (50, 8), (50, 9)])) (A := J)) rfl) rfl) rfl) rfl) rfl)
                    exact ⟨hR, hG, hY2, RelD_k hk (by repeat' constructor) (fun p => by repeat' constructor) hD, RelP_k hk (by repeat' constructor) (fun p => by repeat' constructor) hP, hC2, RelA_k hk (by repeat' constructor) (fun p => by repeat' constructor) hAc, RelS_k hk (zK_r (k := kM)) (fun x j a b => ⟨kL_38 (by decide) (by decide) x j a b, kM_38 x j a b⟩) (fun p => ⟨rfl, rfl, rfl⟩) rfl hS, RelT_k hk (by repeat' constructor) (fun p => by repeat' constructor) hTp, RelX_k hk (by repeat' constructor) (fun p => by repeat' constructor) hX, RelW_k hk ⟨rfl, rfl⟩ trivial hW⟩
                · have hxhq9 : J 57 (J 29 5) = 4 := hxhq9
                  refine z_aload0 gi_156_76 ?_
                  refine z_getR (r := 55) gi_156_77 gk_50 (hRr _ rm_50_6 (by decide)) ?_
                  refine z_iload2 gi_156_80 ?_
                  refine z_iload3 gi_156_81 ?_
                  refine z_iast (e := J 60 (J 29 5)) gi_156_82 gk_55 (by decide) (by omega) rfl ?_
                  refine z_goto gi_156_83 ?_
                  refine z_vret gi_156_95 gr_156 ?_
                  show zW _ _ _ _ _ _ _ _ _ _
                  refine z_aload0 gi_159_41 ?_
                  refine z_dup gi_159_42 rfl ?_
                  refine z_getI (v := J 29 5) gi_159_43 gk_50 ((zU_n (by decide)).trans ((zU_n (by decide)).trans ((zU_n (by decide)).trans (c1.symm)))) ?_
                  refine z_pushJ gp_159_46 ?_
                  refine z_iadd (e := (J 29 5) + 1) gi_159_47 rfl ?_
                  refine z_putI (y := 8) gi_159_48 rfl gk_50 ?_
                  refine z_aload0 gi_159_51 ?_
                  refine z_dup gi_159_52 rfl ?_
                  refine z_getI (v := J 50 9) gi_159_53 gk_50 ((zU_x (by decide)).trans ((zU_n (by decide)).trans ((zU_n (by decide)).trans ((zU_n (by decide)).trans (rfl))))) ?_
                  refine z_pushJ gp_159_56 ?_
                  refine z_isub (e := (J 50 9) - 1) gi_159_57 rfl ?_
                  refine z_putI (y := 9) gi_159_58 rfl gk_50 ?_
                  refine z_aload0 gi_159_61 ?_
                  refine z_getI (v := (J 50 9) - 1) gi_159_62 gk_50 (zU_e) ?_
                  refine z_iret gi_159_65 gr_159 ?_
                  refine ⟨?_, ?_⟩
                  · first | rfl | exact congrArg (fun v => some (zi v)) (by omega) | (exfalso; omega)
                  · have hs := (zK_x (a := 50) (x := 9) (v := (J 50 9) - 1) (zK_x (a := 50) (x := 8) (v := (J 29 5) + 1) (zK_u (a := 55) (x := J 58 (J 29 5)) (v := J 60 (J 29 5)) (zK_x (a := 29) (x := 5) (v := (J 29 5) + 1) (zK_u (a := 9) (x := (J 30 (J 29 5)) * 5 + (J 31 (J 29 5))) (v := J 33 (J 29 5)) (zK_r (k := (kL [] [(29, 5), (50, 8), (50, 9)])) (A := J))) rfl)) rfl) rfl)
                    have ev : J 60 (J 29 5) = J 33 (J 29 5) := by omega
                    have hY2 := RelY_k hs (by repeat' constructor) (fun p => by repeat' constructor) (by rw [ev]; exact RelY_p (p := J 30 (J 29 5)) (w := 4) hY (by omega) (by omega) (zFit_c hfit (by omega)) (by omega) rfl (by omega))
                    have hs2 := (zK_u (a := 50) (x := 9) (v := (J 50 9) - 1) (zK_u (a := 50) (x := 8) (v := (J 29 5) + 1) (zK_x (a := 55) (x := J 58 (J 29 5)) (v := J 60 (J 29 5)) (zK_u (a := 29) (x := 5) (v := (J 29 5) + 1) (zK_x (a := 9) (x := (J 30 (J 29 5)) * 5 + (J 31 (J 29 5))) (v := J 33 (J 29 5)) (zK_r (k := (kL [9, 55] [])) (A := J)) rfl)) rfl)))
                    have hC2 := RelC_k hs2 (by repeat' constructor) (fun p => by repeat' constructor) (RelC_redo hC (by omega))
                    have hk := (zK_x (a := 50) (x := 9) (v := (J 50 9) - 1) (zK_x (a := 50) (x := 8) (v := (J 29 5) + 1) (zK_x (a := 55) (x := J 58 (J 29 5)) (v := J 60 (J 29 5)) (zK_x (a := 29) (x := 5) (v := (J 29 5) + 1) (zK_x (a := 9) (x := (J 30 (J 29 5)) * 5 + (J 31 (J 29 5))) (v := J 33 (J 29 5)) (zK_r (k := (kL [9, 55] [(29, 5), (50, 8), (50, 9)])) (A := J)) rfl) rfl) rfl) rfl) rfl)
                    exact ⟨hR, hG, hY2, RelD_k hk (by repeat' constructor) (fun p => by repeat' constructor) hD, RelP_k hk (by repeat' constructor) (fun p => by repeat' constructor) hP, hC2, RelA_k hk (by repeat' constructor) (fun p => by repeat' constructor) hAc, RelS_k hk (zK_r (k := kM)) (fun x j a b => ⟨kL_38 (by decide) (by decide) x j a b, kM_38 x j a b⟩) (fun p => ⟨rfl, rfl, rfl⟩) rfl hS, RelT_k hk (by repeat' constructor) (fun p => by repeat' constructor) hTp, RelX_k hk (by repeat' constructor) (fun p => by repeat' constructor) hX, RelW_k hk ⟨rfl, rfl⟩ trivial hW⟩
              · have hq9 : ∀ q ∈ [((0 : Int), 36), ((1 : Int), 46), ((2 : Int), 56), ((3 : Int), 66), ((4 : Int), 76)], ¬ J 57 (J 29 5) = q.1 := hq9
                have hq9_0 : ¬ J 57 (J 29 5) = 0 := hq9 (0, 36) (by simp)
                have hq9_1 : ¬ J 57 (J 29 5) = 1 := hq9 (1, 46) (by simp)
                have hq9_2 : ¬ J 57 (J 29 5) = 2 := hq9 (2, 56) (by simp)
                have hq9_3 : ¬ J 57 (J 29 5) = 3 := hq9 (3, 66) (by simp)
                have hq9_4 : ¬ J 57 (J 29 5) = 4 := hq9 (4, 76) (by simp)
                refine z_aload0 gi_156_86 ?_
                refine z_getR (r := 56) gi_156_87 gk_50 (hRr _ rm_50_7 (by decide)) ?_
                refine z_iload1 gi_156_90 ?_
                refine z_pushJ gp_156_91 ?_
                refine z_isub (e := (J 57 (J 29 5)) - 5) gi_156_92 rfl ?_
                refine z_iload3 gi_156_93 ?_
                refine z_iast (e := J 60 (J 29 5)) gi_156_94 gk_56 (by decide) (by omega) rfl ?_
                refine z_vret gi_156_95 gr_156 ?_
                show zW _ _ _ _ _ _ _ _ _ _
                refine z_aload0 gi_159_41 ?_
                refine z_dup gi_159_42 rfl ?_
                refine z_getI (v := J 29 5) gi_159_43 gk_50 ((zU_n (by decide)).trans ((zU_n (by decide)).trans ((zU_n (by decide)).trans (c1.symm)))) ?_
                refine z_pushJ gp_159_46 ?_
                refine z_iadd (e := (J 29 5) + 1) gi_159_47 rfl ?_
                refine z_putI (y := 8) gi_159_48 rfl gk_50 ?_
                refine z_aload0 gi_159_51 ?_
                refine z_dup gi_159_52 rfl ?_
                refine z_getI (v := J 50 9) gi_159_53 gk_50 ((zU_x (by decide)).trans ((zU_n (by decide)).trans ((zU_n (by decide)).trans ((zU_n (by decide)).trans (rfl))))) ?_
                refine z_pushJ gp_159_56 ?_
                refine z_isub (e := (J 50 9) - 1) gi_159_57 rfl ?_
                refine z_putI (y := 9) gi_159_58 rfl gk_50 ?_
                refine z_aload0 gi_159_61 ?_
                refine z_getI (v := (J 50 9) - 1) gi_159_62 gk_50 (zU_e) ?_
                refine z_iret gi_159_65 gr_159 ?_
                refine ⟨?_, ?_⟩
                · first | rfl | exact congrArg (fun v => some (zi v)) (by omega) | (exfalso; omega)
                · have hs := (zK_x (a := 50) (x := 9) (v := (J 50 9) - 1) (zK_x (a := 50) (x := 8) (v := (J 29 5) + 1) (zK_u (a := 56) (x := (J 57 (J 29 5)) - 5) (v := J 60 (J 29 5)) (zK_x (a := 29) (x := 5) (v := (J 29 5) + 1) (zK_u (a := 9) (x := (J 30 (J 29 5)) * 5 + (J 31 (J 29 5))) (v := J 33 (J 29 5)) (zK_r (k := (kL [] [(29, 5), (50, 8), (50, 9)])) (A := J))) rfl)) rfl) rfl)
                  have ev : J 60 (J 29 5) = J 33 (J 29 5) := by omega
                  have hY2 := RelY_k hs (by repeat' constructor) (fun p => by repeat' constructor) (by rw [ev]; exact RelY_g (w := J 31 (J 29 5)) hY (by omega) hfit (by omega) (by omega))
                  have hs2 := (zK_u (a := 50) (x := 9) (v := (J 50 9) - 1) (zK_u (a := 50) (x := 8) (v := (J 29 5) + 1) (zK_x (a := 56) (x := (J 57 (J 29 5)) - 5) (v := J 60 (J 29 5)) (zK_u (a := 29) (x := 5) (v := (J 29 5) + 1) (zK_x (a := 9) (x := (J 30 (J 29 5)) * 5 + (J 31 (J 29 5))) (v := J 33 (J 29 5)) (zK_r (k := (kL [9, 56] [])) (A := J)) rfl)) rfl)))
                  have hC2 := RelC_k hs2 (by repeat' constructor) (fun p => by repeat' constructor) (RelC_redo hC (by omega))
                  have hk := (zK_x (a := 50) (x := 9) (v := (J 50 9) - 1) (zK_x (a := 50) (x := 8) (v := (J 29 5) + 1) (zK_x (a := 56) (x := (J 57 (J 29 5)) - 5) (v := J 60 (J 29 5)) (zK_x (a := 29) (x := 5) (v := (J 29 5) + 1) (zK_x (a := 9) (x := (J 30 (J 29 5)) * 5 + (J 31 (J 29 5))) (v := J 33 (J 29 5)) (zK_r (k := (kL [9, 56] [(29, 5), (50, 8), (50, 9)])) (A := J)) rfl) rfl) rfl) rfl) rfl)
                  exact ⟨hR, hG, hY2, RelD_k hk (by repeat' constructor) (fun p => by repeat' constructor) hD, RelP_k hk (by repeat' constructor) (fun p => by repeat' constructor) hP, hC2, RelA_k hk (by repeat' constructor) (fun p => by repeat' constructor) hAc, RelS_k hk (zK_r (k := kM)) (fun x j a b => ⟨kL_38 (by decide) (by decide) x j a b, kM_38 x j a b⟩) (fun p => ⟨rfl, rfl, rfl⟩) rfl hS, RelT_k hk (by repeat' constructor) (fun p => by repeat' constructor) hTp, RelX_k hk (by repeat' constructor) (fun p => by repeat' constructor) hX, RelW_k hk ⟨rfl, rfl⟩ trivial hW⟩
    · refine z_pushJ gp_89_10 ?_
      refine z_iret gi_89_11 gr_89 ?_
      show zW _ _ _ _ _ _ _ _ _ _
      refine z_istore (ls1 := [some (.ref 8), some (zi (J 30 (J 29 5))), some (zi (J 31 (J 29 5))), some (zi (J 33 (J 29 5))), some (zi (-1))]) gi_91_6 rfl ?_
      refine z_iload4 gi_91_8 ?_
      refine z_if_ltT gi_91_10 zrn_1 (by decide) ?_
      refine z_vret gi_91_21 gr_91 ?_
      show zW _ _ _ _ _ _ _ _ _ _
      refine z_aload0 gi_17_47 ?_
      refine z_dup gi_17_48 rfl ?_
      refine z_getI (v := J 29 5) gi_17_49 gk_29 (rfl) ?_
      refine z_pushJ gp_17_52 ?_
      refine z_iadd (e := (J 29 5) + 1) gi_17_53 rfl ?_
      refine z_putI (y := 5) gi_17_54 rfl gk_29 ?_
      refine z_pushJ gp_17_57 ?_
      refine z_bret1 gi_17_58 gr_17 ?_
      show zW _ _ _ _ _ _ _ _ _ _
      refine z_if_eqF gi_132_7 zr_1 (by decide) ?_
      refine z_aload0 gi_132_10 ?_
      refine z_getR (r := 29) gi_132_11 gk_0 (hR _ rm_0_9) ?_
      refine z_getI (v := J 29 6) gi_132_14 gk_29 ((zU_x (by decide)).trans (rfl)) ?_
      refine z_aload0 gi_132_17 ?_
      refine z_getR (r := 29) gi_132_18 gk_0 (hR _ rm_0_9) ?_
      refine z_getI (v := (J 29 5) + 1) gi_132_21 gk_29 (zU_e) ?_
      refine z_isub (e := (J 29 6) - ((J 29 5) + 1)) gi_132_24 rfl ?_
      refine z_goto gi_132_25 ?_
      refine z_iret gi_132_30 gr_132 ?_
      refine ⟨_, rfl, ?_⟩
      show zW _ _ _ _ [some (.ref 50)] _ _ _ _ _
      refine z_aload0 gi_159_0 ?_
      refine z_getI (v := J 50 9) gi_159_1 gk_50 ((zU_n (by decide)).trans (rfl)) ?_
      refine z_if_neT gi_159_4 (by omega) (by omega) ?_
      refine z_aload0 gi_159_10 ?_
      refine z_aload0 gi_159_11 ?_
      refine z_getR (r := 57) gi_159_12 gk_50 (hRr _ rm_50_10 (by decide)) ?_
      refine z_aload0 gi_159_15 ?_
      refine z_getI (v := J 29 5) gi_159_16 gk_50 ((zU_n (by decide)).trans (c1.symm)) ?_
      refine z_iald (v := J 57 (J 29 5)) gi_159_19 gk_57 (by decide) (by omega) ((zU_n (by decide)).trans (rfl)) ?_
      refine z_aload0 gi_159_20 ?_
      refine z_getR (r := 58) gi_159_21 gk_50 (hRr _ rm_50_11 (by decide)) ?_
      refine z_aload0 gi_159_24 ?_
      refine z_getI (v := J 29 5) gi_159_25 gk_50 ((zU_n (by decide)).trans (c1.symm)) ?_
      refine z_iald (v := J 58 (J 29 5)) gi_159_28 gk_58 (by decide) (by omega) ((zU_n (by decide)).trans (rfl)) ?_
      refine z_aload0 gi_159_29 ?_
      refine z_getR (r := 60) gi_159_30 gk_50 (hRr _ rm_50_13 (by decide)) ?_
      refine z_aload0 gi_159_33 ?_
      refine z_getI (v := J 29 5) gi_159_34 gk_50 ((zU_n (by decide)).trans (c1.symm)) ?_
      refine z_iald (v := J 60 (J 29 5)) gi_159_37 gk_60 (by decide) (by omega) ((zU_n (by decide)).trans (rfl)) ?_
      refine z_cV3 gi_159_38 gk_50 go_156 (Nat.le_of_ble_eq_true rfl) gc_156_RIII ?_
      refine z_iload1 gi_156_0 ?_
      refine z_sw (T := [((0 : Int), 36), ((1 : Int), 46), ((2 : Int), 56), ((3 : Int), 66), ((4 : Int), 76)]) gi_156_1 (by omega) rfl (fun q hq9 hxhq9 => ?_) (fun hq9 => ?_)
      · simp only [List.mem_cons, List.not_mem_nil, or_false] at hq9
        rcases hq9 with rfl | rfl | rfl | rfl | rfl
        · have hxhq9 : J 57 (J 29 5) = 0 := hxhq9
          refine z_aload0 gi_156_36 ?_
          refine z_getR (r := 51) gi_156_37 gk_50 (hRr _ rm_50_2 (by decide)) ?_
          refine z_iload2 gi_156_40 ?_
          refine z_iload3 gi_156_41 ?_
          refine z_iast (e := J 60 (J 29 5)) gi_156_42 gk_51 (by decide) (by omega) rfl ?_
          refine z_goto gi_156_43 ?_
          refine z_vret gi_156_95 gr_156 ?_
          show zW _ _ _ _ _ _ _ _ _ _
          refine z_aload0 gi_159_41 ?_
          refine z_dup gi_159_42 rfl ?_
          refine z_getI (v := J 29 5) gi_159_43 gk_50 ((zU_n (by decide)).trans ((zU_n (by decide)).trans (c1.symm))) ?_
          refine z_pushJ gp_159_46 ?_
          refine z_iadd (e := (J 29 5) + 1) gi_159_47 rfl ?_
          refine z_putI (y := 8) gi_159_48 rfl gk_50 ?_
          refine z_aload0 gi_159_51 ?_
          refine z_dup gi_159_52 rfl ?_
          refine z_getI (v := J 50 9) gi_159_53 gk_50 ((zU_x (by decide)).trans ((zU_n (by decide)).trans ((zU_n (by decide)).trans (rfl)))) ?_
          refine z_pushJ gp_159_56 ?_
          refine z_isub (e := (J 50 9) - 1) gi_159_57 rfl ?_
          refine z_putI (y := 9) gi_159_58 rfl gk_50 ?_
          refine z_aload0 gi_159_61 ?_
          refine z_getI (v := (J 50 9) - 1) gi_159_62 gk_50 (zU_e) ?_
          refine z_iret gi_159_65 gr_159 ?_
          refine ⟨?_, ?_⟩
          · first | rfl | exact congrArg (fun v => some (zi v)) (by omega) | (exfalso; omega)
          · exfalso
            omega
        · have hxhq9 : J 57 (J 29 5) = 1 := hxhq9
          refine z_aload0 gi_156_46 ?_
          refine z_getR (r := 52) gi_156_47 gk_50 (hRr _ rm_50_3 (by decide)) ?_
          refine z_iload2 gi_156_50 ?_
          refine z_iload3 gi_156_51 ?_
          refine z_iast (e := J 60 (J 29 5)) gi_156_52 gk_52 (by decide) (by omega) rfl ?_
          refine z_goto gi_156_53 ?_
          refine z_vret gi_156_95 gr_156 ?_
          show zW _ _ _ _ _ _ _ _ _ _
          refine z_aload0 gi_159_41 ?_
          refine z_dup gi_159_42 rfl ?_
          refine z_getI (v := J 29 5) gi_159_43 gk_50 ((zU_n (by decide)).trans ((zU_n (by decide)).trans (c1.symm))) ?_
          refine z_pushJ gp_159_46 ?_
          refine z_iadd (e := (J 29 5) + 1) gi_159_47 rfl ?_
          refine z_putI (y := 8) gi_159_48 rfl gk_50 ?_
          refine z_aload0 gi_159_51 ?_
          refine z_dup gi_159_52 rfl ?_
          refine z_getI (v := J 50 9) gi_159_53 gk_50 ((zU_x (by decide)).trans ((zU_n (by decide)).trans ((zU_n (by decide)).trans (rfl)))) ?_
          refine z_pushJ gp_159_56 ?_
          refine z_isub (e := (J 50 9) - 1) gi_159_57 rfl ?_
          refine z_putI (y := 9) gi_159_58 rfl gk_50 ?_
          refine z_aload0 gi_159_61 ?_
          refine z_getI (v := (J 50 9) - 1) gi_159_62 gk_50 (zU_e) ?_
          refine z_iret gi_159_65 gr_159 ?_
          refine ⟨?_, ?_⟩
          · first | rfl | exact congrArg (fun v => some (zi v)) (by omega) | (exfalso; omega)
          · exfalso
            omega
        · have hxhq9 : J 57 (J 29 5) = 2 := hxhq9
          refine z_aload0 gi_156_56 ?_
          refine z_getR (r := 53) gi_156_57 gk_50 (hRr _ rm_50_4 (by decide)) ?_
          refine z_iload2 gi_156_60 ?_
          refine z_iload3 gi_156_61 ?_
          refine z_iast (e := J 60 (J 29 5)) gi_156_62 gk_53 (by decide) (by omega) rfl ?_
          refine z_goto gi_156_63 ?_
          refine z_vret gi_156_95 gr_156 ?_
          show zW _ _ _ _ _ _ _ _ _ _
          refine z_aload0 gi_159_41 ?_
          refine z_dup gi_159_42 rfl ?_
          refine z_getI (v := J 29 5) gi_159_43 gk_50 ((zU_n (by decide)).trans ((zU_n (by decide)).trans (c1.symm))) ?_
          refine z_pushJ gp_159_46 ?_
          refine z_iadd (e := (J 29 5) + 1) gi_159_47 rfl ?_
          refine z_putI (y := 8) gi_159_48 rfl gk_50 ?_
          refine z_aload0 gi_159_51 ?_
          refine z_dup gi_159_52 rfl ?_
          refine z_getI (v := J 50 9) gi_159_53 gk_50 ((zU_x (by decide)).trans ((zU_n (by decide)).trans ((zU_n (by decide)).trans (rfl)))) ?_
          refine z_pushJ gp_159_56 ?_
          refine z_isub (e := (J 50 9) - 1) gi_159_57 rfl ?_
          refine z_putI (y := 9) gi_159_58 rfl gk_50 ?_
          refine z_aload0 gi_159_61 ?_
          refine z_getI (v := (J 50 9) - 1) gi_159_62 gk_50 (zU_e) ?_
          refine z_iret gi_159_65 gr_159 ?_
          refine ⟨?_, ?_⟩
          · first | rfl | exact congrArg (fun v => some (zi v)) (by omega) | (exfalso; omega)
          · exfalso
            omega
        · have hxhq9 : J 57 (J 29 5) = 3 := hxhq9
          refine z_aload0 gi_156_66 ?_
          refine z_getR (r := 54) gi_156_67 gk_50 (hRr _ rm_50_5 (by decide)) ?_
          refine z_iload2 gi_156_70 ?_
          refine z_iload3 gi_156_71 ?_
          refine z_iast (e := J 60 (J 29 5)) gi_156_72 gk_54 (by decide) (by omega) rfl ?_
          refine z_goto gi_156_73 ?_
          refine z_vret gi_156_95 gr_156 ?_
          show zW _ _ _ _ _ _ _ _ _ _
          refine z_aload0 gi_159_41 ?_
          refine z_dup gi_159_42 rfl ?_
          refine z_getI (v := J 29 5) gi_159_43 gk_50 ((zU_n (by decide)).trans ((zU_n (by decide)).trans (c1.symm))) ?_
          refine z_pushJ gp_159_46 ?_
          refine z_iadd (e := (J 29 5) + 1) gi_159_47 rfl ?_
          refine z_putI (y := 8) gi_159_48 rfl gk_50 ?_
          refine z_aload0 gi_159_51 ?_
          refine z_dup gi_159_52 rfl ?_
          refine z_getI (v := J 50 9) gi_159_53 gk_50 ((zU_x (by decide)).trans ((zU_n (by decide)).trans ((zU_n (by decide)).trans (rfl)))) ?_
          refine z_pushJ gp_159_56 ?_
          refine z_isub (e := (J 50 9) - 1) gi_159_57 rfl ?_
          refine z_putI (y := 9) gi_159_58 rfl gk_50 ?_
          refine z_aload0 gi_159_61 ?_
          refine z_getI (v := (J 50 9) - 1) gi_159_62 gk_50 (zU_e) ?_
          refine z_iret gi_159_65 gr_159 ?_
          refine ⟨?_, ?_⟩
          · first | rfl | exact congrArg (fun v => some (zi v)) (by omega) | (exfalso; omega)
          · exfalso
            omega
        · have hxhq9 : J 57 (J 29 5) = 4 := hxhq9
          refine z_aload0 gi_156_76 ?_
          refine z_getR (r := 55) gi_156_77 gk_50 (hRr _ rm_50_6 (by decide)) ?_
          refine z_iload2 gi_156_80 ?_
          refine z_iload3 gi_156_81 ?_
          refine z_iast (e := J 60 (J 29 5)) gi_156_82 gk_55 (by decide) (by omega) rfl ?_
          refine z_goto gi_156_83 ?_
          refine z_vret gi_156_95 gr_156 ?_
          show zW _ _ _ _ _ _ _ _ _ _
          refine z_aload0 gi_159_41 ?_
          refine z_dup gi_159_42 rfl ?_
          refine z_getI (v := J 29 5) gi_159_43 gk_50 ((zU_n (by decide)).trans ((zU_n (by decide)).trans (c1.symm))) ?_
          refine z_pushJ gp_159_46 ?_
          refine z_iadd (e := (J 29 5) + 1) gi_159_47 rfl ?_
          refine z_putI (y := 8) gi_159_48 rfl gk_50 ?_
          refine z_aload0 gi_159_51 ?_
          refine z_dup gi_159_52 rfl ?_
          refine z_getI (v := J 50 9) gi_159_53 gk_50 ((zU_x (by decide)).trans ((zU_n (by decide)).trans ((zU_n (by decide)).trans (rfl)))) ?_
          refine z_pushJ gp_159_56 ?_
          refine z_isub (e := (J 50 9) - 1) gi_159_57 rfl ?_
          refine z_putI (y := 9) gi_159_58 rfl gk_50 ?_
          refine z_aload0 gi_159_61 ?_
          refine z_getI (v := (J 50 9) - 1) gi_159_62 gk_50 (zU_e) ?_
          refine z_iret gi_159_65 gr_159 ?_
          refine ⟨?_, ?_⟩
          · first | rfl | exact congrArg (fun v => some (zi v)) (by omega) | (exfalso; omega)
          · exfalso
            omega
      · have hq9 : ∀ q ∈ [((0 : Int), 36), ((1 : Int), 46), ((2 : Int), 56), ((3 : Int), 66), ((4 : Int), 76)], ¬ J 57 (J 29 5) = q.1 := hq9
        have hq9_0 : ¬ J 57 (J 29 5) = 0 := hq9 (0, 36) (by simp)
        have hq9_1 : ¬ J 57 (J 29 5) = 1 := hq9 (1, 46) (by simp)
        have hq9_2 : ¬ J 57 (J 29 5) = 2 := hq9 (2, 56) (by simp)
        have hq9_3 : ¬ J 57 (J 29 5) = 3 := hq9 (3, 66) (by simp)
        have hq9_4 : ¬ J 57 (J 29 5) = 4 := hq9 (4, 76) (by simp)
        refine z_aload0 gi_156_86 ?_
        refine z_getR (r := 56) gi_156_87 gk_50 (hRr _ rm_50_7 (by decide)) ?_
        refine z_iload1 gi_156_90 ?_
        refine z_pushJ gp_156_91 ?_
        refine z_isub (e := (J 57 (J 29 5)) - 5) gi_156_92 rfl ?_
        refine z_iload3 gi_156_93 ?_
        refine z_iast (e := J 60 (J 29 5)) gi_156_94 gk_56 (by decide) (by omega) rfl ?_
        refine z_vret gi_156_95 gr_156 ?_
        show zW _ _ _ _ _ _ _ _ _ _
        refine z_aload0 gi_159_41 ?_
        refine z_dup gi_159_42 rfl ?_
        refine z_getI (v := J 29 5) gi_159_43 gk_50 ((zU_n (by decide)).trans ((zU_n (by decide)).trans (c1.symm))) ?_
        refine z_pushJ gp_159_46 ?_
        refine z_iadd (e := (J 29 5) + 1) gi_159_47 rfl ?_
        refine z_putI (y := 8) gi_159_48 rfl gk_50 ?_
        refine z_aload0 gi_159_51 ?_
        refine z_dup gi_159_52 rfl ?_
        refine z_getI (v := J 50 9) gi_159_53 gk_50 ((zU_x (by decide)).trans ((zU_n (by decide)).trans ((zU_n (by decide)).trans (rfl)))) ?_
        refine z_pushJ gp_159_56 ?_
        refine z_isub (e := (J 50 9) - 1) gi_159_57 rfl ?_
        refine z_putI (y := 9) gi_159_58 rfl gk_50 ?_
        refine z_aload0 gi_159_61 ?_
        refine z_getI (v := (J 50 9) - 1) gi_159_62 gk_50 (zU_e) ?_
        refine z_iret gi_159_65 gr_159 ?_
        refine ⟨?_, ?_⟩
        · first | rfl | exact congrArg (fun v => some (zi v)) (by omega) | (exfalso; omega)
        · exfalso
          omega
theorem st_redo {X : Nat × (Nat → Int32)} {d : Nat} {J M : zA} {R : zR} (hr : Rel X J M R) : zW X (d + 20) 132 0 (gEn 132 [.ref 0]) [] J M R (stP X (d + 20) 159 []) := by
  by_cases h0 : J 29 6 ≤ J 29 5
  · exact st_redo_0 hr h0
  · exact st_redo_1 hr h0
