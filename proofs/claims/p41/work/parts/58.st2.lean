theorem zb_b (x : Int) : zb (zb x) = zb x := by
  unfold zb
  rw [Int32.ofInt_toInt, Int8.toInt8_toInt32]
theorem RelT_feed {J : zA} {x : Int} (r : RelT J) (h : J 1 1 < 120) (hx : 0 ≤ x ∧ x ≤ 255) : RelT (zU (zU (zU (zU J 2 (J 1 1) x) 1 1 (J 1 1 + 1)) 61 (J 50 15) (zb (zb x))) 50 15 (J 50 15 + 1)) := by
  obtain ⟨t1, t2, t3⟩ := r
  refine ⟨?_, ?_, fun i i1 i2 => ?_⟩
  · show J 1 1 + 1 = J 50 15 + 1; omega
  · show 0 ≤ J 1 1 + 1 ∧ J 1 1 + 1 ≤ 120; omega
  · have i2 : i < J 1 1 + 1 := i2
    show (0 ≤ (if i = J 1 1 then x else J 2 i) ∧ (if i = J 1 1 then x else J 2 i) ≤ 255) ∧ (if i = J 50 15 then zb (zb x) else J 61 i) = zb (if i = J 1 1 then x else J 2 i)
    rw [← t1]
    by_cases e : i = J 1 1
    · rw [if_pos e, if_pos e, zb_b]; exact ⟨hx, rfl⟩
    · rw [if_neg e, if_neg e]; exact t3 i i1 (by omega)
theorem st_feed {X : Nat × (Nat → Int32)} {d : Nat} {J M : zA} {R : zR} {x : Int} (hr : Rel X J M R) (hx : -2147483648 ≤ x ∧ x < 2147483648)  : zW X (d + 20) 106 0 (gEn 106 [(.ref 0), (zi x)]) [] J M R (stP X (d + 20) 164 [(zi x)]) := by
  have hr0 := hr
  obtain ⟨hR, hG, hY, hD, hP, hC, hAc, hS, hTp, hX, hW⟩ := hr0
  have hRr : zRoR R := zRoR_of hR
  have hT0 := hTp
  obtain ⟨t1, t2, t3⟩ := hT0
  show zW _ _ _ _ [some (.ref 0), some (zi x)] _ _ _ _ _
  refine z_iload1 rfl ?_
  refine z_if_lt rfl (by omega) (fun h1 => ?_) (fun h1 => ?_)
  · refine z_pushJ gp_106_11 ?_
    refine z_iret gi_106_12 gr_106 ?_
    refine ⟨_, rfl, ?_⟩
    show zW _ _ _ _ [some (.ref 50), some (zi x)] _ _ _ _ _
    refine z_iload1 gi_164_0 ?_
    refine z_pushJ gp_164_1 ?_
    refine z_pushJ gp_164_2 ?_
    refine z_cS3 gi_164_5 (Nat.le_of_ble_eq_true rfl) gc_148_III ?_
    refine z_iload0 gi_148_0 ?_
    refine z_iload1 gi_148_1 ?_
    refine z_icmp_lt gi_148_2 (by omega) zr_0 (fun h2 => ?_) (fun h2 => ?_)
    · refine z_pushJ gp_148_14 ?_
      refine z_bret0 gi_148_15 gr_148 ?_
      show zW _ _ _ _ _ _ _ _ _ _
      refine z_if_neF gi_164_8 zr_0 (by decide) ?_
      refine z_pushJ gp_164_11 ?_
      refine z_iret gi_164_12 gr_164 ?_
      refine ⟨?_, ?_⟩
      · first | rfl | exact congrArg (fun v => some (zi v)) (by omega) | (exfalso; omega)
      · exact hr
    · refine z_iload0 gi_148_5 ?_
      refine z_iload2 gi_148_6 ?_
      refine z_icmp_gt gi_148_7 (by omega) zr_255 (fun h3 => ?_) (fun h3 => ?_)
      · refine z_pushJ gp_148_14 ?_
        refine z_bret0 gi_148_15 gr_148 ?_
        show zW _ _ _ _ _ _ _ _ _ _
        refine z_if_neF gi_164_8 zr_0 (by decide) ?_
        refine z_pushJ gp_164_11 ?_
        refine z_iret gi_164_12 gr_164 ?_
        refine ⟨?_, ?_⟩
        · first | rfl | exact congrArg (fun v => some (zi v)) (by omega) | (exfalso; omega)
        · exact hr
      · refine z_pushJ gp_148_10 ?_
        refine z_goto gi_148_11 ?_
        refine z_bret1 gi_148_15 gr_148 ?_
        show zW _ _ _ _ _ _ _ _ _ _
        refine z_if_neT gi_164_8 zr_1 (by decide) ?_
        refine z_aload0 gi_164_13 ?_
        refine z_getI (v := J 50 15) gi_164_14 gk_50 (rfl) ?_
        refine z_pushJ gp_164_17 ?_
        refine z_icmp_ne gi_164_19 (by omega) zr_120 (fun h4 => ?_) (fun h4 => ?_)
        · refine z_aload0 gi_164_25 ?_
          refine z_getR (r := 61) gi_164_26 gk_50 (hRr _ rm_50_14 (by decide)) ?_
          refine z_aload0 gi_164_29 ?_
          refine z_getI (v := J 50 15) gi_164_30 gk_50 (rfl) ?_
          refine z_iload1 gi_164_33 ?_
          refine z_i2b (e := zb x) gi_164_34 rfl ?_
          refine z_bast (e := zb (zb x)) gi_164_35 gk_61 (by decide) (by omega) rfl ?_
          refine z_aload0 gi_164_36 ?_
          refine z_dup gi_164_37 rfl ?_
          refine z_getI (v := J 50 15) gi_164_38 gk_50 ((zU_n (by decide)).trans (rfl)) ?_
          refine z_pushJ gp_164_41 ?_
          refine z_iadd (e := (J 50 15) + 1) gi_164_42 rfl ?_
          refine z_putI (y := 15) gi_164_43 rfl gk_50 ?_
          refine z_aload0 gi_164_46 ?_
          refine z_getI (v := (J 50 15) + 1) gi_164_47 gk_50 (zU_e) ?_
          refine z_iret gi_164_50 gr_164 ?_
          refine ⟨?_, ?_⟩
          · first | rfl | exact congrArg (fun v => some (zi v)) (by omega) | (exfalso; omega)
          · exfalso
            omega
        · refine z_pushJ gp_164_22 ?_
          refine z_iret gi_164_24 gr_164 ?_
          refine ⟨?_, ?_⟩
          · first | rfl | exact congrArg (fun v => some (zi v)) (by omega) | (exfalso; omega)
          · exact hr
  · refine z_iload1 rfl ?_
    refine z_pushJ gp_106_5 ?_
    refine z_icmp_le rfl (by omega) zr_255 (fun h2 => ?_) (fun h2 => ?_)
    · refine z_aload0 rfl ?_
      refine z_getR (r := 1) rfl gk_0 (hR _ rm_0_0) ?_
      refine z_iload1 rfl ?_
      refine z_cV1 rfl gk_1 go_25 (Nat.le_of_ble_eq_true rfl) gc_25_RI ?_
      refine z_aload0 rfl ?_
      refine z_getI (v := J 1 1) rfl gk_1 (rfl) ?_
      refine z_pushJ gp_25_4 ?_
      refine z_icmp_lt rfl (by omega) zr_120 (fun h3 => ?_) (fun h3 => ?_)
      · refine z_aload0 rfl ?_
        refine z_getR (r := 2) rfl gk_1 (hR _ rm_1_0) ?_
        refine z_aload0 rfl ?_
        refine z_getI (v := J 1 1) rfl gk_1 (rfl) ?_
        refine z_iload1 rfl ?_
        refine z_iast (e := x) rfl gk_2 (by decide) (by omega) rfl ?_
        refine z_aload0 rfl ?_
        refine z_dup rfl rfl ?_
        refine z_getI (v := J 1 1) rfl gk_1 ((zU_n (by decide)).trans (rfl)) ?_
        refine z_pushJ gp_25_26 ?_
        refine z_iadd (e := (J 1 1) + 1) rfl rfl ?_
        refine z_putI (y := 1) rfl rfl gk_1 ?_
        refine z_pushJ gp_25_31 ?_
        refine z_bret1 rfl gr_25 ?_
        show zW _ _ _ _ _ _ _ _ _ _
        refine z_if_eqF gi_106_21 zr_1 (by decide) ?_
        refine z_aload0 rfl ?_
        refine z_getR (r := 1) rfl gk_0 (hR _ rm_0_0) ?_
        refine z_getI (v := (J 1 1) + 1) rfl gk_1 (zU_e) ?_
        refine z_goto rfl ?_
        refine z_iret gi_106_36 gr_106 ?_
        refine ⟨_, rfl, ?_⟩
        show zW _ _ _ _ [some (.ref 50), some (zi x)] _ _ _ _ _
        refine z_iload1 gi_164_0 ?_
        refine z_pushJ gp_164_1 ?_
        refine z_pushJ gp_164_2 ?_
        refine z_cS3 gi_164_5 (Nat.le_of_ble_eq_true rfl) gc_148_III ?_
        refine z_iload0 gi_148_0 ?_
        refine z_iload1 gi_148_1 ?_
        refine z_icmp_lt gi_148_2 (by omega) zr_0 (fun h4 => ?_) (fun h4 => ?_)
        · refine z_pushJ gp_148_14 ?_
          refine z_bret0 gi_148_15 gr_148 ?_
          show zW _ _ _ _ _ _ _ _ _ _
          refine z_if_neF gi_164_8 zr_0 (by decide) ?_
          refine z_pushJ gp_164_11 ?_
          refine z_iret gi_164_12 gr_164 ?_
          refine ⟨?_, ?_⟩
          · first | rfl | exact congrArg (fun v => some (zi v)) (by omega) | (exfalso; omega)
          · exfalso
            omega
        · refine z_iload0 gi_148_5 ?_
          refine z_iload2 gi_148_6 ?_
          refine z_icmp_gt gi_148_7 (by omega) zr_255 (fun h5 => ?_) (fun h5 => ?_)
          · refine z_pushJ gp_148_14 ?_
            refine z_bret0 gi_148_15 gr_148 ?_
            show zW _ _ _ _ _ _ _ _ _ _
            refine z_if_neF gi_164_8 zr_0 (by decide) ?_
            refine z_pushJ gp_164_11 ?_
            refine z_iret gi_164_12 gr_164 ?_
            refine ⟨?_, ?_⟩
            · first | rfl | exact congrArg (fun v => some (zi v)) (by omega) | (exfalso; omega)
            · exfalso
              omega
          · refine z_pushJ gp_148_10 ?_
            refine z_goto gi_148_11 ?_
            refine z_bret1 gi_148_15 gr_148 ?_
            show zW _ _ _ _ _ _ _ _ _ _
            refine z_if_neT gi_164_8 zr_1 (by decide) ?_
            refine z_aload0 gi_164_13 ?_
            refine z_getI (v := J 50 15) gi_164_14 gk_50 ((zU_n (by decide)).trans ((zU_n (by decide)).trans (rfl))) ?_
            refine z_pushJ gp_164_17 ?_
            refine z_icmp_ne gi_164_19 (by omega) zr_120 (fun h6 => ?_) (fun h6 => ?_)
            · refine z_aload0 gi_164_25 ?_
              refine z_getR (r := 61) gi_164_26 gk_50 (hRr _ rm_50_14 (by decide)) ?_
              refine z_aload0 gi_164_29 ?_
              refine z_getI (v := J 50 15) gi_164_30 gk_50 ((zU_n (by decide)).trans ((zU_n (by decide)).trans (rfl))) ?_
              refine z_iload1 gi_164_33 ?_
              refine z_i2b (e := zb x) gi_164_34 rfl ?_
              refine z_bast (e := zb (zb x)) gi_164_35 gk_61 (by decide) (by omega) rfl ?_
              refine z_aload0 gi_164_36 ?_
              refine z_dup gi_164_37 rfl ?_
              refine z_getI (v := J 50 15) gi_164_38 gk_50 ((zU_n (by decide)).trans ((zU_n (by decide)).trans ((zU_n (by decide)).trans (rfl)))) ?_
              refine z_pushJ gp_164_41 ?_
              refine z_iadd (e := (J 50 15) + 1) gi_164_42 rfl ?_
              refine z_putI (y := 15) gi_164_43 rfl gk_50 ?_
              refine z_aload0 gi_164_46 ?_
              refine z_getI (v := (J 50 15) + 1) gi_164_47 gk_50 (zU_e) ?_
              refine z_iret gi_164_50 gr_164 ?_
              refine ⟨?_, ?_⟩
              · first | rfl | exact congrArg (fun v => some (zi v)) (by omega) | (exfalso; omega)
              · have hk := (zK_x (a := 50) (x := 15) (v := (J 50 15) + 1) (zK_x (a := 61) (x := J 50 15) (v := zb (zb x)) (zK_x (a := 1) (x := 1) (v := (J 1 1) + 1) (zK_x (a := 2) (x := J 1 1) (v := x) (zK_r (k := (kL [2, 61] [(1, 1), (50, 15)])) (A := J)) rfl) rfl) rfl) rfl)
                exact ⟨hR, hG, RelY_k hk (by repeat' constructor) (fun p => by repeat' constructor) hY, RelD_k hk (by repeat' constructor) (fun p => by repeat' constructor) hD, RelP_k hk (by repeat' constructor) (fun p => by repeat' constructor) hP, RelC_k hk (by repeat' constructor) (fun p => by repeat' constructor) hC, RelA_k hk (by repeat' constructor) (fun p => by repeat' constructor) hAc, RelS_k hk (zK_r (k := kM)) (fun x j a b => ⟨kL_38 (by decide) (by decide) x j a b, kM_38 x j a b⟩) (fun p => ⟨rfl, rfl, rfl⟩) rfl hS, RelT_feed hTp (by omega) (by omega), RelX_k hk (by repeat' constructor) (fun p => by repeat' constructor) hX, RelW_k hk ⟨rfl, rfl⟩ trivial hW⟩
            · refine z_pushJ gp_164_22 ?_
              refine z_iret gi_164_24 gr_164 ?_
              refine ⟨?_, ?_⟩
              · first | rfl | exact congrArg (fun v => some (zi v)) (by omega) | (exfalso; omega)
              · exfalso
                omega
      · refine z_pushJ gp_25_9 ?_
        refine z_bret0 rfl gr_25 ?_
        show zW _ _ _ _ _ _ _ _ _ _
        refine z_if_eqT gi_106_21 zr_0 (by decide) ?_
        refine z_pushJ gp_106_34 ?_
        refine z_iret gi_106_36 gr_106 ?_
        refine ⟨_, rfl, ?_⟩
        show zW _ _ _ _ [some (.ref 50), some (zi x)] _ _ _ _ _
        refine z_iload1 gi_164_0 ?_
        refine z_pushJ gp_164_1 ?_
        refine z_pushJ gp_164_2 ?_
        refine z_cS3 gi_164_5 (Nat.le_of_ble_eq_true rfl) gc_148_III ?_
        refine z_iload0 gi_148_0 ?_
        refine z_iload1 gi_148_1 ?_
        refine z_icmp_lt gi_148_2 (by omega) zr_0 (fun h4 => ?_) (fun h4 => ?_)
        · refine z_pushJ gp_148_14 ?_
          refine z_bret0 gi_148_15 gr_148 ?_
          show zW _ _ _ _ _ _ _ _ _ _
          refine z_if_neF gi_164_8 zr_0 (by decide) ?_
          refine z_pushJ gp_164_11 ?_
          refine z_iret gi_164_12 gr_164 ?_
          refine ⟨?_, ?_⟩
          · first | rfl | exact congrArg (fun v => some (zi v)) (by omega) | (exfalso; omega)
          · exact hr
        · refine z_iload0 gi_148_5 ?_
          refine z_iload2 gi_148_6 ?_
          refine z_icmp_gt gi_148_7 (by omega) zr_255 (fun h5 => ?_) (fun h5 => ?_)
          · refine z_pushJ gp_148_14 ?_
            refine z_bret0 gi_148_15 gr_148 ?_
            show zW _ _ _ _ _ _ _ _ _ _
            refine z_if_neF gi_164_8 zr_0 (by decide) ?_
            refine z_pushJ gp_164_11 ?_
            refine z_iret gi_164_12 gr_164 ?_
            refine ⟨?_, ?_⟩
            · first | rfl | exact congrArg (fun v => some (zi v)) (by omega) | (exfalso; omega)
            · exact hr
          · refine z_pushJ gp_148_10 ?_
            refine z_goto gi_148_11 ?_
            refine z_bret1 gi_148_15 gr_148 ?_
            show zW _ _ _ _ _ _ _ _ _ _
            refine z_if_neT gi_164_8 zr_1 (by decide) ?_
            refine z_aload0 gi_164_13 ?_
            refine z_getI (v := J 50 15) gi_164_14 gk_50 (rfl) ?_
            refine z_pushJ gp_164_17 ?_
            refine z_icmp_ne gi_164_19 (by omega) zr_120 (fun h6 => ?_) (fun h6 => ?_)
            · refine z_aload0 gi_164_25 ?_
              refine z_getR (r := 61) gi_164_26 gk_50 (hRr _ rm_50_14 (by decide)) ?_
              refine z_aload0 gi_164_29 ?_
              refine z_getI (v := J 50 15) gi_164_30 gk_50 (rfl) ?_
              refine z_iload1 gi_164_33 ?_
              refine z_i2b (e := zb x) gi_164_34 rfl ?_
              refine z_bast (e := zb (zb x)) gi_164_35 gk_61 (by decide) (by omega) rfl ?_
              refine z_aload0 gi_164_36 ?_
              refine z_dup gi_164_37 rfl ?_
              refine z_getI (v := J 50 15) gi_164_38 gk_50 ((zU_n (by decide)).trans (rfl)) ?_
              refine z_pushJ gp_164_41 ?_
              refine z_iadd (e := (J 50 15) + 1) gi_164_42 rfl ?_
              refine z_putI (y := 15) gi_164_43 rfl gk_50 ?_
              refine z_aload0 gi_164_46 ?_
              refine z_getI (v := (J 50 15) + 1) gi_164_47 gk_50 (zU_e) ?_
              refine z_iret gi_164_50 gr_164 ?_
              refine ⟨?_, ?_⟩
              · first | rfl | exact congrArg (fun v => some (zi v)) (by omega) | (exfalso; omega)
              · exfalso
                omega
            · refine z_pushJ gp_164_22 ?_
              refine z_iret gi_164_24 gr_164 ?_
              refine ⟨?_, ?_⟩
              · first | rfl | exact congrArg (fun v => some (zi v)) (by omega) | (exfalso; omega)
              · exact hr
    · refine z_pushJ gp_106_11 ?_
      refine z_iret gi_106_12 gr_106 ?_
      refine ⟨_, rfl, ?_⟩
      show zW _ _ _ _ [some (.ref 50), some (zi x)] _ _ _ _ _
      refine z_iload1 gi_164_0 ?_
      refine z_pushJ gp_164_1 ?_
      refine z_pushJ gp_164_2 ?_
      refine z_cS3 gi_164_5 (Nat.le_of_ble_eq_true rfl) gc_148_III ?_
      refine z_iload0 gi_148_0 ?_
      refine z_iload1 gi_148_1 ?_
      refine z_icmp_lt gi_148_2 (by omega) zr_0 (fun h4 => ?_) (fun h4 => ?_)
      · refine z_pushJ gp_148_14 ?_
        refine z_bret0 gi_148_15 gr_148 ?_
        show zW _ _ _ _ _ _ _ _ _ _
        refine z_if_neF gi_164_8 zr_0 (by decide) ?_
        refine z_pushJ gp_164_11 ?_
        refine z_iret gi_164_12 gr_164 ?_
        refine ⟨?_, ?_⟩
        · first | rfl | exact congrArg (fun v => some (zi v)) (by omega) | (exfalso; omega)
        · exact hr
      · refine z_iload0 gi_148_5 ?_
        refine z_iload2 gi_148_6 ?_
        refine z_icmp_gt gi_148_7 (by omega) zr_255 (fun h5 => ?_) (fun h5 => ?_)
        · refine z_pushJ gp_148_14 ?_
          refine z_bret0 gi_148_15 gr_148 ?_
          show zW _ _ _ _ _ _ _ _ _ _
          refine z_if_neF gi_164_8 zr_0 (by decide) ?_
          refine z_pushJ gp_164_11 ?_
          refine z_iret gi_164_12 gr_164 ?_
          refine ⟨?_, ?_⟩
          · first | rfl | exact congrArg (fun v => some (zi v)) (by omega) | (exfalso; omega)
          · exact hr
        · refine z_pushJ gp_148_10 ?_
          refine z_goto gi_148_11 ?_
          refine z_bret1 gi_148_15 gr_148 ?_
          show zW _ _ _ _ _ _ _ _ _ _
          refine z_if_neT gi_164_8 zr_1 (by decide) ?_
          refine z_aload0 gi_164_13 ?_
          refine z_getI (v := J 50 15) gi_164_14 gk_50 (rfl) ?_
          refine z_pushJ gp_164_17 ?_
          refine z_icmp_ne gi_164_19 (by omega) zr_120 (fun h6 => ?_) (fun h6 => ?_)
          · refine z_aload0 gi_164_25 ?_
            refine z_getR (r := 61) gi_164_26 gk_50 (hRr _ rm_50_14 (by decide)) ?_
            refine z_aload0 gi_164_29 ?_
            refine z_getI (v := J 50 15) gi_164_30 gk_50 (rfl) ?_
            refine z_iload1 gi_164_33 ?_
            refine z_i2b (e := zb x) gi_164_34 rfl ?_
            refine z_bast (e := zb (zb x)) gi_164_35 gk_61 (by decide) (by omega) rfl ?_
            refine z_aload0 gi_164_36 ?_
            refine z_dup gi_164_37 rfl ?_
            refine z_getI (v := J 50 15) gi_164_38 gk_50 ((zU_n (by decide)).trans (rfl)) ?_
            refine z_pushJ gp_164_41 ?_
            refine z_iadd (e := (J 50 15) + 1) gi_164_42 rfl ?_
            refine z_putI (y := 15) gi_164_43 rfl gk_50 ?_
            refine z_aload0 gi_164_46 ?_
            refine z_getI (v := (J 50 15) + 1) gi_164_47 gk_50 (zU_e) ?_
            refine z_iret gi_164_50 gr_164 ?_
            refine ⟨?_, ?_⟩
            · first | rfl | exact congrArg (fun v => some (zi v)) (by omega) | (exfalso; omega)
            · exfalso
              omega
          · refine z_pushJ gp_164_22 ?_
            refine z_iret gi_164_24 gr_164 ?_
            refine ⟨?_, ?_⟩
            · first | rfl | exact congrArg (fun v => some (zi v)) (by omega) | (exfalso; omega)
            · exact hr
theorem st_led {X : Nat × (Nat → Int32)} {d : Nat} {J M : zA} {R : zR} {w : Int} (hr : Rel X J M R) (hw : -2147483648 ≤ w ∧ w < 2147483648)  : zW X (d + 20) 128 0 (gEn 128 [(.ref 0), (zi w)]) [] J M R (stP X (d + 20) 227 [(zi w)]) := by
  have hr0 := hr
  obtain ⟨hR, hG, hY, hD, hP, hC, hAc, hS, hTp, hX, hW⟩ := hr0
  have hRr : zRoR R := zRoR_of hR
  have hY0 := hY
  obtain ⟨y1, y2, y3⟩ := hY0
  have yn := zNn y3
  have hD0 := hD
  obtain ⟨⟨d1, d2, d3, d4, d5, d6⟩, d7, d8, d9, d10, d11⟩ := hD0
  show zW _ _ _ _ [some (.ref 0), some (zi w)] _ _ _ _ _
  refine z_iload1 rfl ?_
  refine z_sw (T := [((0 : Int), 40), ((1 : Int), 48), ((2 : Int), 56), ((3 : Int), 64), ((4 : Int), 72), ((5 : Int), 80)]) rfl (by omega) rfl (fun q hq1 hxhq1 => ?_) (fun hq1 => ?_)
  · simp only [List.mem_cons, List.not_mem_nil, or_false] at hq1
    rcases hq1 with rfl | rfl | rfl | rfl | rfl | rfl
    · have hxhq1 : w = 0 := hxhq1
      refine z_aload0 rfl ?_
      refine z_getR (r := 23) rfl gk_0 (hR _ rm_0_6) ?_
      refine z_getI (v := J 23 3) rfl gk_23 (rfl) ?_
      refine z_iret rfl gr_128 ?_
      refine ⟨_, rfl, ?_⟩
      show zW _ _ _ _ [some (.ref 50), some (zi w)] _ _ _ _ _
      refine z_iload1 gi_227_0 ?_
      refine z_if_ne gi_227_1 (by omega) (fun h2 => ?_) (fun h2 => ?_)
      · refine z_iload1 gi_227_9 ?_
        refine z_pushJ gp_227_10 ?_
        refine z_icmp_ne gi_227_11 (by omega) zr_5 (fun h3 => ?_) (fun h3 => ?_)
        · refine z_iload1 gi_227_31 ?_
          refine z_pushJ gp_227_32 ?_
          refine z_pushJ gp_227_33 ?_
          refine z_cS3 gi_227_34 (Nat.le_of_ble_eq_true rfl) gc_148_III ?_
          refine z_iload0 gi_148_0 ?_
          refine z_iload1 gi_148_1 ?_
          refine z_icmp_lt gi_148_2 (by omega) zr_1 (fun h4 => ?_) (fun h4 => ?_)
          · refine z_pushJ gp_148_14 ?_
            refine z_bret0 gi_148_15 gr_148 ?_
            show zW _ _ _ _ _ _ _ _ _ _
            refine z_if_eqT gi_227_37 zr_0 (by decide) ?_
            refine z_pushJ gp_227_51 ?_
            refine z_iret gi_227_52 gr_227 ?_
            refine ⟨?_, ?_⟩
            · first | rfl | exact congrArg (fun v => some (zi v)) (by omega) | (refine congrArg (fun v => some (zi v)) ?_; first | (rw [show w - 1 = 0 by omega]; omega) | (rw [show w - 1 = 1 by omega]; omega) | (rw [show w - 1 = 2 by omega]; omega) | (rw [show w - 1 = 3 by omega]; omega)) | (exfalso; omega)
            · exact hr
          · refine z_iload0 gi_148_5 ?_
            refine z_iload2 gi_148_6 ?_
            refine z_icmp_gt gi_148_7 (by omega) zr_4 (fun h5 => ?_) (fun h5 => ?_)
            · refine z_pushJ gp_148_14 ?_
              refine z_bret0 gi_148_15 gr_148 ?_
              show zW _ _ _ _ _ _ _ _ _ _
              refine z_if_eqT gi_227_37 zr_0 (by decide) ?_
              refine z_pushJ gp_227_51 ?_
              refine z_iret gi_227_52 gr_227 ?_
              refine ⟨?_, ?_⟩
              · first | rfl | exact congrArg (fun v => some (zi v)) (by omega) | (refine congrArg (fun v => some (zi v)) ?_; first | (rw [show w - 1 = 0 by omega]; omega) | (rw [show w - 1 = 1 by omega]; omega) | (rw [show w - 1 = 2 by omega]; omega) | (rw [show w - 1 = 3 by omega]; omega)) | (exfalso; omega)
              · exact hr
            · refine z_pushJ gp_148_10 ?_
              refine z_goto gi_148_11 ?_
              refine z_bret1 gi_148_15 gr_148 ?_
              show zW _ _ _ _ _ _ _ _ _ _
              refine z_if_eqF gi_227_37 zr_1 (by decide) ?_
              refine z_aload0 gi_227_40 ?_
              refine z_getR (r := 77) gi_227_41 gk_50 (hRr _ rm_50_46 (by decide)) ?_
              refine z_iload1 gi_227_44 ?_
              refine z_pushJ gp_227_45 ?_
              refine z_isub (e := w - 1) gi_227_46 rfl ?_
              refine z_iald (v := J 77 (w - 1)) gi_227_47 gk_77 (by decide) (by omega) (rfl) ?_
              refine z_goto gi_227_48 ?_
              refine z_iret gi_227_52 gr_227 ?_
              refine ⟨?_, ?_⟩
              · first | rfl | exact congrArg (fun v => some (zi v)) (by omega) | (refine congrArg (fun v => some (zi v)) ?_; first | (rw [show w - 1 = 0 by omega]; omega) | (rw [show w - 1 = 1 by omega]; omega) | (rw [show w - 1 = 2 by omega]; omega) | (rw [show w - 1 = 3 by omega]; omega)) | (exfalso; omega)
              · exact hr
        · refine z_aload0 gi_227_14 ?_
          refine z_getI (v := J 50 44) gi_227_15 gk_50 (rfl) ?_
          refine z_if_ge gi_227_18 (by omega) (fun h6 => ?_) (fun h6 => ?_)
          · refine z_aload0 gi_227_26 ?_
            refine z_getI (v := J 50 44) gi_227_27 gk_50 (rfl) ?_
            refine z_iret gi_227_30 gr_227 ?_
            refine ⟨?_, ?_⟩
            · first | rfl | exact congrArg (fun v => some (zi v)) (by omega) | (refine congrArg (fun v => some (zi v)) ?_; first | (rw [show w - 1 = 0 by omega]; omega) | (rw [show w - 1 = 1 by omega]; omega) | (rw [show w - 1 = 2 by omega]; omega) | (rw [show w - 1 = 3 by omega]; omega)) | (exfalso; omega)
            · exact hr
          · refine z_pushJ gp_227_21 ?_
            refine z_goto gi_227_23 ?_
            refine z_iret gi_227_30 gr_227 ?_
            refine ⟨?_, ?_⟩
            · first | rfl | exact congrArg (fun v => some (zi v)) (by omega) | (refine congrArg (fun v => some (zi v)) ?_; first | (rw [show w - 1 = 0 by omega]; omega) | (rw [show w - 1 = 1 by omega]; omega) | (rw [show w - 1 = 2 by omega]; omega) | (rw [show w - 1 = 3 by omega]; omega)) | (exfalso; omega)
            · exact hr
      · refine z_aload0 gi_227_4 ?_
        refine z_getI (v := J 50 45) gi_227_5 gk_50 (rfl) ?_
        refine z_iret gi_227_8 gr_227 ?_
        refine ⟨?_, ?_⟩
        · first | rfl | exact congrArg (fun v => some (zi v)) (by omega) | (refine congrArg (fun v => some (zi v)) ?_; first | (rw [show w - 1 = 0 by omega]; omega) | (rw [show w - 1 = 1 by omega]; omega) | (rw [show w - 1 = 2 by omega]; omega) | (rw [show w - 1 = 3 by omega]; omega)) | (exfalso; omega)
        · exact hr
    · have hxhq1 : w = 1 := hxhq1
      refine z_aload0 rfl ?_
      refine z_getR (r := 23) rfl gk_0 (hR _ rm_0_6) ?_
      refine z_getI (v := J 23 5) rfl gk_23 (rfl) ?_
      refine z_iret rfl gr_128 ?_
      refine ⟨_, rfl, ?_⟩
      show zW _ _ _ _ [some (.ref 50), some (zi w)] _ _ _ _ _
      refine z_iload1 gi_227_0 ?_
      refine z_if_ne gi_227_1 (by omega) (fun h2 => ?_) (fun h2 => ?_)
      · refine z_iload1 gi_227_9 ?_
        refine z_pushJ gp_227_10 ?_
        refine z_icmp_ne gi_227_11 (by omega) zr_5 (fun h3 => ?_) (fun h3 => ?_)
        · refine z_iload1 gi_227_31 ?_
          refine z_pushJ gp_227_32 ?_
          refine z_pushJ gp_227_33 ?_
          refine z_cS3 gi_227_34 (Nat.le_of_ble_eq_true rfl) gc_148_III ?_
          refine z_iload0 gi_148_0 ?_
          refine z_iload1 gi_148_1 ?_
          refine z_icmp_lt gi_148_2 (by omega) zr_1 (fun h4 => ?_) (fun h4 => ?_)
          · refine z_pushJ gp_148_14 ?_
            refine z_bret0 gi_148_15 gr_148 ?_
            show zW _ _ _ _ _ _ _ _ _ _
            refine z_if_eqT gi_227_37 zr_0 (by decide) ?_
            refine z_pushJ gp_227_51 ?_
            refine z_iret gi_227_52 gr_227 ?_
            refine ⟨?_, ?_⟩
            · first | rfl | exact congrArg (fun v => some (zi v)) (by omega) | (refine congrArg (fun v => some (zi v)) ?_; first | (rw [show w - 1 = 0 by omega]; omega) | (rw [show w - 1 = 1 by omega]; omega) | (rw [show w - 1 = 2 by omega]; omega) | (rw [show w - 1 = 3 by omega]; omega)) | (exfalso; omega)
            · exact hr
          · refine z_iload0 gi_148_5 ?_
            refine z_iload2 gi_148_6 ?_
            refine z_icmp_gt gi_148_7 (by omega) zr_4 (fun h5 => ?_) (fun h5 => ?_)
            · refine z_pushJ gp_148_14 ?_
              refine z_bret0 gi_148_15 gr_148 ?_
              show zW _ _ _ _ _ _ _ _ _ _
              refine z_if_eqT gi_227_37 zr_0 (by decide) ?_
              refine z_pushJ gp_227_51 ?_
              refine z_iret gi_227_52 gr_227 ?_
              refine ⟨?_, ?_⟩
              · first | rfl | exact congrArg (fun v => some (zi v)) (by omega) | (refine congrArg (fun v => some (zi v)) ?_; first | (rw [show w - 1 = 0 by omega]; omega) | (rw [show w - 1 = 1 by omega]; omega) | (rw [show w - 1 = 2 by omega]; omega) | (rw [show w - 1 = 3 by omega]; omega)) | (exfalso; omega)
              · exact hr
            · refine z_pushJ gp_148_10 ?_
              refine z_goto gi_148_11 ?_
              refine z_bret1 gi_148_15 gr_148 ?_
              show zW _ _ _ _ _ _ _ _ _ _
              refine z_if_eqF gi_227_37 zr_1 (by decide) ?_
              refine z_aload0 gi_227_40 ?_
              refine z_getR (r := 77) gi_227_41 gk_50 (hRr _ rm_50_46 (by decide)) ?_
              refine z_iload1 gi_227_44 ?_
              refine z_pushJ gp_227_45 ?_
              refine z_isub (e := w - 1) gi_227_46 rfl ?_
              refine z_iald (v := J 77 (w - 1)) gi_227_47 gk_77 (by decide) (by omega) (rfl) ?_
              refine z_goto gi_227_48 ?_
              refine z_iret gi_227_52 gr_227 ?_
              refine ⟨?_, ?_⟩
              · first | rfl | exact congrArg (fun v => some (zi v)) (by omega) | (refine congrArg (fun v => some (zi v)) ?_; first | (rw [show w - 1 = 0 by omega]; omega) | (rw [show w - 1 = 1 by omega]; omega) | (rw [show w - 1 = 2 by omega]; omega) | (rw [show w - 1 = 3 by omega]; omega)) | (exfalso; omega)
              · exact hr
        · refine z_aload0 gi_227_14 ?_
          refine z_getI (v := J 50 44) gi_227_15 gk_50 (rfl) ?_
          refine z_if_ge gi_227_18 (by omega) (fun h6 => ?_) (fun h6 => ?_)
          · refine z_aload0 gi_227_26 ?_
            refine z_getI (v := J 50 44) gi_227_27 gk_50 (rfl) ?_
            refine z_iret gi_227_30 gr_227 ?_
            refine ⟨?_, ?_⟩
            · first | rfl | exact congrArg (fun v => some (zi v)) (by omega) | (refine congrArg (fun v => some (zi v)) ?_; first | (rw [show w - 1 = 0 by omega]; omega) | (rw [show w - 1 = 1 by omega]; omega) | (rw [show w - 1 = 2 by omega]; omega) | (rw [show w - 1 = 3 by omega]; omega)) | (exfalso; omega)
            · exact hr
          · refine z_pushJ gp_227_21 ?_
            refine z_goto gi_227_23 ?_
            refine z_iret gi_227_30 gr_227 ?_
            refine ⟨?_, ?_⟩
            · first | rfl | exact congrArg (fun v => some (zi v)) (by omega) | (refine congrArg (fun v => some (zi v)) ?_; first | (rw [show w - 1 = 0 by omega]; omega) | (rw [show w - 1 = 1 by omega]; omega) | (rw [show w - 1 = 2 by omega]; omega) | (rw [show w - 1 = 3 by omega]; omega)) | (exfalso; omega)
            · exact hr
      · refine z_aload0 gi_227_4 ?_
        refine z_getI (v := J 50 45) gi_227_5 gk_50 (rfl) ?_
        refine z_iret gi_227_8 gr_227 ?_
        refine ⟨?_, ?_⟩
        · first | rfl | exact congrArg (fun v => some (zi v)) (by omega) | (refine congrArg (fun v => some (zi v)) ?_; first | (rw [show w - 1 = 0 by omega]; omega) | (rw [show w - 1 = 1 by omega]; omega) | (rw [show w - 1 = 2 by omega]; omega) | (rw [show w - 1 = 3 by omega]; omega)) | (exfalso; omega)
        · exact hr
    · have hxhq1 : w = 2 := hxhq1
      refine z_aload0 rfl ?_
      refine z_getR (r := 23) rfl gk_0 (hR _ rm_0_6) ?_
      refine z_getI (v := J 23 6) rfl gk_23 (rfl) ?_
      refine z_iret rfl gr_128 ?_
      refine ⟨_, rfl, ?_⟩
      show zW _ _ _ _ [some (.ref 50), some (zi w)] _ _ _ _ _
      refine z_iload1 gi_227_0 ?_
      refine z_if_ne gi_227_1 (by omega) (fun h2 => ?_) (fun h2 => ?_)
      · refine z_iload1 gi_227_9 ?_
        refine z_pushJ gp_227_10 ?_
        refine z_icmp_ne gi_227_11 (by omega) zr_5 (fun h3 => ?_) (fun h3 => ?_)
        · refine z_iload1 gi_227_31 ?_
          refine z_pushJ gp_227_32 ?_
          refine z_pushJ gp_227_33 ?_
          refine z_cS3 gi_227_34 (Nat.le_of_ble_eq_true rfl) gc_148_III ?_
          refine z_iload0 gi_148_0 ?_
          refine z_iload1 gi_148_1 ?_
          refine z_icmp_lt gi_148_2 (by omega) zr_1 (fun h4 => ?_) (fun h4 => ?_)
          · refine z_pushJ gp_148_14 ?_
            refine z_bret0 gi_148_15 gr_148 ?_
            show zW _ _ _ _ _ _ _ _ _ _
            refine z_if_eqT gi_227_37 zr_0 (by decide) ?_
            refine z_pushJ gp_227_51 ?_
            refine z_iret gi_227_52 gr_227 ?_
            refine ⟨?_, ?_⟩
            · first | rfl | exact congrArg (fun v => some (zi v)) (by omega) | (refine congrArg (fun v => some (zi v)) ?_; first | (rw [show w - 1 = 0 by omega]; omega) | (rw [show w - 1 = 1 by omega]; omega) | (rw [show w - 1 = 2 by omega]; omega) | (rw [show w - 1 = 3 by omega]; omega)) | (exfalso; omega)
            · exact hr
          · refine z_iload0 gi_148_5 ?_
            refine z_iload2 gi_148_6 ?_
            refine z_icmp_gt gi_148_7 (by omega) zr_4 (fun h5 => ?_) (fun h5 => ?_)
            · refine z_pushJ gp_148_14 ?_
              refine z_bret0 gi_148_15 gr_148 ?_
              show zW _ _ _ _ _ _ _ _ _ _
              refine z_if_eqT gi_227_37 zr_0 (by decide) ?_
              refine z_pushJ gp_227_51 ?_
              refine z_iret gi_227_52 gr_227 ?_
              refine ⟨?_, ?_⟩
              · first | rfl | exact congrArg (fun v => some (zi v)) (by omega) | (refine congrArg (fun v => some (zi v)) ?_; first | (rw [show w - 1 = 0 by omega]; omega) | (rw [show w - 1 = 1 by omega]; omega) | (rw [show w - 1 = 2 by omega]; omega) | (rw [show w - 1 = 3 by omega]; omega)) | (exfalso; omega)
              · exact hr
            · refine z_pushJ gp_148_10 ?_
              refine z_goto gi_148_11 ?_
              refine z_bret1 gi_148_15 gr_148 ?_
              show zW _ _ _ _ _ _ _ _ _ _
              refine z_if_eqF gi_227_37 zr_1 (by decide) ?_
              refine z_aload0 gi_227_40 ?_
              refine z_getR (r := 77) gi_227_41 gk_50 (hRr _ rm_50_46 (by decide)) ?_
              refine z_iload1 gi_227_44 ?_
              refine z_pushJ gp_227_45 ?_
              refine z_isub (e := w - 1) gi_227_46 rfl ?_
              refine z_iald (v := J 77 (w - 1)) gi_227_47 gk_77 (by decide) (by omega) (rfl) ?_
              refine z_goto gi_227_48 ?_
              refine z_iret gi_227_52 gr_227 ?_
              refine ⟨?_, ?_⟩
              · first | rfl | exact congrArg (fun v => some (zi v)) (by omega) | (refine congrArg (fun v => some (zi v)) ?_; first | (rw [show w - 1 = 0 by omega]; omega) | (rw [show w - 1 = 1 by omega]; omega) | (rw [show w - 1 = 2 by omega]; omega) | (rw [show w - 1 = 3 by omega]; omega)) | (exfalso; omega)
              · exact hr
        · refine z_aload0 gi_227_14 ?_
          refine z_getI (v := J 50 44) gi_227_15 gk_50 (rfl) ?_
          refine z_if_ge gi_227_18 (by omega) (fun h6 => ?_) (fun h6 => ?_)
          · refine z_aload0 gi_227_26 ?_
            refine z_getI (v := J 50 44) gi_227_27 gk_50 (rfl) ?_
            refine z_iret gi_227_30 gr_227 ?_
            refine ⟨?_, ?_⟩
            · first | rfl | exact congrArg (fun v => some (zi v)) (by omega) | (refine congrArg (fun v => some (zi v)) ?_; first | (rw [show w - 1 = 0 by omega]; omega) | (rw [show w - 1 = 1 by omega]; omega) | (rw [show w - 1 = 2 by omega]; omega) | (rw [show w - 1 = 3 by omega]; omega)) | (exfalso; omega)
            · exact hr
          · refine z_pushJ gp_227_21 ?_
            refine z_goto gi_227_23 ?_
            refine z_iret gi_227_30 gr_227 ?_
            refine ⟨?_, ?_⟩
            · first | rfl | exact congrArg (fun v => some (zi v)) (by omega) | (refine congrArg (fun v => some (zi v)) ?_; first | (rw [show w - 1 = 0 by omega]; omega) | (rw [show w - 1 = 1 by omega]; omega) | (rw [show w - 1 = 2 by omega]; omega) | (rw [show w - 1 = 3 by omega]; omega)) | (exfalso; omega)
            · exact hr
      · refine z_aload0 gi_227_4 ?_
        refine z_getI (v := J 50 45) gi_227_5 gk_50 (rfl) ?_
        refine z_iret gi_227_8 gr_227 ?_
        refine ⟨?_, ?_⟩
        · first | rfl | exact congrArg (fun v => some (zi v)) (by omega) | (refine congrArg (fun v => some (zi v)) ?_; first | (rw [show w - 1 = 0 by omega]; omega) | (rw [show w - 1 = 1 by omega]; omega) | (rw [show w - 1 = 2 by omega]; omega) | (rw [show w - 1 = 3 by omega]; omega)) | (exfalso; omega)
        · exact hr
    · have hxhq1 : w = 3 := hxhq1
      refine z_aload0 rfl ?_
      refine z_getR (r := 23) rfl gk_0 (hR _ rm_0_6) ?_
      refine z_getI (v := J 23 7) rfl gk_23 (rfl) ?_
      refine z_iret rfl gr_128 ?_
      refine ⟨_, rfl, ?_⟩
      show zW _ _ _ _ [some (.ref 50), some (zi w)] _ _ _ _ _
      refine z_iload1 gi_227_0 ?_
      refine z_if_ne gi_227_1 (by omega) (fun h2 => ?_) (fun h2 => ?_)
      · refine z_iload1 gi_227_9 ?_
        refine z_pushJ gp_227_10 ?_
        refine z_icmp_ne gi_227_11 (by omega) zr_5 (fun h3 => ?_) (fun h3 => ?_)
        · refine z_iload1 gi_227_31 ?_
          refine z_pushJ gp_227_32 ?_
          refine z_pushJ gp_227_33 ?_
          refine z_cS3 gi_227_34 (Nat.le_of_ble_eq_true rfl) gc_148_III ?_
          refine z_iload0 gi_148_0 ?_
          refine z_iload1 gi_148_1 ?_
          refine z_icmp_lt gi_148_2 (by omega) zr_1 (fun h4 => ?_) (fun h4 => ?_)
          · refine z_pushJ gp_148_14 ?_
            refine z_bret0 gi_148_15 gr_148 ?_
            show zW _ _ _ _ _ _ _ _ _ _
            refine z_if_eqT gi_227_37 zr_0 (by decide) ?_
            refine z_pushJ gp_227_51 ?_
            refine z_iret gi_227_52 gr_227 ?_
            refine ⟨?_, ?_⟩
            · first | rfl | exact congrArg (fun v => some (zi v)) (by omega) | (refine congrArg (fun v => some (zi v)) ?_; first | (rw [show w - 1 = 0 by omega]; omega) | (rw [show w - 1 = 1 by omega]; omega) | (rw [show w - 1 = 2 by omega]; omega) | (rw [show w - 1 = 3 by omega]; omega)) | (exfalso; omega)
            · exact hr
          · refine z_iload0 gi_148_5 ?_
            refine z_iload2 gi_148_6 ?_
            refine z_icmp_gt gi_148_7 (by omega) zr_4 (fun h5 => ?_) (fun h5 => ?_)
            · refine z_pushJ gp_148_14 ?_
              refine z_bret0 gi_148_15 gr_148 ?_
              show zW _ _ _ _ _ _ _ _ _ _
              refine z_if_eqT gi_227_37 zr_0 (by decide) ?_
              refine z_pushJ gp_227_51 ?_
              refine z_iret gi_227_52 gr_227 ?_
              refine ⟨?_, ?_⟩
              · first | rfl | exact congrArg (fun v => some (zi v)) (by omega) | (refine congrArg (fun v => some (zi v)) ?_; first | (rw [show w - 1 = 0 by omega]; omega) | (rw [show w - 1 = 1 by omega]; omega) | (rw [show w - 1 = 2 by omega]; omega) | (rw [show w - 1 = 3 by omega]; omega)) | (exfalso; omega)
              · exact hr
            · refine z_pushJ gp_148_10 ?_
              refine z_goto gi_148_11 ?_
              refine z_bret1 gi_148_15 gr_148 ?_
              show zW _ _ _ _ _ _ _ _ _ _
              refine z_if_eqF gi_227_37 zr_1 (by decide) ?_
              refine z_aload0 gi_227_40 ?_
              refine z_getR (r := 77) gi_227_41 gk_50 (hRr _ rm_50_46 (by decide)) ?_
              refine z_iload1 gi_227_44 ?_
              refine z_pushJ gp_227_45 ?_
              refine z_isub (e := w - 1) gi_227_46 rfl ?_
              refine z_iald (v := J 77 (w - 1)) gi_227_47 gk_77 (by decide) (by omega) (rfl) ?_
              refine z_goto gi_227_48 ?_
              refine z_iret gi_227_52 gr_227 ?_
              refine ⟨?_, ?_⟩
              · first | rfl | exact congrArg (fun v => some (zi v)) (by omega) | (refine congrArg (fun v => some (zi v)) ?_; first | (rw [show w - 1 = 0 by omega]; omega) | (rw [show w - 1 = 1 by omega]; omega) | (rw [show w - 1 = 2 by omega]; omega) | (rw [show w - 1 = 3 by omega]; omega)) | (exfalso; omega)
              · exact hr
        · refine z_aload0 gi_227_14 ?_
          refine z_getI (v := J 50 44) gi_227_15 gk_50 (rfl) ?_
          refine z_if_ge gi_227_18 (by omega) (fun h6 => ?_) (fun h6 => ?_)
          · refine z_aload0 gi_227_26 ?_
            refine z_getI (v := J 50 44) gi_227_27 gk_50 (rfl) ?_
            refine z_iret gi_227_30 gr_227 ?_
            refine ⟨?_, ?_⟩
            · first | rfl | exact congrArg (fun v => some (zi v)) (by omega) | (refine congrArg (fun v => some (zi v)) ?_; first | (rw [show w - 1 = 0 by omega]; omega) | (rw [show w - 1 = 1 by omega]; omega) | (rw [show w - 1 = 2 by omega]; omega) | (rw [show w - 1 = 3 by omega]; omega)) | (exfalso; omega)
            · exact hr
          · refine z_pushJ gp_227_21 ?_
            refine z_goto gi_227_23 ?_
            refine z_iret gi_227_30 gr_227 ?_
            refine ⟨?_, ?_⟩
            · first | rfl | exact congrArg (fun v => some (zi v)) (by omega) | (refine congrArg (fun v => some (zi v)) ?_; first | (rw [show w - 1 = 0 by omega]; omega) | (rw [show w - 1 = 1 by omega]; omega) | (rw [show w - 1 = 2 by omega]; omega) | (rw [show w - 1 = 3 by omega]; omega)) | (exfalso; omega)
            · exact hr
      · refine z_aload0 gi_227_4 ?_
        refine z_getI (v := J 50 45) gi_227_5 gk_50 (rfl) ?_
        refine z_iret gi_227_8 gr_227 ?_
        refine ⟨?_, ?_⟩
        · first | rfl | exact congrArg (fun v => some (zi v)) (by omega) | (refine congrArg (fun v => some (zi v)) ?_; first | (rw [show w - 1 = 0 by omega]; omega) | (rw [show w - 1 = 1 by omega]; omega) | (rw [show w - 1 = 2 by omega]; omega) | (rw [show w - 1 = 3 by omega]; omega)) | (exfalso; omega)
        · exact hr
    · have hxhq1 : w = 4 := hxhq1
      refine z_aload0 rfl ?_
      refine z_getR (r := 23) rfl gk_0 (hR _ rm_0_6) ?_
      refine z_getI (v := J 23 8) rfl gk_23 (rfl) ?_
      refine z_iret rfl gr_128 ?_
      refine ⟨_, rfl, ?_⟩
      show zW _ _ _ _ [some (.ref 50), some (zi w)] _ _ _ _ _
      refine z_iload1 gi_227_0 ?_
      refine z_if_ne gi_227_1 (by omega) (fun h2 => ?_) (fun h2 => ?_)
      · refine z_iload1 gi_227_9 ?_
        refine z_pushJ gp_227_10 ?_
        refine z_icmp_ne gi_227_11 (by omega) zr_5 (fun h3 => ?_) (fun h3 => ?_)
        · refine z_iload1 gi_227_31 ?_
          refine z_pushJ gp_227_32 ?_
          refine z_pushJ gp_227_33 ?_
          refine z_cS3 gi_227_34 (Nat.le_of_ble_eq_true rfl) gc_148_III ?_
          refine z_iload0 gi_148_0 ?_
          refine z_iload1 gi_148_1 ?_
          refine z_icmp_lt gi_148_2 (by omega) zr_1 (fun h4 => ?_) (fun h4 => ?_)
          · refine z_pushJ gp_148_14 ?_
            refine z_bret0 gi_148_15 gr_148 ?_
            show zW _ _ _ _ _ _ _ _ _ _
            refine z_if_eqT gi_227_37 zr_0 (by decide) ?_
            refine z_pushJ gp_227_51 ?_
            refine z_iret gi_227_52 gr_227 ?_
            refine ⟨?_, ?_⟩
            · first | rfl | exact congrArg (fun v => some (zi v)) (by omega) | (refine congrArg (fun v => some (zi v)) ?_; first | (rw [show w - 1 = 0 by omega]; omega) | (rw [show w - 1 = 1 by omega]; omega) | (rw [show w - 1 = 2 by omega]; omega) | (rw [show w - 1 = 3 by omega]; omega)) | (exfalso; omega)
            · exact hr
          · refine z_iload0 gi_148_5 ?_
            refine z_iload2 gi_148_6 ?_
            refine z_icmp_gt gi_148_7 (by omega) zr_4 (fun h5 => ?_) (fun h5 => ?_)
            · refine z_pushJ gp_148_14 ?_
              refine z_bret0 gi_148_15 gr_148 ?_
              show zW _ _ _ _ _ _ _ _ _ _
              refine z_if_eqT gi_227_37 zr_0 (by decide) ?_
              refine z_pushJ gp_227_51 ?_
              refine z_iret gi_227_52 gr_227 ?_
              refine ⟨?_, ?_⟩
              · first | rfl | exact congrArg (fun v => some (zi v)) (by omega) | (refine congrArg (fun v => some (zi v)) ?_; first | (rw [show w - 1 = 0 by omega]; omega) | (rw [show w - 1 = 1 by omega]; omega) | (rw [show w - 1 = 2 by omega]; omega) | (rw [show w - 1 = 3 by omega]; omega)) | (exfalso; omega)
              · exact hr
            · refine z_pushJ gp_148_10 ?_
              refine z_goto gi_148_11 ?_
              refine z_bret1 gi_148_15 gr_148 ?_
              show zW _ _ _ _ _ _ _ _ _ _
              refine z_if_eqF gi_227_37 zr_1 (by decide) ?_
              refine z_aload0 gi_227_40 ?_
              refine z_getR (r := 77) gi_227_41 gk_50 (hRr _ rm_50_46 (by decide)) ?_
              refine z_iload1 gi_227_44 ?_
              refine z_pushJ gp_227_45 ?_
              refine z_isub (e := w - 1) gi_227_46 rfl ?_
              refine z_iald (v := J 77 (w - 1)) gi_227_47 gk_77 (by decide) (by omega) (rfl) ?_
              refine z_goto gi_227_48 ?_
              refine z_iret gi_227_52 gr_227 ?_
              refine ⟨?_, ?_⟩
              · first | rfl | exact congrArg (fun v => some (zi v)) (by omega) | (refine congrArg (fun v => some (zi v)) ?_; first | (rw [show w - 1 = 0 by omega]; omega) | (rw [show w - 1 = 1 by omega]; omega) | (rw [show w - 1 = 2 by omega]; omega) | (rw [show w - 1 = 3 by omega]; omega)) | (exfalso; omega)
              · exact hr
        · refine z_aload0 gi_227_14 ?_
          refine z_getI (v := J 50 44) gi_227_15 gk_50 (rfl) ?_
          refine z_if_ge gi_227_18 (by omega) (fun h6 => ?_) (fun h6 => ?_)
          · refine z_aload0 gi_227_26 ?_
            refine z_getI (v := J 50 44) gi_227_27 gk_50 (rfl) ?_
            refine z_iret gi_227_30 gr_227 ?_
            refine ⟨?_, ?_⟩
            · first | rfl | exact congrArg (fun v => some (zi v)) (by omega) | (refine congrArg (fun v => some (zi v)) ?_; first | (rw [show w - 1 = 0 by omega]; omega) | (rw [show w - 1 = 1 by omega]; omega) | (rw [show w - 1 = 2 by omega]; omega) | (rw [show w - 1 = 3 by omega]; omega)) | (exfalso; omega)
            · exact hr
          · refine z_pushJ gp_227_21 ?_
            refine z_goto gi_227_23 ?_
            refine z_iret gi_227_30 gr_227 ?_
            refine ⟨?_, ?_⟩
            · first | rfl | exact congrArg (fun v => some (zi v)) (by omega) | (refine congrArg (fun v => some (zi v)) ?_; first | (rw [show w - 1 = 0 by omega]; omega) | (rw [show w - 1 = 1 by omega]; omega) | (rw [show w - 1 = 2 by omega]; omega) | (rw [show w - 1 = 3 by omega]; omega)) | (exfalso; omega)
            · exact hr
      · refine z_aload0 gi_227_4 ?_
        refine z_getI (v := J 50 45) gi_227_5 gk_50 (rfl) ?_
        refine z_iret gi_227_8 gr_227 ?_
        refine ⟨?_, ?_⟩
        · first | rfl | exact congrArg (fun v => some (zi v)) (by omega) | (refine congrArg (fun v => some (zi v)) ?_; first | (rw [show w - 1 = 0 by omega]; omega) | (rw [show w - 1 = 1 by omega]; omega) | (rw [show w - 1 = 2 by omega]; omega) | (rw [show w - 1 = 3 by omega]; omega)) | (exfalso; omega)
        · exact hr
    · have hxhq1 : w = 5 := hxhq1
      refine z_aload0 rfl ?_
      refine z_getR (r := 23) rfl gk_0 (hR _ rm_0_6) ?_
      refine z_getI (v := J 23 4) rfl gk_23 (rfl) ?_
      refine z_if_ge rfl (by omega) (fun h2 => ?_) (fun h2 => ?_)
      · refine z_aload0 rfl ?_
        refine z_getR (r := 23) rfl gk_0 (hR _ rm_0_6) ?_
        refine z_getI (v := J 23 4) rfl gk_23 (rfl) ?_
        refine z_iret gi_128_102 gr_128 ?_
        refine ⟨_, rfl, ?_⟩
        show zW _ _ _ _ [some (.ref 50), some (zi w)] _ _ _ _ _
        refine z_iload1 gi_227_0 ?_
        refine z_if_ne gi_227_1 (by omega) (fun h3 => ?_) (fun h3 => ?_)
        · refine z_iload1 gi_227_9 ?_
          refine z_pushJ gp_227_10 ?_
          refine z_icmp_ne gi_227_11 (by omega) zr_5 (fun h4 => ?_) (fun h4 => ?_)
          · refine z_iload1 gi_227_31 ?_
            refine z_pushJ gp_227_32 ?_
            refine z_pushJ gp_227_33 ?_
            refine z_cS3 gi_227_34 (Nat.le_of_ble_eq_true rfl) gc_148_III ?_
            refine z_iload0 gi_148_0 ?_
            refine z_iload1 gi_148_1 ?_
            refine z_icmp_lt gi_148_2 (by omega) zr_1 (fun h5 => ?_) (fun h5 => ?_)
            · refine z_pushJ gp_148_14 ?_
              refine z_bret0 gi_148_15 gr_148 ?_
              show zW _ _ _ _ _ _ _ _ _ _
              refine z_if_eqT gi_227_37 zr_0 (by decide) ?_
              refine z_pushJ gp_227_51 ?_
              refine z_iret gi_227_52 gr_227 ?_
              refine ⟨?_, ?_⟩
              · first | rfl | exact congrArg (fun v => some (zi v)) (by omega) | (refine congrArg (fun v => some (zi v)) ?_; first | (rw [show w - 1 = 0 by omega]; omega) | (rw [show w - 1 = 1 by omega]; omega) | (rw [show w - 1 = 2 by omega]; omega) | (rw [show w - 1 = 3 by omega]; omega)) | (exfalso; omega)
              · exact hr
            · refine z_iload0 gi_148_5 ?_
              refine z_iload2 gi_148_6 ?_
              refine z_icmp_gt gi_148_7 (by omega) zr_4 (fun h6 => ?_) (fun h6 => ?_)
              · refine z_pushJ gp_148_14 ?_
                refine z_bret0 gi_148_15 gr_148 ?_
                show zW _ _ _ _ _ _ _ _ _ _
                refine z_if_eqT gi_227_37 zr_0 (by decide) ?_
                refine z_pushJ gp_227_51 ?_
                refine z_iret gi_227_52 gr_227 ?_
                refine ⟨?_, ?_⟩
                · first | rfl | exact congrArg (fun v => some (zi v)) (by omega) | (refine congrArg (fun v => some (zi v)) ?_; first | (rw [show w - 1 = 0 by omega]; omega) | (rw [show w - 1 = 1 by omega]; omega) | (rw [show w - 1 = 2 by omega]; omega) | (rw [show w - 1 = 3 by omega]; omega)) | (exfalso; omega)
                · exact hr
              · refine z_pushJ gp_148_10 ?_
                refine z_goto gi_148_11 ?_
                refine z_bret1 gi_148_15 gr_148 ?_
                show zW _ _ _ _ _ _ _ _ _ _
                refine z_if_eqF gi_227_37 zr_1 (by decide) ?_
                refine z_aload0 gi_227_40 ?_
                refine z_getR (r := 77) gi_227_41 gk_50 (hRr _ rm_50_46 (by decide)) ?_
                refine z_iload1 gi_227_44 ?_
                refine z_pushJ gp_227_45 ?_
                refine z_isub (e := w - 1) gi_227_46 rfl ?_
                refine z_iald (v := J 77 (w - 1)) gi_227_47 gk_77 (by decide) (by omega) (rfl) ?_
                refine z_goto gi_227_48 ?_
                refine z_iret gi_227_52 gr_227 ?_
                refine ⟨?_, ?_⟩
                · first | rfl | exact congrArg (fun v => some (zi v)) (by omega) | (refine congrArg (fun v => some (zi v)) ?_; first | (rw [show w - 1 = 0 by omega]; omega) | (rw [show w - 1 = 1 by omega]; omega) | (rw [show w - 1 = 2 by omega]; omega) | (rw [show w - 1 = 3 by omega]; omega)) | (exfalso; omega)
                · exact hr
          · refine z_aload0 gi_227_14 ?_
            refine z_getI (v := J 50 44) gi_227_15 gk_50 (rfl) ?_
            refine z_if_ge gi_227_18 (by omega) (fun h7 => ?_) (fun h7 => ?_)
            · refine z_aload0 gi_227_26 ?_
              refine z_getI (v := J 50 44) gi_227_27 gk_50 (rfl) ?_
              refine z_iret gi_227_30 gr_227 ?_
              refine ⟨?_, ?_⟩
              · first | rfl | exact congrArg (fun v => some (zi v)) (by omega) | (refine congrArg (fun v => some (zi v)) ?_; first | (rw [show w - 1 = 0 by omega]; omega) | (rw [show w - 1 = 1 by omega]; omega) | (rw [show w - 1 = 2 by omega]; omega) | (rw [show w - 1 = 3 by omega]; omega)) | (exfalso; omega)
              · exact hr
            · refine z_pushJ gp_227_21 ?_
              refine z_goto gi_227_23 ?_
              refine z_iret gi_227_30 gr_227 ?_
              refine ⟨?_, ?_⟩
              · first | rfl | exact congrArg (fun v => some (zi v)) (by omega) | (refine congrArg (fun v => some (zi v)) ?_; first | (rw [show w - 1 = 0 by omega]; omega) | (rw [show w - 1 = 1 by omega]; omega) | (rw [show w - 1 = 2 by omega]; omega) | (rw [show w - 1 = 3 by omega]; omega)) | (exfalso; omega)
              · exact hr
        · refine z_aload0 gi_227_4 ?_
          refine z_getI (v := J 50 45) gi_227_5 gk_50 (rfl) ?_
          refine z_iret gi_227_8 gr_227 ?_
          refine ⟨?_, ?_⟩
          · first | rfl | exact congrArg (fun v => some (zi v)) (by omega) | (refine congrArg (fun v => some (zi v)) ?_; first | (rw [show w - 1 = 0 by omega]; omega) | (rw [show w - 1 = 1 by omega]; omega) | (rw [show w - 1 = 2 by omega]; omega) | (rw [show w - 1 = 3 by omega]; omega)) | (exfalso; omega)
          · exact hr
      · refine z_pushJ gp_128_90 ?_
        refine z_goto rfl ?_
        refine z_iret gi_128_102 gr_128 ?_
        refine ⟨_, rfl, ?_⟩
        show zW _ _ _ _ [some (.ref 50), some (zi w)] _ _ _ _ _
        refine z_iload1 gi_227_0 ?_
        refine z_if_ne gi_227_1 (by omega) (fun h3 => ?_) (fun h3 => ?_)
        · refine z_iload1 gi_227_9 ?_
          refine z_pushJ gp_227_10 ?_
          refine z_icmp_ne gi_227_11 (by omega) zr_5 (fun h4 => ?_) (fun h4 => ?_)
          · refine z_iload1 gi_227_31 ?_
            refine z_pushJ gp_227_32 ?_
            refine z_pushJ gp_227_33 ?_
            refine z_cS3 gi_227_34 (Nat.le_of_ble_eq_true rfl) gc_148_III ?_
            refine z_iload0 gi_148_0 ?_
            refine z_iload1 gi_148_1 ?_
            refine z_icmp_lt gi_148_2 (by omega) zr_1 (fun h5 => ?_) (fun h5 => ?_)
            · refine z_pushJ gp_148_14 ?_
              refine z_bret0 gi_148_15 gr_148 ?_
              show zW _ _ _ _ _ _ _ _ _ _
              refine z_if_eqT gi_227_37 zr_0 (by decide) ?_
              refine z_pushJ gp_227_51 ?_
              refine z_iret gi_227_52 gr_227 ?_
              refine ⟨?_, ?_⟩
              · first | rfl | exact congrArg (fun v => some (zi v)) (by omega) | (refine congrArg (fun v => some (zi v)) ?_; first | (rw [show w - 1 = 0 by omega]; omega) | (rw [show w - 1 = 1 by omega]; omega) | (rw [show w - 1 = 2 by omega]; omega) | (rw [show w - 1 = 3 by omega]; omega)) | (exfalso; omega)
              · exact hr
            · refine z_iload0 gi_148_5 ?_
              refine z_iload2 gi_148_6 ?_
              refine z_icmp_gt gi_148_7 (by omega) zr_4 (fun h6 => ?_) (fun h6 => ?_)
              · refine z_pushJ gp_148_14 ?_
                refine z_bret0 gi_148_15 gr_148 ?_
                show zW _ _ _ _ _ _ _ _ _ _
                refine z_if_eqT gi_227_37 zr_0 (by decide) ?_
                refine z_pushJ gp_227_51 ?_
                refine z_iret gi_227_52 gr_227 ?_
                refine ⟨?_, ?_⟩
                · first | rfl | exact congrArg (fun v => some (zi v)) (by omega) | (refine congrArg (fun v => some (zi v)) ?_; first | (rw [show w - 1 = 0 by omega]; omega) | (rw [show w - 1 = 1 by omega]; omega) | (rw [show w - 1 = 2 by omega]; omega) | (rw [show w - 1 = 3 by omega]; omega)) | (exfalso; omega)
                · exact hr
              · refine z_pushJ gp_148_10 ?_
                refine z_goto gi_148_11 ?_
                refine z_bret1 gi_148_15 gr_148 ?_
                show zW _ _ _ _ _ _ _ _ _ _
                refine z_if_eqF gi_227_37 zr_1 (by decide) ?_
                refine z_aload0 gi_227_40 ?_
                refine z_getR (r := 77) gi_227_41 gk_50 (hRr _ rm_50_46 (by decide)) ?_
                refine z_iload1 gi_227_44 ?_
                refine z_pushJ gp_227_45 ?_
                refine z_isub (e := w - 1) gi_227_46 rfl ?_
                refine z_iald (v := J 77 (w - 1)) gi_227_47 gk_77 (by decide) (by omega) (rfl) ?_
                refine z_goto gi_227_48 ?_
                refine z_iret gi_227_52 gr_227 ?_
                refine ⟨?_, ?_⟩
                · first | rfl | exact congrArg (fun v => some (zi v)) (by omega) | (refine congrArg (fun v => some (zi v)) ?_; first | (rw [show w - 1 = 0 by omega]; omega) | (rw [show w - 1 = 1 by omega]; omega) | (rw [show w - 1 = 2 by omega]; omega) | (rw [show w - 1 = 3 by omega]; omega)) | (exfalso; omega)
                · exact hr
          · refine z_aload0 gi_227_14 ?_
            refine z_getI (v := J 50 44) gi_227_15 gk_50 (rfl) ?_
            refine z_if_ge gi_227_18 (by omega) (fun h7 => ?_) (fun h7 => ?_)
            · refine z_aload0 gi_227_26 ?_
              refine z_getI (v := J 50 44) gi_227_27 gk_50 (rfl) ?_
              refine z_iret gi_227_30 gr_227 ?_
              refine ⟨?_, ?_⟩
              · first | rfl | exact congrArg (fun v => some (zi v)) (by omega) | (refine congrArg (fun v => some (zi v)) ?_; first | (rw [show w - 1 = 0 by omega]; omega) | (rw [show w - 1 = 1 by omega]; omega) | (rw [show w - 1 = 2 by omega]; omega) | (rw [show w - 1 = 3 by omega]; omega)) | (exfalso; omega)
              · exact hr
            · refine z_pushJ gp_227_21 ?_
              refine z_goto gi_227_23 ?_
              refine z_iret gi_227_30 gr_227 ?_
              refine ⟨?_, ?_⟩
              · first | rfl | exact congrArg (fun v => some (zi v)) (by omega) | (refine congrArg (fun v => some (zi v)) ?_; first | (rw [show w - 1 = 0 by omega]; omega) | (rw [show w - 1 = 1 by omega]; omega) | (rw [show w - 1 = 2 by omega]; omega) | (rw [show w - 1 = 3 by omega]; omega)) | (exfalso; omega)
              · exact hr
        · refine z_aload0 gi_227_4 ?_
          refine z_getI (v := J 50 45) gi_227_5 gk_50 (rfl) ?_
          refine z_iret gi_227_8 gr_227 ?_
          refine ⟨?_, ?_⟩
          · first | rfl | exact congrArg (fun v => some (zi v)) (by omega) | (refine congrArg (fun v => some (zi v)) ?_; first | (rw [show w - 1 = 0 by omega]; omega) | (rw [show w - 1 = 1 by omega]; omega) | (rw [show w - 1 = 2 by omega]; omega) | (rw [show w - 1 = 3 by omega]; omega)) | (exfalso; omega)
          · exact hr
  · have hq1 : ∀ q ∈ [((0 : Int), 40), ((1 : Int), 48), ((2 : Int), 56), ((3 : Int), 64), ((4 : Int), 72), ((5 : Int), 80)], ¬ w = q.1 := hq1
    have hq1_0 : ¬ w = 0 := hq1 (0, 40) (by simp)
    have hq1_1 : ¬ w = 1 := hq1 (1, 48) (by simp)
    have hq1_2 : ¬ w = 2 := hq1 (2, 56) (by simp)
    have hq1_3 : ¬ w = 3 := hq1 (3, 64) (by simp)
    have hq1_4 : ¬ w = 4 := hq1 (4, 72) (by simp)
    have hq1_5 : ¬ w = 5 := hq1 (5, 80) (by simp)
    refine z_pushJ gp_128_103 ?_
    refine z_iret rfl gr_128 ?_
    refine ⟨_, rfl, ?_⟩
    show zW _ _ _ _ [some (.ref 50), some (zi w)] _ _ _ _ _
    refine z_iload1 gi_227_0 ?_
    refine z_if_ne gi_227_1 (by omega) (fun h3 => ?_) (fun h3 => ?_)
    · refine z_iload1 gi_227_9 ?_
      refine z_pushJ gp_227_10 ?_
      refine z_icmp_ne gi_227_11 (by omega) zr_5 (fun h4 => ?_) (fun h4 => ?_)
      · refine z_iload1 gi_227_31 ?_
        refine z_pushJ gp_227_32 ?_
        refine z_pushJ gp_227_33 ?_
        refine z_cS3 gi_227_34 (Nat.le_of_ble_eq_true rfl) gc_148_III ?_
        refine z_iload0 gi_148_0 ?_
        refine z_iload1 gi_148_1 ?_
        refine z_icmp_lt gi_148_2 (by omega) zr_1 (fun h5 => ?_) (fun h5 => ?_)
        · refine z_pushJ gp_148_14 ?_
          refine z_bret0 gi_148_15 gr_148 ?_
          show zW _ _ _ _ _ _ _ _ _ _
          refine z_if_eqT gi_227_37 zr_0 (by decide) ?_
          refine z_pushJ gp_227_51 ?_
          refine z_iret gi_227_52 gr_227 ?_
          refine ⟨?_, ?_⟩
          · first | rfl | exact congrArg (fun v => some (zi v)) (by omega) | (refine congrArg (fun v => some (zi v)) ?_; first | (rw [show w - 1 = 0 by omega]; omega) | (rw [show w - 1 = 1 by omega]; omega) | (rw [show w - 1 = 2 by omega]; omega) | (rw [show w - 1 = 3 by omega]; omega)) | (exfalso; omega)
          · exact hr
        · refine z_iload0 gi_148_5 ?_
          refine z_iload2 gi_148_6 ?_
          refine z_icmp_gt gi_148_7 (by omega) zr_4 (fun h6 => ?_) (fun h6 => ?_)
          · refine z_pushJ gp_148_14 ?_
            refine z_bret0 gi_148_15 gr_148 ?_
            show zW _ _ _ _ _ _ _ _ _ _
            refine z_if_eqT gi_227_37 zr_0 (by decide) ?_
            refine z_pushJ gp_227_51 ?_
            refine z_iret gi_227_52 gr_227 ?_
            refine ⟨?_, ?_⟩
            · first | rfl | exact congrArg (fun v => some (zi v)) (by omega) | (refine congrArg (fun v => some (zi v)) ?_; first | (rw [show w - 1 = 0 by omega]; omega) | (rw [show w - 1 = 1 by omega]; omega) | (rw [show w - 1 = 2 by omega]; omega) | (rw [show w - 1 = 3 by omega]; omega)) | (exfalso; omega)
            · exact hr
          · refine z_pushJ gp_148_10 ?_
            refine z_goto gi_148_11 ?_
            refine z_bret1 gi_148_15 gr_148 ?_
            show zW _ _ _ _ _ _ _ _ _ _
            refine z_if_eqF gi_227_37 zr_1 (by decide) ?_
            refine z_aload0 gi_227_40 ?_
            refine z_getR (r := 77) gi_227_41 gk_50 (hRr _ rm_50_46 (by decide)) ?_
            refine z_iload1 gi_227_44 ?_
            refine z_pushJ gp_227_45 ?_
            refine z_isub (e := w - 1) gi_227_46 rfl ?_
            refine z_iald (v := J 77 (w - 1)) gi_227_47 gk_77 (by decide) (by omega) (rfl) ?_
            refine z_goto gi_227_48 ?_
            refine z_iret gi_227_52 gr_227 ?_
            refine ⟨?_, ?_⟩
            · first | rfl | exact congrArg (fun v => some (zi v)) (by omega) | (refine congrArg (fun v => some (zi v)) ?_; first | (rw [show w - 1 = 0 by omega]; omega) | (rw [show w - 1 = 1 by omega]; omega) | (rw [show w - 1 = 2 by omega]; omega) | (rw [show w - 1 = 3 by omega]; omega)) | (exfalso; omega)
            · exact hr
      · refine z_aload0 gi_227_14 ?_
        refine z_getI (v := J 50 44) gi_227_15 gk_50 (rfl) ?_
        refine z_if_ge gi_227_18 (by omega) (fun h7 => ?_) (fun h7 => ?_)
        · refine z_aload0 gi_227_26 ?_
          refine z_getI (v := J 50 44) gi_227_27 gk_50 (rfl) ?_
          refine z_iret gi_227_30 gr_227 ?_
          refine ⟨?_, ?_⟩
          · first | rfl | exact congrArg (fun v => some (zi v)) (by omega) | (refine congrArg (fun v => some (zi v)) ?_; first | (rw [show w - 1 = 0 by omega]; omega) | (rw [show w - 1 = 1 by omega]; omega) | (rw [show w - 1 = 2 by omega]; omega) | (rw [show w - 1 = 3 by omega]; omega)) | (exfalso; omega)
          · exact hr
        · refine z_pushJ gp_227_21 ?_
          refine z_goto gi_227_23 ?_
          refine z_iret gi_227_30 gr_227 ?_
          refine ⟨?_, ?_⟩
          · first | rfl | exact congrArg (fun v => some (zi v)) (by omega) | (refine congrArg (fun v => some (zi v)) ?_; first | (rw [show w - 1 = 0 by omega]; omega) | (rw [show w - 1 = 1 by omega]; omega) | (rw [show w - 1 = 2 by omega]; omega) | (rw [show w - 1 = 3 by omega]; omega)) | (exfalso; omega)
          · exact hr
    · refine z_aload0 gi_227_4 ?_
      refine z_getI (v := J 50 45) gi_227_5 gk_50 (rfl) ?_
      refine z_iret gi_227_8 gr_227 ?_
      refine ⟨?_, ?_⟩
      · first | rfl | exact congrArg (fun v => some (zi v)) (by omega) | (refine congrArg (fun v => some (zi v)) ?_; first | (rw [show w - 1 = 0 by omega]; omega) | (rw [show w - 1 = 1 by omega]; omega) | (rw [show w - 1 = 2 by omega]; omega) | (rw [show w - 1 = 3 by omega]; omega)) | (exfalso; omega)
      · exact hr
noncomputable def nSet (N : Int → Int → Int) (p w v : Int) : Int → Int → Int := fun a b => if a = p ∧ b = w then v else N a b
theorem cN_p {J : zA} {p w v x : Int} (hn : J 8 2 ≤ 8) (hp : 0 ≤ p ∧ p < J 8 2) (hw : 0 ≤ w ∧ w < 5) (hx : x = p * 5 + w) : cN (zU J 9 x v) = nSet (cN J) p w v := by
  funext a b
  unfold nSet cN
  rw [zU_n (by decide), zU_i, zU_i]
  by_cases h : a = p ∧ b = w
  · obtain ⟨rfl, rfl⟩ := h
    rw [if_pos (by omega), if_pos (by omega), if_pos ⟨rfl, rfl⟩]
  · rw [if_neg h]
    by_cases c : 0 ≤ b ∧ b < 5 ∧ 0 ≤ a ∧ a < J 8 2
    · rw [if_pos c, if_pos c, if_neg (by omega)]
    · rw [if_neg c, if_neg c]
      by_cases c2 : 5 ≤ b ∧ b < 14 ∧ a = 0
      · rw [if_pos c2, if_pos c2, if_neg (by omega)]
      · rw [if_neg c2, if_neg c2]
theorem cN_gs {J : zA} {w v x : Int} (hw : 5 ≤ w ∧ w < 14) (hn : J 8 2 ≤ 8) (hx : x = 40 + w) : cN (zU J 9 x v) = nSet (cN J) 0 w v := by
  funext a b
  unfold nSet cN
  rw [zU_n (by decide), zU_i, zU_i]
  by_cases h : a = 0 ∧ b = w
  · obtain ⟨rfl, rfl⟩ := h
    rw [if_neg (by omega), if_pos (by omega), if_pos (by omega), if_pos ⟨rfl, rfl⟩]
  · rw [if_neg h]
    by_cases c : 0 ≤ b ∧ b < 5 ∧ 0 ≤ a ∧ a < J 8 2
    · rw [if_pos c, if_pos c, if_neg (by omega)]
    · rw [if_neg c, if_neg c]
      by_cases c2 : 5 ≤ b ∧ b < 14 ∧ a = 0
      · rw [if_pos c2, if_pos c2, if_neg (by omega)]
      · rw [if_neg c2, if_neg c2]
theorem rN_p {J : zA} {p w v : Int} {c : Nat} (hp : 0 ≤ p ∧ p < J 50 1) (hw : 0 ≤ w ∧ w < 5) (hc : c = 51 + w.toNat) : rN (zU J c p v) = nSet (rN J) p w v := by
  subst hc
  funext a b
  unfold nSet rN
  have q1 : zU J (51 + w.toNat) p v 50 1 = J 50 1 := zU_n (by omega)
  have q2 : ∀ i, zU J (51 + w.toNat) p v 56 i = J 56 i := fun i => zU_n (by omega)
  rw [q1, q2]
  by_cases h : a = p ∧ b = w
  · obtain ⟨rfl, rfl⟩ := h
    rw [if_pos (by omega), if_pos ⟨rfl, rfl⟩, zU_e]
  · rw [if_neg h]
    by_cases c : 0 ≤ b ∧ b < 5 ∧ 0 ≤ a ∧ a < J 50 1
    · rw [if_pos c, if_pos c]
      by_cases e : b = w
      · subst e
        exact zU_x (by omega)
      · exact zU_n (by omega)
    · rw [if_neg c, if_neg c]
theorem rN_gs {J : zA} {w v x : Int} (hw : 5 ≤ w ∧ w < 14) (hx : x = w - 5) : rN (zU J 56 x v) = nSet (rN J) 0 w v := by
  funext a b
  unfold nSet rN
  rw [zU_n (by decide), zU_i]
  by_cases h : a = 0 ∧ b = w
  · obtain ⟨rfl, rfl⟩ := h
    rw [if_neg (by omega), if_pos (by omega), if_pos (by omega), if_pos ⟨rfl, rfl⟩]
  · rw [if_neg h]
    by_cases c : 0 ≤ b ∧ b < 5 ∧ 0 ≤ a ∧ a < J 50 1
    · rw [if_pos c, if_pos c]
      exact zU_n (by omega)
    · rw [if_neg c, if_neg c]
      by_cases c2 : 5 ≤ b ∧ b < 14 ∧ a = 0
      · rw [if_pos c2, if_pos c2, if_neg (by omega)]
      · rw [if_neg c2, if_neg c2]
theorem rN_lo {J : zA} {a : Nat} {x v : Int} (h : a < 50) : rN (zU J a x v) = rN J := by
  funext p w
  unfold rN
  have q1 : zU J a x v 50 1 = J 50 1 := zU_n (by omega)
  have q2 : ∀ i, zU J a x v 56 i = J 56 i := fun i => zU_n (by omega)
  have q3 : ∀ (c : Nat) i, zU J a x v (51 + c) i = J (51 + c) i := fun c i => zU_n (by omega)
  simp only [q1, q2, q3]
theorem nSet_r {N : Int → Int → Int} {p w v a b lo hi : Int} (h : lo ≤ N a b ∧ N a b ≤ hi) (hv : b = w → lo ≤ v ∧ v ≤ hi) : lo ≤ nSet N p w v a b ∧ nSet N p w v a b ≤ hi := by
  unfold nSet
  split
  · exact hv (by rename_i q; exact q.2)
  · exact h
theorem zFit_at {w v c lo hi : Int} (h : zFit w v) (e1 : zT 2 c = lo) (e2 : zT 3 c = hi) (e : c = w) : lo ≤ v ∧ v ≤ hi := by
  subst e e1 e2
  exact h
theorem zNr_set {n : Int} {N : Int → Int → Int} {p w v : Int} (h : zNr n N) (hf : zFit w v) : zNr n (nSet N p w v) := by
  refine ⟨fun a => nSet_r (zN0 h a) (zFit_at hf rfl rfl), fun a => nSet_r (zN1 h a) (zFit_at hf rfl rfl), fun a => nSet_r (zN2 h a) (zFit_at hf rfl rfl), fun a => nSet_r (zN3 h a) (zFit_at hf rfl rfl), fun a => nSet_r (zN4 h a) (zFit_at hf rfl rfl), nSet_r (zN5 h) (zFit_at hf rfl rfl), nSet_r (zN6 h) (zFit_at hf rfl rfl), nSet_r (zN7 h) (zFit_at hf rfl rfl), nSet_r (zN8 h) (zFit_at hf rfl rfl), nSet_r (zN9 h) (zFit_at hf rfl rfl), nSet_r (zN10 h) (zFit_at hf rfl rfl), nSet_r (zN11 h) (zFit_at hf rfl rfl), nSet_r (zN12 h) (zFit_at hf rfl rfl), nSet_r (zN13 h) (zFit_at hf rfl rfl), zNn h⟩
theorem RelY_p {J : zA} {p w v x p2 : Int} {c : Nat} (r : RelY J) (hp : 0 ≤ p ∧ p < J 8 2) (hw : 0 ≤ w ∧ w < 5) (hf : zFit w v) (hx : x = p * 5 + w) (hc : c = 51 + w.toNat) (hp2 : p2 = p) : RelY (zU (zU J 9 x v) c p2 v) := by
  subst hp2
  obtain ⟨r1, r2, r3⟩ := r
  have e1 : cN (zU (zU J 9 x v) c p2 v) = nSet (cN J) p2 w v := by
    rw [← cN_p (zNn r3).2 hp hw hx]
    funext a b
    unfold cN
    have q1 : zU (zU J 9 x v) c p2 v 8 2 = zU J 9 x v 8 2 := zU_n (by omega)
    have q2 : ∀ i, zU (zU J 9 x v) c p2 v 9 i = zU J 9 x v 9 i := fun i => zU_n (by omega)
    simp only [q1, q2]
  have e2 : rN (zU (zU J 9 x v) c p2 v) = nSet (rN J) p2 w v := by
    have q : zU J 9 x v 50 1 = J 50 1 := zU_n (by decide)
    rw [rN_p (w := w) (by rw [q]; omega) hw hc, rN_lo (by decide)]
  have e3 : zU (zU J 9 x v) c p2 v 8 2 = J 8 2 := by rw [zU_n (by omega), zU_n (by decide)]
  have e4 : zU (zU J 9 x v) c p2 v 50 1 = J 50 1 := by rw [zU_n (by omega), zU_n (by decide)]
  unfold RelY
  rw [e1, e2, e3, e4, r1]
  exact ⟨rfl, r2, zNr_set (r1 ▸ r3) hf⟩
theorem RelY_g {J : zA} {w v x y : Int} (r : RelY J) (hw : 5 ≤ w ∧ w < 14) (hf : zFit w v) (hx : x = 40 + w) (hy : y = w - 5) : RelY (zU (zU J 9 x v) 56 y v) := by
  obtain ⟨r1, r2, r3⟩ := r
  have e1 : cN (zU (zU J 9 x v) 56 y v) = nSet (cN J) 0 w v := (show cN (zU (zU J 9 x v) 56 y v) = cN (zU J 9 x v) from rfl).trans (cN_gs hw (zNn r3).2 hx)
  have e2 : rN (zU (zU J 9 x v) 56 y v) = nSet (rN J) 0 w v := by
    rw [rN_gs hw hy, rN_lo (by decide)]
  unfold RelY
  rw [e1, e2]
  exact ⟨by rw [r1], r2, zNr_set r3 hf⟩
theorem zFit_0 {v : Int} (h : zFit 0 v) : 0 ≤ v ∧ v ≤ 99 := h
theorem zOkc_v {n p w b a : Int} (h : zOkc n p w b a) : (0 ≤ w ∧ w < 5 ∧ 0 ≤ p ∧ p < n) ∨ (5 ≤ w ∧ w < 14 ∧ p = 0) := h.1
theorem RelC_i {J : zA} {i : Int} (r : RelC J) (h1 : 0 ≤ i) (h2 : i < J 29 6) : (J 30 i = J 58 i ∧ J 31 i = J 57 i ∧ J 32 i = J 59 i ∧ J 33 i = J 60 i) ∧ zOkc (J 8 2) (J 30 i) (J 31 i) (J 32 i) (J 33 i) := r.2.2.2.2.2 i h1 h2
