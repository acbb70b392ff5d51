theorem st_of_s {X : Nat × (Nat → Int32)} {d : Nat} {J M : zA} {R : zR} {p w : Int} (hr : Rel X J M R) (hp : -2147483648 ≤ p ∧ p < 2147483648) (hw : -2147483648 ≤ w ∧ w < 2147483648) (hs : w = 14 ∨ w = 15) : zW X (d + 20) 105 0 (gEn 105 [(.ref 0), (zi p), (zi w)]) [] J M R (stP X (d + 20) 163 [(zi p), (zi w)]) := by
  have hr0 := hr
  obtain ⟨hR, hG, hY, hD, hP, hC, hAc, hS, hTp, hX, hW⟩ := hr0
  have hRr : zRoR R := zRoR_of hR
  have hY0 := hY
  obtain ⟨y1, y2, y3⟩ := hY0
  have yn := zNn y3
  have hD0 := hD
  obtain ⟨⟨d1, d2, d3, d4, d5, d6⟩, d7, d8, d9, d10, d11⟩ := hD0
  show zW _ _ _ _ [some (.ref 0), some (zi p), some (zi w)] _ _ _ _ _
  refine z_iload2 gi_105_0 ?_
  refine z_pushJ gp_105_1 ?_
  refine z_icmp_eq gi_105_3 (by omega) zr_14 (fun h1 => ?_) (fun h1 => ?_)
  · refine z_aload0 gi_105_12 ?_
    refine z_getR (r := 8) gi_105_13 gk_0 (hR _ rm_0_1) ?_
    refine z_iload1 gi_105_16 ?_
    refine z_cV1 gi_105_17 gk_8 go_87 (Nat.le_of_ble_eq_true rfl) gc_87_RI ?_
    refine z_iload1 gi_87_0 ?_
    refine z_if_lt gi_87_1 (by omega) (fun h2 => ?_) (fun h2 => ?_)
    · refine z_pushJ gp_87_16 ?_
      refine z_bret0 gi_87_17 gr_87 ?_
      show zW _ _ _ _ _ _ _ _ _ _
      refine z_if_neF gi_105_20 zr_0 (by decide) ?_
      refine z_pushJ gp_105_23 ?_
      refine z_iret gi_105_24 gr_105 ?_
      refine ⟨_, rfl, ?_⟩
      show zW _ _ _ _ [some (.ref 50), some (zi p), some (zi w)] _ _ _ _ _
      refine z_iload2 gi_163_0 ?_
      refine z_pushJ gp_163_1 ?_
      refine z_pushJ gp_163_3 ?_
      refine z_cS3 gi_163_5 (Nat.le_of_ble_eq_true rfl) gc_148_III ?_
      refine z_iload0 gi_148_0 ?_
      refine z_iload1 gi_148_1 ?_
      refine z_icmp_lt gi_148_2 (by omega) zr_14 (fun h3 => ?_) (fun h3 => ?_)
      · refine z_pushJ gp_148_14 ?_
        refine z_bret0 gi_148_15 gr_148 ?_
        show zW _ _ _ _ _ _ _ _ _ _
        refine z_if_eqT gi_163_8 zr_0 (by decide) ?_
        refine z_aload0 gi_163_45 ?_
        refine z_iload1 gi_163_46 ?_
        refine z_iload2 gi_163_47 ?_
        refine z_callVP (As := [_, _]) (v := 0) gi_163_48 rfl gk_50 (Nat.le_of_ble_eq_true rfl) (Nat.le_of_ble_eq_true rfl) (isOne_0 hRr y2.symm yn hp hw (by unfold zV; omega)) ?_
        refine z_if_eqT gi_163_51 zr_0 (by decide) ?_
        refine z_pushJ gp_163_63 ?_
        refine z_iret gi_163_64 gr_163 ?_
        refine ⟨?_, ?_⟩
        · first | rfl | exact congrArg (fun v => some (zi v)) (by omega) | (exfalso; omega)
        · exact hr
      · refine z_iload0 gi_148_5 ?_
        refine z_iload2 gi_148_6 ?_
        refine z_icmp_gt gi_148_7 (by omega) zr_15 (fun h4 => ?_) (fun h4 => ?_)
        · refine z_pushJ gp_148_14 ?_
          refine z_bret0 gi_148_15 gr_148 ?_
          show zW _ _ _ _ _ _ _ _ _ _
          refine z_if_eqT gi_163_8 zr_0 (by decide) ?_
          refine z_aload0 gi_163_45 ?_
          refine z_iload1 gi_163_46 ?_
          refine z_iload2 gi_163_47 ?_
          refine z_callVP (As := [_, _]) (v := 0) gi_163_48 rfl gk_50 (Nat.le_of_ble_eq_true rfl) (Nat.le_of_ble_eq_true rfl) (isOne_0 hRr y2.symm yn hp hw (by unfold zV; omega)) ?_
          refine z_if_eqT gi_163_51 zr_0 (by decide) ?_
          refine z_pushJ gp_163_63 ?_
          refine z_iret gi_163_64 gr_163 ?_
          refine ⟨?_, ?_⟩
          · first | rfl | exact congrArg (fun v => some (zi v)) (by omega) | (exfalso; omega)
          · exact hr
        · refine z_pushJ gp_148_10 ?_
          refine z_goto gi_148_11 ?_
          refine z_bret1 gi_148_15 gr_148 ?_
          show zW _ _ _ _ _ _ _ _ _ _
          refine z_if_eqF gi_163_8 zr_1 (by decide) ?_
          refine z_aload0 gi_163_11 ?_
          refine z_iload1 gi_163_12 ?_
          refine z_cV1 gi_163_13 gk_50 go_151 (Nat.le_of_ble_eq_true rfl) gc_151_RI ?_
          refine z_iload1 gi_151_0 ?_
          refine z_pushJ gp_151_1 ?_
          refine z_aload0 gi_151_2 ?_
          refine z_getI (v := J 50 1) gi_151_3 gk_50 (rfl) ?_
          refine z_pushJ gp_151_6 ?_
          refine z_isub (e := (J 50 1) - 1) gi_151_7 rfl ?_
          refine z_cS3 gi_151_8 (Nat.le_of_ble_eq_true rfl) gc_148_III ?_
          refine z_iload0 gi_148_0 ?_
          refine z_iload1 gi_148_1 ?_
          refine z_icmp_lt gi_148_2 (by omega) zr_0 (fun h5 => ?_) (fun h5 => ?_)
          · refine z_pushJ gp_148_14 ?_
            refine z_bret0 gi_148_15 gr_148 ?_
            show zW _ _ _ _ _ _ _ _ _ _
            refine z_bret0 gi_151_11 gr_151 ?_
            show zW _ _ _ _ _ _ _ _ _ _
            refine z_if_neF gi_163_16 zr_0 (by decide) ?_
            refine z_pushJ gp_163_19 ?_
            refine z_goto gi_163_20 ?_
            refine z_iret gi_163_44 gr_163 ?_
            refine ⟨?_, ?_⟩
            · first | rfl | exact congrArg (fun v => some (zi v)) (by omega) | (exfalso; omega)
            · exact hr
          · refine z_iload0 gi_148_5 ?_
            refine z_iload2 gi_148_6 ?_
            refine z_icmp_gt gi_148_7 (by omega) (by omega) (fun h6 => ?_) (fun h6 => ?_)
            · refine z_pushJ gp_148_14 ?_
              refine z_bret0 gi_148_15 gr_148 ?_
              show zW _ _ _ _ _ _ _ _ _ _
              refine z_bret0 gi_151_11 gr_151 ?_
              show zW _ _ _ _ _ _ _ _ _ _
              refine z_if_neF gi_163_16 zr_0 (by decide) ?_
              refine z_pushJ gp_163_19 ?_
              refine z_goto gi_163_20 ?_
              refine z_iret gi_163_44 gr_163 ?_
              refine ⟨?_, ?_⟩
              · first | rfl | exact congrArg (fun v => some (zi v)) (by omega) | (exfalso; omega)
              · exact hr
            · refine z_pushJ gp_148_10 ?_
              refine z_goto gi_148_11 ?_
              refine z_bret1 gi_148_15 gr_148 ?_
              show zW _ _ _ _ _ _ _ _ _ _
              refine z_bret1 gi_151_11 gr_151 ?_
              show zW _ _ _ _ _ _ _ _ _ _
              refine z_if_neT gi_163_16 zr_1 (by decide) ?_
              refine z_iload2 gi_163_23 ?_
              refine z_pushJ gp_163_24 ?_
              refine z_icmp_ne gi_163_26 (by omega) zr_14 (fun h7 => ?_) (fun h7 => ?_)
              · refine z_aload0 gi_163_38 ?_
                refine z_getR (r := 76) gi_163_39 gk_50 (hRr _ rm_50_43 (by decide)) ?_
                refine z_iload1 gi_163_42 ?_
                refine z_iald (v := J 76 p) gi_163_43 gk_76 (by decide) (by omega) (rfl) ?_
                refine z_iret gi_163_44 gr_163 ?_
                refine ⟨?_, ?_⟩
                · first | rfl | exact congrArg (fun v => some (zi v)) (by omega) | (exfalso; omega)
                · exact hr
              · refine z_aload0 gi_163_29 ?_
                refine z_getR (r := 75) gi_163_30 gk_50 (hRr _ rm_50_42 (by decide)) ?_
                refine z_iload1 gi_163_33 ?_
                refine z_iald (v := J 75 p) gi_163_34 gk_75 (by decide) (by omega) (rfl) ?_
                refine z_goto gi_163_35 ?_
                refine z_iret gi_163_44 gr_163 ?_
                refine ⟨?_, ?_⟩
                · first | rfl | exact congrArg (fun v => some (zi v)) (by omega) | (exfalso; omega)
                · exact hr
    · refine z_iload1 gi_87_4 ?_
      refine z_aload0 gi_87_5 ?_
      refine z_getI (v := J 8 2) gi_87_6 gk_8 (rfl) ?_
      refine z_icmp_ge gi_87_9 (by omega) (by omega) (fun h3 => ?_) (fun h3 => ?_)
      · refine z_pushJ gp_87_16 ?_
        refine z_bret0 gi_87_17 gr_87 ?_
        show zW _ _ _ _ _ _ _ _ _ _
        refine z_if_neF gi_105_20 zr_0 (by decide) ?_
        refine z_pushJ gp_105_23 ?_
        refine z_iret gi_105_24 gr_105 ?_
        refine ⟨_, rfl, ?_⟩
        show zW _ _ _ _ [some (.ref 50), some (zi p), some (zi w)] _ _ _ _ _
        refine z_iload2 gi_163_0 ?_
        refine z_pushJ gp_163_1 ?_
        refine z_pushJ gp_163_3 ?_
        refine z_cS3 gi_163_5 (Nat.le_of_ble_eq_true rfl) gc_148_III ?_
        refine z_iload0 gi_148_0 ?_
        refine z_iload1 gi_148_1 ?_
        refine z_icmp_lt gi_148_2 (by omega) zr_14 (fun h4 => ?_) (fun h4 => ?_)
        · refine z_pushJ gp_148_14 ?_
          refine z_bret0 gi_148_15 gr_148 ?_
          show zW _ _ _ _ _ _ _ _ _ _
          refine z_if_eqT gi_163_8 zr_0 (by decide) ?_
          refine z_aload0 gi_163_45 ?_
          refine z_iload1 gi_163_46 ?_
          refine z_iload2 gi_163_47 ?_
          refine z_callVP (As := [_, _]) (v := 0) gi_163_48 rfl gk_50 (Nat.le_of_ble_eq_true rfl) (Nat.le_of_ble_eq_true rfl) (isOne_0 hRr y2.symm yn hp hw (by unfold zV; omega)) ?_
          refine z_if_eqT gi_163_51 zr_0 (by decide) ?_
          refine z_pushJ gp_163_63 ?_
          refine z_iret gi_163_64 gr_163 ?_
          refine ⟨?_, ?_⟩
          · first | rfl | exact congrArg (fun v => some (zi v)) (by omega) | (exfalso; omega)
          · exact hr
        · refine z_iload0 gi_148_5 ?_
          refine z_iload2 gi_148_6 ?_
          refine z_icmp_gt gi_148_7 (by omega) zr_15 (fun h5 => ?_) (fun h5 => ?_)
          · refine z_pushJ gp_148_14 ?_
            refine z_bret0 gi_148_15 gr_148 ?_
            show zW _ _ _ _ _ _ _ _ _ _
            refine z_if_eqT gi_163_8 zr_0 (by decide) ?_
            refine z_aload0 gi_163_45 ?_
            refine z_iload1 gi_163_46 ?_
            refine z_iload2 gi_163_47 ?_
            refine z_callVP (As := [_, _]) (v := 0) gi_163_48 rfl gk_50 (Nat.le_of_ble_eq_true rfl) (Nat.le_of_ble_eq_true rfl) (isOne_0 hRr y2.symm yn hp hw (by unfold zV; omega)) ?_
            refine z_if_eqT gi_163_51 zr_0 (by decide) ?_
            refine z_pushJ gp_163_63 ?_
            refine z_iret gi_163_64 gr_163 ?_
            refine ⟨?_, ?_⟩
            · first | rfl | exact congrArg (fun v => some (zi v)) (by omega) | (exfalso; omega)
            · exact hr
          · refine z_pushJ gp_148_10 ?_
            refine z_goto gi_148_11 ?_
            refine z_bret1 gi_148_15 gr_148 ?_
            show zW _ _ _ _ _ _ _ _ _ _
            refine z_if_eqF gi_163_8 zr_1 (by decide) ?_
            refine z_aload0 gi_163_11 ?_
            refine z_iload1 gi_163_12 ?_
            refine z_cV1 gi_163_13 gk_50 go_151 (Nat.le_of_ble_eq_true rfl) gc_151_RI ?_
            refine z_iload1 gi_151_0 ?_
            refine z_pushJ gp_151_1 ?_
            refine z_aload0 gi_151_2 ?_
            refine z_getI (v := J 50 1) gi_151_3 gk_50 (rfl) ?_
            refine z_pushJ gp_151_6 ?_
            refine z_isub (e := (J 50 1) - 1) gi_151_7 rfl ?_
            refine z_cS3 gi_151_8 (Nat.le_of_ble_eq_true rfl) gc_148_III ?_
            refine z_iload0 gi_148_0 ?_
            refine z_iload1 gi_148_1 ?_
            refine z_icmp_lt gi_148_2 (by omega) zr_0 (fun h6 => ?_) (fun h6 => ?_)
            · refine z_pushJ gp_148_14 ?_
              refine z_bret0 gi_148_15 gr_148 ?_
              show zW _ _ _ _ _ _ _ _ _ _
              refine z_bret0 gi_151_11 gr_151 ?_
              show zW _ _ _ _ _ _ _ _ _ _
              refine z_if_neF gi_163_16 zr_0 (by decide) ?_
              refine z_pushJ gp_163_19 ?_
              refine z_goto gi_163_20 ?_
              refine z_iret gi_163_44 gr_163 ?_
              refine ⟨?_, ?_⟩
              · first | rfl | exact congrArg (fun v => some (zi v)) (by omega) | (exfalso; omega)
              · exact hr
            · refine z_iload0 gi_148_5 ?_
              refine z_iload2 gi_148_6 ?_
              refine z_icmp_gt gi_148_7 (by omega) (by omega) (fun h7 => ?_) (fun h7 => ?_)
              · refine z_pushJ gp_148_14 ?_
                refine z_bret0 gi_148_15 gr_148 ?_
                show zW _ _ _ _ _ _ _ _ _ _
                refine z_bret0 gi_151_11 gr_151 ?_
                show zW _ _ _ _ _ _ _ _ _ _
                refine z_if_neF gi_163_16 zr_0 (by decide) ?_
                refine z_pushJ gp_163_19 ?_
                refine z_goto gi_163_20 ?_
                refine z_iret gi_163_44 gr_163 ?_
                refine ⟨?_, ?_⟩
                · first | rfl | exact congrArg (fun v => some (zi v)) (by omega) | (exfalso; omega)
                · exact hr
              · refine z_pushJ gp_148_10 ?_
                refine z_goto gi_148_11 ?_
                refine z_bret1 gi_148_15 gr_148 ?_
                show zW _ _ _ _ _ _ _ _ _ _
                refine z_bret1 gi_151_11 gr_151 ?_
                show zW _ _ _ _ _ _ _ _ _ _
                refine z_if_neT gi_163_16 zr_1 (by decide) ?_
                refine z_iload2 gi_163_23 ?_
                refine z_pushJ gp_163_24 ?_
                refine z_icmp_ne gi_163_26 (by omega) zr_14 (fun h8 => ?_) (fun h8 => ?_)
                · refine z_aload0 gi_163_38 ?_
                  refine z_getR (r := 76) gi_163_39 gk_50 (hRr _ rm_50_43 (by decide)) ?_
                  refine z_iload1 gi_163_42 ?_
                  refine z_iald (v := J 76 p) gi_163_43 gk_76 (by decide) (by omega) (rfl) ?_
                  refine z_iret gi_163_44 gr_163 ?_
                  refine ⟨?_, ?_⟩
                  · first | rfl | exact congrArg (fun v => some (zi v)) (by omega) | (exfalso; omega)
                  · exact hr
                · refine z_aload0 gi_163_29 ?_
                  refine z_getR (r := 75) gi_163_30 gk_50 (hRr _ rm_50_42 (by decide)) ?_
                  refine z_iload1 gi_163_33 ?_
                  refine z_iald (v := J 75 p) gi_163_34 gk_75 (by decide) (by omega) (rfl) ?_
                  refine z_goto gi_163_35 ?_
                  refine z_iret gi_163_44 gr_163 ?_
                  refine ⟨?_, ?_⟩
                  · first | rfl | exact congrArg (fun v => some (zi v)) (by omega) | (exfalso; omega)
                  · exact hr
      · refine z_pushJ gp_87_12 ?_
        refine z_goto gi_87_13 ?_
        refine z_bret1 gi_87_17 gr_87 ?_
        show zW _ _ _ _ _ _ _ _ _ _
        refine z_if_neT gi_105_20 zr_1 (by decide) ?_
        refine z_iload2 gi_105_25 ?_
        refine z_pushJ gp_105_26 ?_
        refine z_icmp_ne gi_105_28 (by omega) zr_14 (fun h4 => ?_) (fun h4 => ?_)
        · refine z_aload0 gi_105_43 ?_
          refine z_getR (r := 23) gi_105_44 gk_0 (hR _ rm_0_6) ?_
          refine z_getR (r := 25) gi_105_47 gk_23 (hR _ rm_23_2) ?_
          refine z_iload1 gi_105_50 ?_
          refine z_iald (v := J 25 p) gi_105_51 gk_25 (by decide) (by omega) (rfl) ?_
          refine z_iret gi_105_52 gr_105 ?_
          refine ⟨_, rfl, ?_⟩
          show zW _ _ _ _ [some (.ref 50), some (zi p), some (zi w)] _ _ _ _ _
          refine z_iload2 gi_163_0 ?_
          refine z_pushJ gp_163_1 ?_
          refine z_pushJ gp_163_3 ?_
          refine z_cS3 gi_163_5 (Nat.le_of_ble_eq_true rfl) gc_148_III ?_
          refine z_iload0 gi_148_0 ?_
          refine z_iload1 gi_148_1 ?_
          refine z_icmp_lt gi_148_2 (by omega) zr_14 (fun h5 => ?_) (fun h5 => ?_)
          · refine z_pushJ gp_148_14 ?_
            refine z_bret0 gi_148_15 gr_148 ?_
            show zW _ _ _ _ _ _ _ _ _ _
            refine z_if_eqT gi_163_8 zr_0 (by decide) ?_
            refine z_aload0 gi_163_45 ?_
            refine z_iload1 gi_163_46 ?_
            refine z_iload2 gi_163_47 ?_
            refine z_callVP (As := [_, _]) (v := 0) gi_163_48 rfl gk_50 (Nat.le_of_ble_eq_true rfl) (Nat.le_of_ble_eq_true rfl) (isOne_0 hRr y2.symm yn hp hw (by unfold zV; omega)) ?_
            refine z_if_eqT gi_163_51 zr_0 (by decide) ?_
            refine z_pushJ gp_163_63 ?_
            refine z_iret gi_163_64 gr_163 ?_
            refine ⟨?_, ?_⟩
            · first | exact congrArg (fun v => some (zi v)) (d9 p (by omega) (by omega)).2.symm | (exfalso; omega)
            · exact hr
          · refine z_iload0 gi_148_5 ?_
            refine z_iload2 gi_148_6 ?_
            refine z_icmp_gt gi_148_7 (by omega) zr_15 (fun h6 => ?_) (fun h6 => ?_)
            · refine z_pushJ gp_148_14 ?_
              refine z_bret0 gi_148_15 gr_148 ?_
              show zW _ _ _ _ _ _ _ _ _ _
              refine z_if_eqT gi_163_8 zr_0 (by decide) ?_
              refine z_aload0 gi_163_45 ?_
              refine z_iload1 gi_163_46 ?_
              refine z_iload2 gi_163_47 ?_
              refine z_callVP (As := [_, _]) (v := 0) gi_163_48 rfl gk_50 (Nat.le_of_ble_eq_true rfl) (Nat.le_of_ble_eq_true rfl) (isOne_0 hRr y2.symm yn hp hw (by unfold zV; omega)) ?_
              refine z_if_eqT gi_163_51 zr_0 (by decide) ?_
              refine z_pushJ gp_163_63 ?_
              refine z_iret gi_163_64 gr_163 ?_
              refine ⟨?_, ?_⟩
              · first | exact congrArg (fun v => some (zi v)) (d9 p (by omega) (by omega)).2.symm | (exfalso; omega)
              · exact hr
            · refine z_pushJ gp_148_10 ?_
              refine z_goto gi_148_11 ?_
              refine z_bret1 gi_148_15 gr_148 ?_
              show zW _ _ _ _ _ _ _ _ _ _
              refine z_if_eqF gi_163_8 zr_1 (by decide) ?_
              refine z_aload0 gi_163_11 ?_
              refine z_iload1 gi_163_12 ?_
              refine z_cV1 gi_163_13 gk_50 go_151 (Nat.le_of_ble_eq_true rfl) gc_151_RI ?_
              refine z_iload1 gi_151_0 ?_
              refine z_pushJ gp_151_1 ?_
              refine z_aload0 gi_151_2 ?_
              refine z_getI (v := J 50 1) gi_151_3 gk_50 (rfl) ?_
              refine z_pushJ gp_151_6 ?_
              refine z_isub (e := (J 50 1) - 1) gi_151_7 rfl ?_
              refine z_cS3 gi_151_8 (Nat.le_of_ble_eq_true rfl) gc_148_III ?_
              refine z_iload0 gi_148_0 ?_
              refine z_iload1 gi_148_1 ?_
              refine z_icmp_lt gi_148_2 (by omega) zr_0 (fun h7 => ?_) (fun h7 => ?_)
              · refine z_pushJ gp_148_14 ?_
                refine z_bret0 gi_148_15 gr_148 ?_
                show zW _ _ _ _ _ _ _ _ _ _
                refine z_bret0 gi_151_11 gr_151 ?_
                show zW _ _ _ _ _ _ _ _ _ _
                refine z_if_neF gi_163_16 zr_0 (by decide) ?_
                refine z_pushJ gp_163_19 ?_
                refine z_goto gi_163_20 ?_
                refine z_iret gi_163_44 gr_163 ?_
                refine ⟨?_, ?_⟩
                · first | exact congrArg (fun v => some (zi v)) (d9 p (by omega) (by omega)).2.symm | (exfalso; omega)
                · exact hr
              · refine z_iload0 gi_148_5 ?_
                refine z_iload2 gi_148_6 ?_
                refine z_icmp_gt gi_148_7 (by omega) (by omega) (fun h8 => ?_) (fun h8 => ?_)
                · refine z_pushJ gp_148_14 ?_
                  refine z_bret0 gi_148_15 gr_148 ?_
                  show zW _ _ _ _ _ _ _ _ _ _
                  refine z_bret0 gi_151_11 gr_151 ?_
                  show zW _ _ _ _ _ _ _ _ _ _
                  refine z_if_neF gi_163_16 zr_0 (by decide) ?_
                  refine z_pushJ gp_163_19 ?_
                  refine z_goto gi_163_20 ?_
                  refine z_iret gi_163_44 gr_163 ?_
                  refine ⟨?_, ?_⟩
                  · first | exact congrArg (fun v => some (zi v)) (d9 p (by omega) (by omega)).2.symm | (exfalso; omega)
                  · exact hr
                · refine z_pushJ gp_148_10 ?_
                  refine z_goto gi_148_11 ?_
                  refine z_bret1 gi_148_15 gr_148 ?_
                  show zW _ _ _ _ _ _ _ _ _ _
                  refine z_bret1 gi_151_11 gr_151 ?_
                  show zW _ _ _ _ _ _ _ _ _ _
                  refine z_if_neT gi_163_16 zr_1 (by decide) ?_
                  refine z_iload2 gi_163_23 ?_
                  refine z_pushJ gp_163_24 ?_
                  refine z_icmp_ne gi_163_26 (by omega) zr_14 (fun h9 => ?_) (fun h9 => ?_)
                  · refine z_aload0 gi_163_38 ?_
                    refine z_getR (r := 76) gi_163_39 gk_50 (hRr _ rm_50_43 (by decide)) ?_
                    refine z_iload1 gi_163_42 ?_
                    refine z_iald (v := J 76 p) gi_163_43 gk_76 (by decide) (by omega) (rfl) ?_
                    refine z_iret gi_163_44 gr_163 ?_
                    refine ⟨?_, ?_⟩
                    · first | exact congrArg (fun v => some (zi v)) (d9 p (by omega) (by omega)).2.symm | (exfalso; omega)
                    · exact hr
                  · refine z_aload0 gi_163_29 ?_
                    refine z_getR (r := 75) gi_163_30 gk_50 (hRr _ rm_50_42 (by decide)) ?_
                    refine z_iload1 gi_163_33 ?_
                    refine z_iald (v := J 75 p) gi_163_34 gk_75 (by decide) (by omega) (rfl) ?_
                    refine z_goto gi_163_35 ?_
                    refine z_iret gi_163_44 gr_163 ?_
                    refine ⟨?_, ?_⟩
                    · first | exact congrArg (fun v => some (zi v)) (d9 p (by omega) (by omega)).2.symm | (exfalso; omega)
                    · exact hr
        · refine z_aload0 gi_105_31 ?_
          refine z_getR (r := 23) gi_105_32 gk_0 (hR _ rm_0_6) ?_
          refine z_getR (r := 24) gi_105_35 gk_23 (hR _ rm_23_1) ?_
          refine z_iload1 gi_105_38 ?_
          refine z_iald (v := J 24 p) gi_105_39 gk_24 (by decide) (by omega) (rfl) ?_
          refine z_goto gi_105_40 ?_
          refine z_iret gi_105_52 gr_105 ?_
          refine ⟨_, rfl, ?_⟩
          show zW _ _ _ _ [some (.ref 50), some (zi p), some (zi w)] _ _ _ _ _
          refine z_iload2 gi_163_0 ?_
          refine z_pushJ gp_163_1 ?_
          refine z_pushJ gp_163_3 ?_
          refine z_cS3 gi_163_5 (Nat.le_of_ble_eq_true rfl) gc_148_III ?_
          refine z_iload0 gi_148_0 ?_
          refine z_iload1 gi_148_1 ?_
          refine z_icmp_lt gi_148_2 (by omega) zr_14 (fun h5 => ?_) (fun h5 => ?_)
          · refine z_pushJ gp_148_14 ?_
            refine z_bret0 gi_148_15 gr_148 ?_
            show zW _ _ _ _ _ _ _ _ _ _
            refine z_if_eqT gi_163_8 zr_0 (by decide) ?_
            refine z_aload0 gi_163_45 ?_
            refine z_iload1 gi_163_46 ?_
            refine z_iload2 gi_163_47 ?_
            refine z_callVP (As := [_, _]) (v := 0) gi_163_48 rfl gk_50 (Nat.le_of_ble_eq_true rfl) (Nat.le_of_ble_eq_true rfl) (isOne_0 hRr y2.symm yn hp hw (by unfold zV; omega)) ?_
            refine z_if_eqT gi_163_51 zr_0 (by decide) ?_
            refine z_pushJ gp_163_63 ?_
            refine z_iret gi_163_64 gr_163 ?_
            refine ⟨?_, ?_⟩
            · first | exact congrArg (fun v => some (zi v)) (d9 p (by omega) (by omega)).1.symm | (exfalso; omega)
            · exact hr
          · refine z_iload0 gi_148_5 ?_
            refine z_iload2 gi_148_6 ?_
            refine z_icmp_gt gi_148_7 (by omega) zr_15 (fun h6 => ?_) (fun h6 => ?_)
            · refine z_pushJ gp_148_14 ?_
              refine z_bret0 gi_148_15 gr_148 ?_
              show zW _ _ _ _ _ _ _ _ _ _
              refine z_if_eqT gi_163_8 zr_0 (by decide) ?_
              refine z_aload0 gi_163_45 ?_
              refine z_iload1 gi_163_46 ?_
              refine z_iload2 gi_163_47 ?_
              refine z_callVP (As := [_, _]) (v := 0) gi_163_48 rfl gk_50 (Nat.le_of_ble_eq_true rfl) (Nat.le_of_ble_eq_true rfl) (isOne_0 hRr y2.symm yn hp hw (by unfold zV; omega)) ?_
              refine z_if_eqT gi_163_51 zr_0 (by decide) ?_
              refine z_pushJ gp_163_63 ?_
              refine z_iret gi_163_64 gr_163 ?_
              refine ⟨?_, ?_⟩
              · first | exact congrArg (fun v => some (zi v)) (d9 p (by omega) (by omega)).1.symm | (exfalso; omega)
              · exact hr
            · refine z_pushJ gp_148_10 ?_
              refine z_goto gi_148_11 ?_
              refine z_bret1 gi_148_15 gr_148 ?_
              show zW _ _ _ _ _ _ _ _ _ _
              refine z_if_eqF gi_163_8 zr_1 (by decide) ?_
              refine z_aload0 gi_163_11 ?_
              refine z_iload1 gi_163_12 ?_
              refine z_cV1 gi_163_13 gk_50 go_151 (Nat.le_of_ble_eq_true rfl) gc_151_RI ?_
              refine z_iload1 gi_151_0 ?_
              refine z_pushJ gp_151_1 ?_
              refine z_aload0 gi_151_2 ?_
              refine z_getI (v := J 50 1) gi_151_3 gk_50 (rfl) ?_
              refine z_pushJ gp_151_6 ?_
              refine z_isub (e := (J 50 1) - 1) gi_151_7 rfl ?_
              refine z_cS3 gi_151_8 (Nat.le_of_ble_eq_true rfl) gc_148_III ?_
              refine z_iload0 gi_148_0 ?_
              refine z_iload1 gi_148_1 ?_
              refine z_icmp_lt gi_148_2 (by omega) zr_0 (fun h7 => ?_) (fun h7 => ?_)
              · refine z_pushJ gp_148_14 ?_
                refine z_bret0 gi_148_15 gr_148 ?_
                show zW _ _ _ _ _ _ _ _ _ _
                refine z_bret0 gi_151_11 gr_151 ?_
                show zW _ _ _ _ _ _ _ _ _ _
                refine z_if_neF gi_163_16 zr_0 (by decide) ?_
                refine z_pushJ gp_163_19 ?_
                refine z_goto gi_163_20 ?_
                refine z_iret gi_163_44 gr_163 ?_
                refine ⟨?_, ?_⟩
                · first | exact congrArg (fun v => some (zi v)) (d9 p (by omega) (by omega)).1.symm | (exfalso; omega)
                · exact hr
              · refine z_iload0 gi_148_5 ?_
                refine z_iload2 gi_148_6 ?_
                refine z_icmp_gt gi_148_7 (by omega) (by omega) (fun h8 => ?_) (fun h8 => ?_)
                · refine z_pushJ gp_148_14 ?_
                  refine z_bret0 gi_148_15 gr_148 ?_
                  show zW _ _ _ _ _ _ _ _ _ _
                  refine z_bret0 gi_151_11 gr_151 ?_
                  show zW _ _ _ _ _ _ _ _ _ _
                  refine z_if_neF gi_163_16 zr_0 (by decide) ?_
                  refine z_pushJ gp_163_19 ?_
                  refine z_goto gi_163_20 ?_
                  refine z_iret gi_163_44 gr_163 ?_
                  refine ⟨?_, ?_⟩
                  · first | exact congrArg (fun v => some (zi v)) (d9 p (by omega) (by omega)).1.symm | (exfalso; omega)
                  · exact hr
                · refine z_pushJ gp_148_10 ?_
                  refine z_goto gi_148_11 ?_
                  refine z_bret1 gi_148_15 gr_148 ?_
                  show zW _ _ _ _ _ _ _ _ _ _
                  refine z_bret1 gi_151_11 gr_151 ?_
                  show zW _ _ _ _ _ _ _ _ _ _
                  refine z_if_neT gi_163_16 zr_1 (by decide) ?_
                  refine z_iload2 gi_163_23 ?_
                  refine z_pushJ gp_163_24 ?_
                  refine z_icmp_ne gi_163_26 (by omega) zr_14 (fun h9 => ?_) (fun h9 => ?_)
                  · refine z_aload0 gi_163_38 ?_
                    refine z_getR (r := 76) gi_163_39 gk_50 (hRr _ rm_50_43 (by decide)) ?_
                    refine z_iload1 gi_163_42 ?_
                    refine z_iald (v := J 76 p) gi_163_43 gk_76 (by decide) (by omega) (rfl) ?_
                    refine z_iret gi_163_44 gr_163 ?_
                    refine ⟨?_, ?_⟩
                    · first | exact congrArg (fun v => some (zi v)) (d9 p (by omega) (by omega)).1.symm | (exfalso; omega)
                    · exact hr
                  · refine z_aload0 gi_163_29 ?_
                    refine z_getR (r := 75) gi_163_30 gk_50 (hRr _ rm_50_42 (by decide)) ?_
                    refine z_iload1 gi_163_33 ?_
                    refine z_iald (v := J 75 p) gi_163_34 gk_75 (by decide) (by omega) (rfl) ?_
                    refine z_goto gi_163_35 ?_
                    refine z_iret gi_163_44 gr_163 ?_
                    refine ⟨?_, ?_⟩
                    · first | exact congrArg (fun v => some (zi v)) (d9 p (by omega) (by omega)).1.symm | (exfalso; omega)
                    · exact hr
  · refine z_iload2 gi_105_6 ?_
    refine z_pushJ gp_105_7 ?_
    refine z_icmp_ne gi_105_9 (by omega) zr_15 (fun h5 => ?_) (fun h5 => ?_)
    · refine z_aload0 gi_105_53 ?_
      refine z_getR (r := 8) gi_105_54 gk_0 (hR _ rm_0_1) ?_
      refine z_iload1 gi_105_57 ?_
      refine z_iload2 gi_105_58 ?_
      refine z_callVP (As := [_, _]) (v := 0) gi_105_59 rfl gk_8 (Nat.le_of_ble_eq_true rfl) (Nat.le_of_ble_eq_true rfl) (isNumber_0 hR rfl yn hp hw (by unfold zV; omega)) ?_
      refine z_if_eqT gi_105_62 zr_0 (by decide) ?_
      refine z_pushJ gp_105_77 ?_
      refine z_iret gi_105_78 gr_105 ?_
      refine ⟨_, rfl, ?_⟩
      show zW _ _ _ _ [some (.ref 50), some (zi p), some (zi w)] _ _ _ _ _
      refine z_iload2 gi_163_0 ?_
      refine z_pushJ gp_163_1 ?_
      refine z_pushJ gp_163_3 ?_
      refine z_cS3 gi_163_5 (Nat.le_of_ble_eq_true rfl) gc_148_III ?_
      refine z_iload0 gi_148_0 ?_
      refine z_iload1 gi_148_1 ?_
      refine z_icmp_lt gi_148_2 (by omega) zr_14 (fun h6 => ?_) (fun h6 => ?_)
      · refine z_pushJ gp_148_14 ?_
        refine z_bret0 gi_148_15 gr_148 ?_
        show zW _ _ _ _ _ _ _ _ _ _
        refine z_if_eqT gi_163_8 zr_0 (by decide) ?_
        refine z_aload0 gi_163_45 ?_
        refine z_iload1 gi_163_46 ?_
        refine z_iload2 gi_163_47 ?_
        refine z_callVP (As := [_, _]) (v := 0) gi_163_48 rfl gk_50 (Nat.le_of_ble_eq_true rfl) (Nat.le_of_ble_eq_true rfl) (isOne_0 hRr y2.symm yn hp hw (by unfold zV; omega)) ?_
        refine z_if_eqT gi_163_51 zr_0 (by decide) ?_
        refine z_pushJ gp_163_63 ?_
        refine z_iret gi_163_64 gr_163 ?_
        refine ⟨?_, ?_⟩
        · first | rfl | exact congrArg (fun v => some (zi v)) (by omega) | (exfalso; omega)
        · exact hr
      · refine z_iload0 gi_148_5 ?_
        refine z_iload2 gi_148_6 ?_
        refine z_icmp_gt gi_148_7 (by omega) zr_15 (fun h7 => ?_) (fun h7 => ?_)
        · refine z_pushJ gp_148_14 ?_
          refine z_bret0 gi_148_15 gr_148 ?_
          show zW _ _ _ _ _ _ _ _ _ _
          refine z_if_eqT gi_163_8 zr_0 (by decide) ?_
          refine z_aload0 gi_163_45 ?_
          refine z_iload1 gi_163_46 ?_
          refine z_iload2 gi_163_47 ?_
          refine z_callVP (As := [_, _]) (v := 0) gi_163_48 rfl gk_50 (Nat.le_of_ble_eq_true rfl) (Nat.le_of_ble_eq_true rfl) (isOne_0 hRr y2.symm yn hp hw (by unfold zV; omega)) ?_
          refine z_if_eqT gi_163_51 zr_0 (by decide) ?_
          refine z_pushJ gp_163_63 ?_
          refine z_iret gi_163_64 gr_163 ?_
          refine ⟨?_, ?_⟩
          · first | rfl | exact congrArg (fun v => some (zi v)) (by omega) | (exfalso; omega)
          · exact hr
        · refine z_pushJ gp_148_10 ?_
          refine z_goto gi_148_11 ?_
          refine z_bret1 gi_148_15 gr_148 ?_
          show zW _ _ _ _ _ _ _ _ _ _
          refine z_if_eqF gi_163_8 zr_1 (by decide) ?_
          refine z_aload0 gi_163_11 ?_
          refine z_iload1 gi_163_12 ?_
          refine z_cV1 gi_163_13 gk_50 go_151 (Nat.le_of_ble_eq_true rfl) gc_151_RI ?_
          refine z_iload1 gi_151_0 ?_
          refine z_pushJ gp_151_1 ?_
          refine z_aload0 gi_151_2 ?_
          refine z_getI (v := J 50 1) gi_151_3 gk_50 (rfl) ?_
          refine z_pushJ gp_151_6 ?_
          refine z_isub (e := (J 50 1) - 1) gi_151_7 rfl ?_
          refine z_cS3 gi_151_8 (Nat.le_of_ble_eq_true rfl) gc_148_III ?_
          refine z_iload0 gi_148_0 ?_
          refine z_iload1 gi_148_1 ?_
          refine z_icmp_lt gi_148_2 (by omega) zr_0 (fun h8 => ?_) (fun h8 => ?_)
          · refine z_pushJ gp_148_14 ?_
            refine z_bret0 gi_148_15 gr_148 ?_
            show zW _ _ _ _ _ _ _ _ _ _
            refine z_bret0 gi_151_11 gr_151 ?_
            show zW _ _ _ _ _ _ _ _ _ _
            refine z_if_neF gi_163_16 zr_0 (by decide) ?_
            refine z_pushJ gp_163_19 ?_
            refine z_goto gi_163_20 ?_
            refine z_iret gi_163_44 gr_163 ?_
            refine ⟨?_, ?_⟩
            · first | rfl | exact congrArg (fun v => some (zi v)) (by omega) | (exfalso; omega)
            · exact hr
          · refine z_iload0 gi_148_5 ?_
            refine z_iload2 gi_148_6 ?_
            refine z_icmp_gt gi_148_7 (by omega) (by omega) (fun h9 => ?_) (fun h9 => ?_)
            · refine z_pushJ gp_148_14 ?_
              refine z_bret0 gi_148_15 gr_148 ?_
              show zW _ _ _ _ _ _ _ _ _ _
              refine z_bret0 gi_151_11 gr_151 ?_
              show zW _ _ _ _ _ _ _ _ _ _
              refine z_if_neF gi_163_16 zr_0 (by decide) ?_
              refine z_pushJ gp_163_19 ?_
              refine z_goto gi_163_20 ?_
              refine z_iret gi_163_44 gr_163 ?_
              refine ⟨?_, ?_⟩
              · first | rfl | exact congrArg (fun v => some (zi v)) (by omega) | (exfalso; omega)
              · exact hr
            · refine z_pushJ gp_148_10 ?_
              refine z_goto gi_148_11 ?_
              refine z_bret1 gi_148_15 gr_148 ?_
              show zW _ _ _ _ _ _ _ _ _ _
              refine z_bret1 gi_151_11 gr_151 ?_
              show zW _ _ _ _ _ _ _ _ _ _
              refine z_if_neT gi_163_16 zr_1 (by decide) ?_
              refine z_iload2 gi_163_23 ?_
              refine z_pushJ gp_163_24 ?_
              refine z_icmp_ne gi_163_26 (by omega) zr_14 (fun h10 => ?_) (fun h10 => ?_)
              · refine z_aload0 gi_163_38 ?_
                refine z_getR (r := 76) gi_163_39 gk_50 (hRr _ rm_50_43 (by decide)) ?_
                refine z_iload1 gi_163_42 ?_
                refine z_iald (v := J 76 p) gi_163_43 gk_76 (by decide) (by omega) (rfl) ?_
                refine z_iret gi_163_44 gr_163 ?_
                refine ⟨?_, ?_⟩
                · first | rfl | exact congrArg (fun v => some (zi v)) (by omega) | (exfalso; omega)
                · exact hr
              · refine z_aload0 gi_163_29 ?_
                refine z_getR (r := 75) gi_163_30 gk_50 (hRr _ rm_50_42 (by decide)) ?_
                refine z_iload1 gi_163_33 ?_
                refine z_iald (v := J 75 p) gi_163_34 gk_75 (by decide) (by omega) (rfl) ?_
                refine z_goto gi_163_35 ?_
                refine z_iret gi_163_44 gr_163 ?_
                refine ⟨?_, ?_⟩
                · first | rfl | exact congrArg (fun v => some (zi v)) (by omega) | (exfalso; omega)
                · exact hr
    · refine z_aload0 gi_105_12 ?_
      refine z_getR (r := 8) gi_105_13 gk_0 (hR _ rm_0_1) ?_
      refine z_iload1 gi_105_16 ?_
      refine z_cV1 gi_105_17 gk_8 go_87 (Nat.le_of_ble_eq_true rfl) gc_87_RI ?_
      refine z_iload1 gi_87_0 ?_
      refine z_if_lt gi_87_1 (by omega) (fun h6 => ?_) (fun h6 => ?_)
      · refine z_pushJ gp_87_16 ?_
        refine z_bret0 gi_87_17 gr_87 ?_
        show zW _ _ _ _ _ _ _ _ _ _
        refine z_if_neF gi_105_20 zr_0 (by decide) ?_
        refine z_pushJ gp_105_23 ?_
        refine z_iret gi_105_24 gr_105 ?_
        refine ⟨_, rfl, ?_⟩
        show zW _ _ _ _ [some (.ref 50), some (zi p), some (zi w)] _ _ _ _ _
        refine z_iload2 gi_163_0 ?_
        refine z_pushJ gp_163_1 ?_
        refine z_pushJ gp_163_3 ?_
        refine z_cS3 gi_163_5 (Nat.le_of_ble_eq_true rfl) gc_148_III ?_
        refine z_iload0 gi_148_0 ?_
        refine z_iload1 gi_148_1 ?_
        refine z_icmp_lt gi_148_2 (by omega) zr_14 (fun h7 => ?_) (fun h7 => ?_)
        · refine z_pushJ gp_148_14 ?_
          refine z_bret0 gi_148_15 gr_148 ?_
          show zW _ _ _ _ _ _ _ _ _ _
          refine z_if_eqT gi_163_8 zr_0 (by decide) ?_
          refine z_aload0 gi_163_45 ?_
          refine z_iload1 gi_163_46 ?_
          refine z_iload2 gi_163_47 ?_
          refine z_callVP (As := [_, _]) (v := 0) gi_163_48 rfl gk_50 (Nat.le_of_ble_eq_true rfl) (Nat.le_of_ble_eq_true rfl) (isOne_0 hRr y2.symm yn hp hw (by unfold zV; omega)) ?_
          refine z_if_eqT gi_163_51 zr_0 (by decide) ?_
          refine z_pushJ gp_163_63 ?_
          refine z_iret gi_163_64 gr_163 ?_
          refine ⟨?_, ?_⟩
          · first | rfl | exact congrArg (fun v => some (zi v)) (by omega) | (exfalso; omega)
          · exact hr
        · refine z_iload0 gi_148_5 ?_
          refine z_iload2 gi_148_6 ?_
          refine z_icmp_gt gi_148_7 (by omega) zr_15 (fun h8 => ?_) (fun h8 => ?_)
          · refine z_pushJ gp_148_14 ?_
            refine z_bret0 gi_148_15 gr_148 ?_
            show zW _ _ _ _ _ _ _ _ _ _
            refine z_if_eqT gi_163_8 zr_0 (by decide) ?_
            refine z_aload0 gi_163_45 ?_
            refine z_iload1 gi_163_46 ?_
            refine z_iload2 gi_163_47 ?_
            refine z_callVP (As := [_, _]) (v := 0) gi_163_48 rfl gk_50 (Nat.le_of_ble_eq_true rfl) (Nat.le_of_ble_eq_true rfl) (isOne_0 hRr y2.symm yn hp hw (by unfold zV; omega)) ?_
            refine z_if_eqT gi_163_51 zr_0 (by decide) ?_
            refine z_pushJ gp_163_63 ?_
            refine z_iret gi_163_64 gr_163 ?_
            refine ⟨?_, ?_⟩
            · first | rfl | exact congrArg (fun v => some (zi v)) (by omega) | (exfalso; omega)
            · exact hr
          · refine z_pushJ gp_148_10 ?_
            refine z_goto gi_148_11 ?_
            refine z_bret1 gi_148_15 gr_148 ?_
            show zW _ _ _ _ _ _ _ _ _ _
            refine z_if_eqF gi_163_8 zr_1 (by decide) ?_
            refine z_aload0 gi_163_11 ?_
            refine z_iload1 gi_163_12 ?_
            refine z_cV1 gi_163_13 gk_50 go_151 (Nat.le_of_ble_eq_true rfl) gc_151_RI ?_
            refine z_iload1 gi_151_0 ?_
            refine z_pushJ gp_151_1 ?_
            refine z_aload0 gi_151_2 ?_
            refine z_getI (v := J 50 1) gi_151_3 gk_50 (rfl) ?_
            refine z_pushJ gp_151_6 ?_
            refine z_isub (e := (J 50 1) - 1) gi_151_7 rfl ?_
            refine z_cS3 gi_151_8 (Nat.le_of_ble_eq_true rfl) gc_148_III ?_
            refine z_iload0 gi_148_0 ?_
            refine z_iload1 gi_148_1 ?_
            refine z_icmp_lt gi_148_2 (by omega) zr_0 (fun h9 => ?_) (fun h9 => ?_)
            · refine z_pushJ gp_148_14 ?_
              refine z_bret0 gi_148_15 gr_148 ?_
              show zW _ _ _ _ _ _ _ _ _ _
              refine z_bret0 gi_151_11 gr_151 ?_
              show zW _ _ _ _ _ _ _ _ _ _
              refine z_if_neF gi_163_16 zr_0 (by decide) ?_
              refine z_pushJ gp_163_19 ?_
              refine z_goto gi_163_20 ?_
              refine z_iret gi_163_44 gr_163 ?_
              refine ⟨?_, ?_⟩
              · first | rfl | exact congrArg (fun v => some (zi v)) (by omega) | (exfalso; omega)
              · exact hr
            · refine z_iload0 gi_148_5 ?_
              refine z_iload2 gi_148_6 ?_
              refine z_icmp_gt gi_148_7 (by omega) (by omega) (fun h10 => ?_) (fun h10 => ?_)
              · refine z_pushJ gp_148_14 ?_
                refine z_bret0 gi_148_15 gr_148 ?_
                show zW _ _ _ _ _ _ _ _ _ _
                refine z_bret0 gi_151_11 gr_151 ?_
                show zW _ _ _ _ _ _ _ _ _ _
                refine z_if_neF gi_163_16 zr_0 (by decide) ?_
                refine z_pushJ gp_163_19 ?_
                refine z_goto gi_163_20 ?_
                refine z_iret gi_163_44 gr_163 ?_
                refine ⟨?_, ?_⟩
                · first | rfl | exact congrArg (fun v => some (zi v)) (by omega) | (exfalso; omega)
                · exact hr
              · refine z_pushJ gp_148_10 ?_
                refine z_goto gi_148_11 ?_
                refine z_bret1 gi_148_15 gr_148 ?_
                show zW _ _ _ _ _ _ _ _ _ _
                refine z_bret1 gi_151_11 gr_151 ?_
                show zW _ _ _ _ _ _ _ _ _ _
                refine z_if_neT gi_163_16 zr_1 (by decide) ?_
                refine z_iload2 gi_163_23 ?_
                refine z_pushJ gp_163_24 ?_
                refine z_icmp_ne gi_163_26 (by omega) zr_14 (fun h11 => ?_) (fun h11 => ?_)
                · refine z_aload0 gi_163_38 ?_
                  refine z_getR (r := 76) gi_163_39 gk_50 (hRr _ rm_50_43 (by decide)) ?_
                  refine z_iload1 gi_163_42 ?_
                  refine z_iald (v := J 76 p) gi_163_43 gk_76 (by decide) (by omega) (rfl) ?_
                  refine z_iret gi_163_44 gr_163 ?_
                  refine ⟨?_, ?_⟩
                  · first | rfl | exact congrArg (fun v => some (zi v)) (by omega) | (exfalso; omega)
                  · exact hr
                · refine z_aload0 gi_163_29 ?_
                  refine z_getR (r := 75) gi_163_30 gk_50 (hRr _ rm_50_42 (by decide)) ?_
                  refine z_iload1 gi_163_33 ?_
                  refine z_iald (v := J 75 p) gi_163_34 gk_75 (by decide) (by omega) (rfl) ?_
                  refine z_goto gi_163_35 ?_
                  refine z_iret gi_163_44 gr_163 ?_
                  refine ⟨?_, ?_⟩
                  · first | rfl | exact congrArg (fun v => some (zi v)) (by omega) | (exfalso; omega)
                  · exact hr
      · refine z_iload1 gi_87_4 ?_
        refine z_aload0 gi_87_5 ?_
        refine z_getI (v := J 8 2) gi_87_6 gk_8 (rfl) ?_
        refine z_icmp_ge gi_87_9 (by omega) (by omega) (fun h7 => ?_) (fun h7 => ?_)
        · refine z_pushJ gp_87_16 ?_
          refine z_bret0 gi_87_17 gr_87 ?_
          show zW _ _ _ _ _ _ _ _ _ _
          refine z_if_neF gi_105_20 zr_0 (by decide) ?_
          refine z_pushJ gp_105_23 ?_
          refine z_iret gi_105_24 gr_105 ?_
          refine ⟨_, rfl, ?_⟩
          show zW _ _ _ _ [some (.ref 50), some (zi p), some (zi w)] _ _ _ _ _
          refine z_iload2 gi_163_0 ?_
          refine z_pushJ gp_163_1 ?_
          refine z_pushJ gp_163_3 ?_
          refine z_cS3 gi_163_5 (Nat.le_of_ble_eq_true rfl) gc_148_III ?_
          refine z_iload0 gi_148_0 ?_
          refine z_iload1 gi_148_1 ?_
          refine z_icmp_lt gi_148_2 (by omega) zr_14 (fun h8 => ?_) (fun h8 => ?_)
          · refine z_pushJ gp_148_14 ?_
            refine z_bret0 gi_148_15 gr_148 ?_
            show zW _ _ _ _ _ _ _ _ _ _
            refine z_if_eqT gi_163_8 zr_0 (by decide) ?_
            refine z_aload0 gi_163_45 ?_
            refine z_iload1 gi_163_46 ?_
            refine z_iload2 gi_163_47 ?_
            refine z_callVP (As := [_, _]) (v := 0) gi_163_48 rfl gk_50 (Nat.le_of_ble_eq_true rfl) (Nat.le_of_ble_eq_true rfl) (isOne_0 hRr y2.symm yn hp hw (by unfold zV; omega)) ?_
            refine z_if_eqT gi_163_51 zr_0 (by decide) ?_
            refine z_pushJ gp_163_63 ?_
            refine z_iret gi_163_64 gr_163 ?_
            refine ⟨?_, ?_⟩
            · first | rfl | exact congrArg (fun v => some (zi v)) (by omega) | (exfalso; omega)
            · exact hr
          · refine z_iload0 gi_148_5 ?_
            refine z_iload2 gi_148_6 ?_
            refine z_icmp_gt gi_148_7 (by omega) zr_15 (fun h9 => ?_) (fun h9 => ?_)
            · refine z_pushJ gp_148_14 ?_
              refine z_bret0 gi_148_15 gr_148 ?_
              show zW _ _ _ _ _ _ _ _ _ _
              refine z_if_eqT gi_163_8 zr_0 (by decide) ?_
              refine z_aload0 gi_163_45 ?_
              refine z_iload1 gi_163_46 ?_
              refine z_iload2 gi_163_47 ?_
              refine z_callVP (As := [_, _]) (v := 0) gi_163_48 rfl gk_50 (Nat.le_of_ble_eq_true rfl) (Nat.le_of_ble_eq_true rfl) (isOne_0 hRr y2.symm yn hp hw (by unfold zV; omega)) ?_
              refine z_if_eqT gi_163_51 zr_0 (by decide) ?_
              refine z_pushJ gp_163_63 ?_
              refine z_iret gi_163_64 gr_163 ?_
              refine ⟨?_, ?_⟩
              · first | rfl | exact congrArg (fun v => some (zi v)) (by omega) | (exfalso; omega)
              · exact hr
            · refine z_pushJ gp_148_10 ?_
              refine z_goto gi_148_11 ?_
              refine z_bret1 gi_148_15 gr_148 ?_
              show zW _ _ _ _ _ _ _ _ _ _
              refine z_if_eqF gi_163_8 zr_1 (by decide) ?_
              refine z_aload0 gi_163_11 ?_
              refine z_iload1 gi_163_12 ?_
              refine z_cV1 gi_163_13 gk_50 go_151 (Nat.le_of_ble_eq_true rfl) gc_151_RI ?_
              refine z_iload1 gi_151_0 ?_
              refine z_pushJ gp_151_1 ?_
              refine z_aload0 gi_151_2 ?_
              refine z_getI (v := J 50 1) gi_151_3 gk_50 (rfl) ?_
              refine z_pushJ gp_151_6 ?_
              refine z_isub (e := (J 50 1) - 1) gi_151_7 rfl ?_
              refine z_cS3 gi_151_8 (Nat.le_of_ble_eq_true rfl) gc_148_III ?_
              refine z_iload0 gi_148_0 ?_
              refine z_iload1 gi_148_1 ?_
              refine z_icmp_lt gi_148_2 (by omega) zr_0 (fun h10 => ?_) (fun h10 => ?_)
              · refine z_pushJ gp_148_14 ?_
                refine z_bret0 gi_148_15 gr_148 ?_
                show zW _ _ _ _ _ _ _ _ _ _
                refine z_bret0 gi_151_11 gr_151 ?_
                show zW _ _ _ _ _ _ _ _ _ _
                refine z_if_neF gi_163_16 zr_0 (by decide) ?_
                refine z_pushJ gp_163_19 ?_
                refine z_goto gi_163_20 ?_
                refine z_iret gi_163_44 gr_163 ?_
                refine ⟨?_, ?_⟩
                · first | rfl | exact congrArg (fun v => some (zi v)) (by omega) | (exfalso; omega)
                · exact hr
              · refine z_iload0 gi_148_5 ?_
                refine z_iload2 gi_148_6 ?_
                refine z_icmp_gt gi_148_7 (by omega) (by omega) (fun h11 => ?_) (fun h11 => ?_)
                · refine z_pushJ gp_148_14 ?_
                  refine z_bret0 gi_148_15 gr_148 ?_
                  show zW _ _ _ _ _ _ _ _ _ _
                  refine z_bret0 gi_151_11 gr_151 ?_
                  show zW _ _ _ _ _ _ _ _ _ _
                  refine z_if_neF gi_163_16 zr_0 (by decide) ?_
                  refine z_pushJ gp_163_19 ?_
                  refine z_goto gi_163_20 ?_
                  refine z_iret gi_163_44 gr_163 ?_
                  refine ⟨?_, ?_⟩
                  · first | rfl | exact congrArg (fun v => some (zi v)) (by omega) | (exfalso; omega)
                  · exact hr
                · refine z_pushJ gp_148_10 ?_
                  refine z_goto gi_148_11 ?_
                  refine z_bret1 gi_148_15 gr_148 ?_
                  show zW _ _ _ _ _ _ _ _ _ _
                  refine z_bret1 gi_151_11 gr_151 ?_
                  show zW _ _ _ _ _ _ _ _ _ _
                  refine z_if_neT gi_163_16 zr_1 (by decide) ?_
                  refine z_iload2 gi_163_23 ?_
                  refine z_pushJ gp_163_24 ?_
                  refine z_icmp_ne gi_163_26 (by omega) zr_14 (fun h12 => ?_) (fun h12 => ?_)
                  · refine z_aload0 gi_163_38 ?_
                    refine z_getR (r := 76) gi_163_39 gk_50 (hRr _ rm_50_43 (by decide)) ?_
                    refine z_iload1 gi_163_42 ?_
                    refine z_iald (v := J 76 p) gi_163_43 gk_76 (by decide) (by omega) (rfl) ?_
                    refine z_iret gi_163_44 gr_163 ?_
                    refine ⟨?_, ?_⟩
                    · first | rfl | exact congrArg (fun v => some (zi v)) (by omega) | (exfalso; omega)
                    · exact hr
                  · refine z_aload0 gi_163_29 ?_
                    refine z_getR (r := 75) gi_163_30 gk_50 (hRr _ rm_50_42 (by decide)) ?_
                    refine z_iload1 gi_163_33 ?_
                    refine z_iald (v := J 75 p) gi_163_34 gk_75 (by decide) (by omega) (rfl) ?_
                    refine z_goto gi_163_35 ?_
                    refine z_iret gi_163_44 gr_163 ?_
                    refine ⟨?_, ?_⟩
                    · first | rfl | exact congrArg (fun v => some (zi v)) (by omega) | (exfalso; omega)
                    · exact hr
        · refine z_pushJ gp_87_12 ?_
          refine z_goto gi_87_13 ?_
          refine z_bret1 gi_87_17 gr_87 ?_
          show zW _ _ _ _ _ _ _ _ _ _
          refine z_if_neT gi_105_20 zr_1 (by decide) ?_
          refine z_iload2 gi_105_25 ?_
          refine z_pushJ gp_105_26 ?_
          refine z_icmp_ne gi_105_28 (by omega) zr_14 (fun h8 => ?_) (fun h8 => ?_)
          · refine z_aload0 gi_105_43 ?_
            refine z_getR (r := 23) gi_105_44 gk_0 (hR _ rm_0_6) ?_
            refine z_getR (r := 25) gi_105_47 gk_23 (hR _ rm_23_2) ?_
            refine z_iload1 gi_105_50 ?_
            refine z_iald (v := J 25 p) gi_105_51 gk_25 (by decide) (by omega) (rfl) ?_
            refine z_iret gi_105_52 gr_105 ?_
            refine ⟨_, rfl, ?_⟩
            show zW _ _ _ _ [some (.ref 50), some (zi p), some (zi w)] _ _ _ _ _
            refine z_iload2 gi_163_0 ?_
            refine z_pushJ gp_163_1 ?_
            refine z_pushJ gp_163_3 ?_
            refine z_cS3 gi_163_5 (Nat.le_of_ble_eq_true rfl) gc_148_III ?_
            refine z_iload0 gi_148_0 ?_
            refine z_iload1 gi_148_1 ?_
            refine z_icmp_lt gi_148_2 (by omega) zr_14 (fun h9 => ?_) (fun h9 => ?_)
            · refine z_pushJ gp_148_14 ?_
              refine z_bret0 gi_148_15 gr_148 ?_
              show zW _ _ _ _ _ _ _ _ _ _
              refine z_if_eqT gi_163_8 zr_0 (by decide) ?_
              refine z_aload0 gi_163_45 ?_
              refine z_iload1 gi_163_46 ?_
              refine z_iload2 gi_163_47 ?_
              refine z_callVP (As := [_, _]) (v := 0) gi_163_48 rfl gk_50 (Nat.le_of_ble_eq_true rfl) (Nat.le_of_ble_eq_true rfl) (isOne_0 hRr y2.symm yn hp hw (by unfold zV; omega)) ?_
              refine z_if_eqT gi_163_51 zr_0 (by decide) ?_
              refine z_pushJ gp_163_63 ?_
              refine z_iret gi_163_64 gr_163 ?_
              refine ⟨?_, ?_⟩
              · first | exact congrArg (fun v => some (zi v)) (d9 p (by omega) (by omega)).2.symm | (exfalso; omega)
              · exact hr
            · refine z_iload0 gi_148_5 ?_
              refine z_iload2 gi_148_6 ?_
              refine z_icmp_gt gi_148_7 (by omega) zr_15 (fun h10 => ?_) (fun h10 => ?_)
              · refine z_pushJ gp_148_14 ?_
                refine z_bret0 gi_148_15 gr_148 ?_
                show zW _ _ _ _ _ _ _ _ _ _
                refine z_if_eqT gi_163_8 zr_0 (by decide) ?_
                refine z_aload0 gi_163_45 ?_
                refine z_iload1 gi_163_46 ?_
                refine z_iload2 gi_163_47 ?_
                refine z_callVP (As := [_, _]) (v := 0) gi_163_48 rfl gk_50 (Nat.le_of_ble_eq_true rfl) (Nat.le_of_ble_eq_true rfl) (isOne_0 hRr y2.symm yn hp hw (by unfold zV; omega)) ?_
                refine z_if_eqT gi_163_51 zr_0 (by decide) ?_
                refine z_pushJ gp_163_63 ?_
                refine z_iret gi_163_64 gr_163 ?_
                refine ⟨?_, ?_⟩
                · first | exact congrArg (fun v => some (zi v)) (d9 p (by omega) (by omega)).2.symm | (exfalso; omega)
                · exact hr
              · refine z_pushJ gp_148_10 ?_
                refine z_goto gi_148_11 ?_
                refine z_bret1 gi_148_15 gr_148 ?_
                show zW _ _ _ _ _ _ _ _ _ _
                refine z_if_eqF gi_163_8 zr_1 (by decide) ?_
                refine z_aload0 gi_163_11 ?_
                refine z_iload1 gi_163_12 ?_
                refine z_cV1 gi_163_13 gk_50 go_151 (Nat.le_of_ble_eq_true rfl) gc_151_RI ?_
                refine z_iload1 gi_151_0 ?_
                refine z_pushJ gp_151_1 ?_
                refine z_aload0 gi_151_2 ?_
                refine z_getI (v := J 50 1) gi_151_3 gk_50 (rfl) ?_
                refine z_pushJ gp_151_6 ?_
                refine z_isub (e := (J 50 1) - 1) gi_151_7 rfl ?_
                refine z_cS3 gi_151_8 (Nat.le_of_ble_eq_true rfl) gc_148_III ?_
                refine z_iload0 gi_148_0 ?_
                refine z_iload1 gi_148_1 ?_
                refine z_icmp_lt gi_148_2 (by omega) zr_0 (fun h11 => ?_) (fun h11 => ?_)
                · refine z_pushJ gp_148_14 ?_
                  refine z_bret0 gi_148_15 gr_148 ?_
                  show zW _ _ _ _ _ _ _ _ _ _
                  refine z_bret0 gi_151_11 gr_151 ?_
                  show zW _ _ _ _ _ _ _ _ _ _
                  refine z_if_neF gi_163_16 zr_0 (by decide) ?_
                  refine z_pushJ gp_163_19 ?_
                  refine z_goto gi_163_20 ?_
                  refine z_iret gi_163_44 gr_163 ?_
                  refine ⟨?_, ?_⟩
                  · first | exact congrArg (fun v => some (zi v)) (d9 p (by omega) (by omega)).2.symm | (exfalso; omega)
                  · exact hr
                · refine z_iload0 gi_148_5 ?_
                  refine z_iload2 gi_148_6 ?_
                  refine z_icmp_gt gi_148_7 (by omega) (by omega) (fun h12 => ?_) (fun h12 => ?_)
                  · refine z_pushJ gp_148_14 ?_
                    refine z_bret0 gi_148_15 gr_148 ?_
                    show zW _ _ _ _ _ _ _ _ _ _
                    refine z_bret0 gi_151_11 gr_151 ?_
                    show zW _ _ _ _ _ _ _ _ _ _
                    refine z_if_neF gi_163_16 zr_0 (by decide) ?_
                    refine z_pushJ gp_163_19 ?_
                    refine z_goto gi_163_20 ?_
                    refine z_iret gi_163_44 gr_163 ?_
                    refine ⟨?_, ?_⟩
                    · first | exact congrArg (fun v => some (zi v)) (d9 p (by omega) (by omega)).2.symm | (exfalso; omega)
                    · exact hr
                  · refine z_pushJ gp_148_10 ?_
                    refine z_goto gi_148_11 ?_
                    refine z_bret1 gi_148_15 gr_148 ?_
                    show zW _ _ _ _ _ _ _ _ _ _
                    refine z_bret1 gi_151_11 gr_151 ?_
                    show zW _ _ _ _ _ _ _ _ _ _
                    refine z_if_neT gi_163_16 zr_1 (by decide) ?_
                    refine z_iload2 gi_163_23 ?_
                    refine z_pushJ gp_163_24 ?_
                    refine z_icmp_ne gi_163_26 (by omega) zr_14 (fun h13 => ?_) (fun h13 => ?_)
                    · refine z_aload0 gi_163_38 ?_
                      refine z_getR (r := 76) gi_163_39 gk_50 (hRr _ rm_50_43 (by decide)) ?_
                      refine z_iload1 gi_163_42 ?_
                      refine z_iald (v := J 76 p) gi_163_43 gk_76 (by decide) (by omega) (rfl) ?_
                      refine z_iret gi_163_44 gr_163 ?_
                      refine ⟨?_, ?_⟩
                      · first | exact congrArg (fun v => some (zi v)) (d9 p (by omega) (by omega)).2.symm | (exfalso; omega)
                      · exact hr
                    · refine z_aload0 gi_163_29 ?_
                      refine z_getR (r := 75) gi_163_30 gk_50 (hRr _ rm_50_42 (by decide)) ?_
                      refine z_iload1 gi_163_33 ?_
                      refine z_iald (v := J 75 p) gi_163_34 gk_75 (by decide) (by omega) (rfl) ?_
                      refine z_goto gi_163_35 ?_
                      refine z_iret gi_163_44 gr_163 ?_
                      refine ⟨?_, ?_⟩
                      · first | exact congrArg (fun v => some (zi v)) (d9 p (by omega) (by omega)).2.symm | (exfalso; omega)
                      · exact hr
          · refine z_aload0 gi_105_31 ?_
            refine z_getR (r := 23) gi_105_32 gk_0 (hR _ rm_0_6) ?_
            refine z_getR (r := 24) gi_105_35 gk_23 (hR _ rm_23_1) ?_
            refine z_iload1 gi_105_38 ?_
            refine z_iald (v := J 24 p) gi_105_39 gk_24 (by decide) (by omega) (rfl) ?_
            refine z_goto gi_105_40 ?_
            refine z_iret gi_105_52 gr_105 ?_
            refine ⟨_, rfl, ?_⟩
            show zW _ _ _ _ [some (.ref 50), some (zi p), some (zi w)] _ _ _ _ _
            refine z_iload2 gi_163_0 ?_
            refine z_pushJ gp_163_1 ?_
            refine z_pushJ gp_163_3 ?_
            refine z_cS3 gi_163_5 (Nat.le_of_ble_eq_true rfl) gc_148_III ?_
            refine z_iload0 gi_148_0 ?_
            refine z_iload1 gi_148_1 ?_
            refine z_icmp_lt gi_148_2 (by omega) zr_14 (fun h9 => ?_) (fun h9 => ?_)
            · refine z_pushJ gp_148_14 ?_
              refine z_bret0 gi_148_15 gr_148 ?_
              show zW _ _ _ _ _ _ _ _ _ _
              refine z_if_eqT gi_163_8 zr_0 (by decide) ?_
              refine z_aload0 gi_163_45 ?_
              refine z_iload1 gi_163_46 ?_
              refine z_iload2 gi_163_47 ?_
              refine z_callVP (As := [_, _]) (v := 0) gi_163_48 rfl gk_50 (Nat.le_of_ble_eq_true rfl) (Nat.le_of_ble_eq_true rfl) (isOne_0 hRr y2.symm yn hp hw (by unfold zV; omega)) ?_
              refine z_if_eqT gi_163_51 zr_0 (by decide) ?_
              refine z_pushJ gp_163_63 ?_
              refine z_iret gi_163_64 gr_163 ?_
              refine ⟨?_, ?_⟩
              · first | exact congrArg (fun v => some (zi v)) (d9 p (by omega) (by omega)).1.symm | (exfalso; omega)
              · exact hr
            · refine z_iload0 gi_148_5 ?_
              refine z_iload2 gi_148_6 ?_
              refine z_icmp_gt gi_148_7 (by omega) zr_15 (fun h10 => ?_) (fun h10 => ?_)
              · refine z_pushJ gp_148_14 ?_
                refine z_bret0 gi_148_15 gr_148 ?_
                show zW _ _ _ _ _ _ _ _ _ _
                refine z_if_eqT gi_163_8 zr_0 (by decide) ?_
                refine z_aload0 gi_163_45 ?_
                refine z_iload1 gi_163_46 ?_
                refine z_iload2 gi_163_47 ?_
                refine z_callVP (As := [_, _]) (v := 0) gi_163_48 rfl gk_50 (Nat.le_of_ble_eq_true rfl) (Nat.le_of_ble_eq_true rfl) (isOne_0 hRr y2.symm yn hp hw (by unfold zV; omega)) ?_
                refine z_if_eqT gi_163_51 zr_0 (by decide) ?_
                refine z_pushJ gp_163_63 ?_
                refine z_iret gi_163_64 gr_163 ?_
                refine ⟨?_, ?_⟩
                · first | exact congrArg (fun v => some (zi v)) (d9 p (by omega) (by omega)).1.symm | (exfalso; omega)
                · exact hr
              · refine z_pushJ gp_148_10 ?_
                refine z_goto gi_148_11 ?_
                refine z_bret1 gi_148_15 gr_148 ?_
                show zW _ _ _ _ _ _ _ _ _ _
                refine z_if_eqF gi_163_8 zr_1 (by decide) ?_
                refine z_aload0 gi_163_11 ?_
                refine z_iload1 gi_163_12 ?_
                refine z_cV1 gi_163_13 gk_50 go_151 (Nat.le_of_ble_eq_true rfl) gc_151_RI ?_
                refine z_iload1 gi_151_0 ?_
                refine z_pushJ gp_151_1 ?_
                refine z_aload0 gi_151_2 ?_
                refine z_getI (v := J 50 1) gi_151_3 gk_50 (rfl) ?_
                refine z_pushJ gp_151_6 ?_
                refine z_isub (e := (J 50 1) - 1) gi_151_7 rfl ?_
                refine z_cS3 gi_151_8 (Nat.le_of_ble_eq_true rfl) gc_148_III ?_
                refine z_iload0 gi_148_0 ?_
                refine z_iload1 gi_148_1 ?_
                refine z_icmp_lt gi_148_2 (by omega) zr_0 (fun h11 => ?_) (fun h11 => ?_)
                · refine z_pushJ gp_148_14 ?_
                  refine z_bret0 gi_148_15 gr_148 ?_
                  show zW _ _ _ _ _ _ _ _ _ _
                  refine z_bret0 gi_151_11 gr_151 ?_
                  show zW _ _ _ _ _ _ _ _ _ _
                  refine z_if_neF gi_163_16 zr_0 (by decide) ?_
                  refine z_pushJ gp_163_19 ?_
                  refine z_goto gi_163_20 ?_
                  refine z_iret gi_163_44 gr_163 ?_
                  refine ⟨?_, ?_⟩
                  · first | exact congrArg (fun v => some (zi v)) (d9 p (by omega) (by omega)).1.symm | (exfalso; omega)
                  · exact hr
                · refine z_iload0 gi_148_5 ?_
                  refine z_iload2 gi_148_6 ?_
                  refine z_icmp_gt gi_148_7 (by omega) (by omega) (fun h12 => ?_) (fun h12 => ?_)
                  · refine z_pushJ gp_148_14 ?_
                    refine z_bret0 gi_148_15 gr_148 ?_
                    show zW _ _ _ _ _ _ _ _ _ _
                    refine z_bret0 gi_151_11 gr_151 ?_
                    show zW _ _ _ _ _ _ _ _ _ _
                    refine z_if_neF gi_163_16 zr_0 (by decide) ?_
                    refine z_pushJ gp_163_19 ?_
                    refine z_goto gi_163_20 ?_
                    refine z_iret gi_163_44 gr_163 ?_
                    refine ⟨?_, ?_⟩
                    · first | exact congrArg (fun v => some (zi v)) (d9 p (by omega) (by omega)).1.symm | (exfalso; omega)
                    · exact hr
                  · refine z_pushJ gp_148_10 ?_
                    refine z_goto gi_148_11 ?_
                    refine z_bret1 gi_148_15 gr_148 ?_
                    show zW _ _ _ _ _ _ _ _ _ _
                    refine z_bret1 gi_151_11 gr_151 ?_
                    show zW _ _ _ _ _ _ _ _ _ _
                    refine z_if_neT gi_163_16 zr_1 (by decide) ?_
                    refine z_iload2 gi_163_23 ?_
                    refine z_pushJ gp_163_24 ?_
                    refine z_icmp_ne gi_163_26 (by omega) zr_14 (fun h13 => ?_) (fun h13 => ?_)
                    · refine z_aload0 gi_163_38 ?_
                      refine z_getR (r := 76) gi_163_39 gk_50 (hRr _ rm_50_43 (by decide)) ?_
                      refine z_iload1 gi_163_42 ?_
                      refine z_iald (v := J 76 p) gi_163_43 gk_76 (by decide) (by omega) (rfl) ?_
                      refine z_iret gi_163_44 gr_163 ?_
                      refine ⟨?_, ?_⟩
                      · first | exact congrArg (fun v => some (zi v)) (d9 p (by omega) (by omega)).1.symm | (exfalso; omega)
                      · exact hr
                    · refine z_aload0 gi_163_29 ?_
                      refine z_getR (r := 75) gi_163_30 gk_50 (hRr _ rm_50_42 (by decide)) ?_
                      refine z_iload1 gi_163_33 ?_
                      refine z_iald (v := J 75 p) gi_163_34 gk_75 (by decide) (by omega) (rfl) ?_
                      refine z_goto gi_163_35 ?_
                      refine z_iret gi_163_44 gr_163 ?_
                      refine ⟨?_, ?_⟩
                      · first | exact congrArg (fun v => some (zi v)) (d9 p (by omega) (by omega)).1.symm | (exfalso; omega)
                      · exact hr
theorem st_of_1 {X : Nat × (Nat → Int32)} {d : Nat} {J M : zA} {R : zR} {p w : Int} (hr : Rel X J M R) (hp : -2147483648 ≤ p ∧ p < 2147483648) (hw : -2147483648 ≤ w ∧ w < 2147483648) (hs : ¬ (w = 14 ∨ w = 15)) (hV : zV (J 8 2) p w) : zW X (d + 20) 105 0 (gEn 105 [(.ref 0), (zi p), (zi w)]) [] J M R (stP X (d + 20) 163 [(zi p), (zi w)]) := by
  have hr0 := hr
  obtain ⟨hR, hG, hY, hD, hP, hC, hAc, hS, hTp, hX, hW⟩ := hr0
  have hRr : zRoR R := zRoR_of hR
  have hY0 := hY
  obtain ⟨y1, y2, y3⟩ := hY0
  have yn := zNn y3
  have hD0 := hD
  obtain ⟨⟨d1, d2, d3, d4, d5, d6⟩, d7, d8, d9, d10, d11⟩ := hD0
  show zW _ _ _ _ [some (.ref 0), some (zi p), some (zi w)] _ _ _ _ _
  refine z_iload2 gi_105_0 ?_
  refine z_pushJ gp_105_1 ?_
  refine z_icmp_eq gi_105_3 (by omega) zr_14 (fun h1 => ?_) (fun h1 => ?_)
  · refine z_aload0 gi_105_12 ?_
    refine z_getR (r := 8) gi_105_13 gk_0 (hR _ rm_0_1) ?_
    refine z_iload1 gi_105_16 ?_
    refine z_cV1 gi_105_17 gk_8 go_87 (Nat.le_of_ble_eq_true rfl) gc_87_RI ?_
    refine z_iload1 gi_87_0 ?_
    refine z_if_lt gi_87_1 (by omega) (fun h2 => ?_) (fun h2 => ?_)
    · refine z_pushJ gp_87_16 ?_
      refine z_bret0 gi_87_17 gr_87 ?_
      show zW _ _ _ _ _ _ _ _ _ _
      refine z_if_neF gi_105_20 zr_0 (by decide) ?_
      refine z_pushJ gp_105_23 ?_
      refine z_iret gi_105_24 gr_105 ?_
      refine ⟨_, rfl, ?_⟩
      show zW _ _ _ _ [some (.ref 50), some (zi p), some (zi w)] _ _ _ _ _
      refine z_iload2 gi_163_0 ?_
      refine z_pushJ gp_163_1 ?_
      refine z_pushJ gp_163_3 ?_
      refine z_cS3 gi_163_5 (Nat.le_of_ble_eq_true rfl) gc_148_III ?_
      refine z_iload0 gi_148_0 ?_
      refine z_iload1 gi_148_1 ?_
      refine z_icmp_lt gi_148_2 (by omega) zr_14 (fun h3 => ?_) (fun h3 => ?_)
      · refine z_pushJ gp_148_14 ?_
        refine z_bret0 gi_148_15 gr_148 ?_
        show zW _ _ _ _ _ _ _ _ _ _
        refine z_if_eqT gi_163_8 zr_0 (by decide) ?_
        refine z_aload0 gi_163_45 ?_
        refine z_iload1 gi_163_46 ?_
        refine z_iload2 gi_163_47 ?_
        refine z_callVP (As := [_, _]) (v := 1) gi_163_48 rfl gk_50 (Nat.le_of_ble_eq_true rfl) (Nat.le_of_ble_eq_true rfl) (isOne_1 hRr y2.symm yn hp hw hV) ?_
        refine z_if_eqF gi_163_51 zr_1 (by decide) ?_
        refine z_aload0 gi_163_54 ?_
        refine z_iload2 gi_163_55 ?_
        refine z_iload1 gi_163_56 ?_
        refine z_callVP (As := [_, _]) (v := (cN J) p w) gi_163_57 rfl gk_50 (Nat.le_of_ble_eq_true rfl) (Nat.le_of_ble_eq_true rfl) (valueAt_s hRr y1.symm y2.symm y3 hp hw hV) ?_
        refine z_goto gi_163_60 ?_
        refine z_iret gi_163_64 gr_163 ?_
        refine ⟨?_, ?_⟩
        · first | rfl | exact congrArg (fun v => some (zi v)) (by omega) | (exfalso; omega)
        · exact hr
      · refine z_iload0 gi_148_5 ?_
        refine z_iload2 gi_148_6 ?_
        refine z_icmp_gt gi_148_7 (by omega) zr_15 (fun h4 => ?_) (fun h4 => ?_)
        · refine z_pushJ gp_148_14 ?_
          refine z_bret0 gi_148_15 gr_148 ?_
          show zW _ _ _ _ _ _ _ _ _ _
          refine z_if_eqT gi_163_8 zr_0 (by decide) ?_
          refine z_aload0 gi_163_45 ?_
          refine z_iload1 gi_163_46 ?_
          refine z_iload2 gi_163_47 ?_
          refine z_callVP (As := [_, _]) (v := 1) gi_163_48 rfl gk_50 (Nat.le_of_ble_eq_true rfl) (Nat.le_of_ble_eq_true rfl) (isOne_1 hRr y2.symm yn hp hw hV) ?_
          refine z_if_eqF gi_163_51 zr_1 (by decide) ?_
          refine z_aload0 gi_163_54 ?_
          refine z_iload2 gi_163_55 ?_
          refine z_iload1 gi_163_56 ?_
          refine z_callVP (As := [_, _]) (v := (cN J) p w) gi_163_57 rfl gk_50 (Nat.le_of_ble_eq_true rfl) (Nat.le_of_ble_eq_true rfl) (valueAt_s hRr y1.symm y2.symm y3 hp hw hV) ?_
          refine z_goto gi_163_60 ?_
          refine z_iret gi_163_64 gr_163 ?_
          refine ⟨?_, ?_⟩
          · first | rfl | exact congrArg (fun v => some (zi v)) (by omega) | (exfalso; omega)
          · exact hr
        · refine z_pushJ gp_148_10 ?_
          refine z_goto gi_148_11 ?_
          refine z_bret1 gi_148_15 gr_148 ?_
          show zW _ _ _ _ _ _ _ _ _ _
          refine z_if_eqF gi_163_8 zr_1 (by decide) ?_
          refine z_aload0 gi_163_11 ?_
          refine z_iload1 gi_163_12 ?_
          refine z_cV1 gi_163_13 gk_50 go_151 (Nat.le_of_ble_eq_true rfl) gc_151_RI ?_
          refine z_iload1 gi_151_0 ?_
          refine z_pushJ gp_151_1 ?_
          refine z_aload0 gi_151_2 ?_
          refine z_getI (v := J 50 1) gi_151_3 gk_50 (rfl) ?_
          refine z_pushJ gp_151_6 ?_
          refine z_isub (e := (J 50 1) - 1) gi_151_7 rfl ?_
          refine z_cS3 gi_151_8 (Nat.le_of_ble_eq_true rfl) gc_148_III ?_
          refine z_iload0 gi_148_0 ?_
          refine z_iload1 gi_148_1 ?_
          refine z_icmp_lt gi_148_2 (by omega) zr_0 (fun h5 => ?_) (fun h5 => ?_)
          · refine z_pushJ gp_148_14 ?_
            refine z_bret0 gi_148_15 gr_148 ?_
            show zW _ _ _ _ _ _ _ _ _ _
            refine z_bret0 gi_151_11 gr_151 ?_
            show zW _ _ _ _ _ _ _ _ _ _
            refine z_if_neF gi_163_16 zr_0 (by decide) ?_
            refine z_pushJ gp_163_19 ?_
            refine z_goto gi_163_20 ?_
            refine z_iret gi_163_44 gr_163 ?_
            refine ⟨?_, ?_⟩
            · first | rfl | exact congrArg (fun v => some (zi v)) (by omega) | (exfalso; omega)
            · exact hr
          · refine z_iload0 gi_148_5 ?_
            refine z_iload2 gi_148_6 ?_
            refine z_icmp_gt gi_148_7 (by omega) (by omega) (fun h6 => ?_) (fun h6 => ?_)
            · refine z_pushJ gp_148_14 ?_
              refine z_bret0 gi_148_15 gr_148 ?_
              show zW _ _ _ _ _ _ _ _ _ _
              refine z_bret0 gi_151_11 gr_151 ?_
              show zW _ _ _ _ _ _ _ _ _ _
              refine z_if_neF gi_163_16 zr_0 (by decide) ?_
              refine z_pushJ gp_163_19 ?_
              refine z_goto gi_163_20 ?_
              refine z_iret gi_163_44 gr_163 ?_
              refine ⟨?_, ?_⟩
              · first | rfl | exact congrArg (fun v => some (zi v)) (by omega) | (exfalso; omega)
              · exact hr
            · refine z_pushJ gp_148_10 ?_
              refine z_goto gi_148_11 ?_
              refine z_bret1 gi_148_15 gr_148 ?_
              show zW _ _ _ _ _ _ _ _ _ _
              refine z_bret1 gi_151_11 gr_151 ?_
              show zW _ _ _ _ _ _ _ _ _ _
              refine z_if_neT gi_163_16 zr_1 (by decide) ?_
              refine z_iload2 gi_163_23 ?_
              refine z_pushJ gp_163_24 ?_
              refine z_icmp_ne gi_163_26 (by omega) zr_14 (fun h7 => ?_) (fun h7 => ?_)
              · refine z_aload0 gi_163_38 ?_
                refine z_getR (r := 76) gi_163_39 gk_50 (hRr _ rm_50_43 (by decide)) ?_
                refine z_iload1 gi_163_42 ?_
                refine z_iald (v := J 76 p) gi_163_43 gk_76 (by decide) (by omega) (rfl) ?_
                refine z_iret gi_163_44 gr_163 ?_
                refine ⟨?_, ?_⟩
                · first | rfl | exact congrArg (fun v => some (zi v)) (by omega) | (exfalso; omega)
                · exact hr
              · refine z_aload0 gi_163_29 ?_
                refine z_getR (r := 75) gi_163_30 gk_50 (hRr _ rm_50_42 (by decide)) ?_
                refine z_iload1 gi_163_33 ?_
                refine z_iald (v := J 75 p) gi_163_34 gk_75 (by decide) (by omega) (rfl) ?_
                refine z_goto gi_163_35 ?_
                refine z_iret gi_163_44 gr_163 ?_
                refine ⟨?_, ?_⟩
                · first | rfl | exact congrArg (fun v => some (zi v)) (by omega) | (exfalso; omega)
                · exact hr
    · refine z_iload1 gi_87_4 ?_
      refine z_aload0 gi_87_5 ?_
      refine z_getI (v := J 8 2) gi_87_6 gk_8 (rfl) ?_
      refine z_icmp_ge gi_87_9 (by omega) (by omega) (fun h3 => ?_) (fun h3 => ?_)
      · refine z_pushJ gp_87_16 ?_
        refine z_bret0 gi_87_17 gr_87 ?_
        show zW _ _ _ _ _ _ _ _ _ _
        refine z_if_neF gi_105_20 zr_0 (by decide) ?_
        refine z_pushJ gp_105_23 ?_
        refine z_iret gi_105_24 gr_105 ?_
        refine ⟨_, rfl, ?_⟩
        show zW _ _ _ _ [some (.ref 50), some (zi p), some (zi w)] _ _ _ _ _
        refine z_iload2 gi_163_0 ?_
        refine z_pushJ gp_163_1 ?_
        refine z_pushJ gp_163_3 ?_
        refine z_cS3 gi_163_5 (Nat.le_of_ble_eq_true rfl) gc_148_III ?_
        refine z_iload0 gi_148_0 ?_
        refine z_iload1 gi_148_1 ?_
        refine z_icmp_lt gi_148_2 (by omega) zr_14 (fun h4 => ?_) (fun h4 => ?_)
        · refine z_pushJ gp_148_14 ?_
          refine z_bret0 gi_148_15 gr_148 ?_
          show zW _ _ _ _ _ _ _ _ _ _
          refine z_if_eqT gi_163_8 zr_0 (by decide) ?_
          refine z_aload0 gi_163_45 ?_
          refine z_iload1 gi_163_46 ?_
          refine z_iload2 gi_163_47 ?_
          refine z_callVP (As := [_, _]) (v := 1) gi_163_48 rfl gk_50 (Nat.le_of_ble_eq_true rfl) (Nat.le_of_ble_eq_true rfl) (isOne_1 hRr y2.symm yn hp hw hV) ?_
          refine z_if_eqF gi_163_51 zr_1 (by decide) ?_
          refine z_aload0 gi_163_54 ?_
          refine z_iload2 gi_163_55 ?_
          refine z_iload1 gi_163_56 ?_
          refine z_callVP (As := [_, _]) (v := (cN J) p w) gi_163_57 rfl gk_50 (Nat.le_of_ble_eq_true rfl) (Nat.le_of_ble_eq_true rfl) (valueAt_s hRr y1.symm y2.symm y3 hp hw hV) ?_
          refine z_goto gi_163_60 ?_
          refine z_iret gi_163_64 gr_163 ?_
          refine ⟨?_, ?_⟩
          · first | rfl | exact congrArg (fun v => some (zi v)) (by omega) | (exfalso; omega)
          · exact hr
        · refine z_iload0 gi_148_5 ?_
          refine z_iload2 gi_148_6 ?_
          refine z_icmp_gt gi_148_7 (by omega) zr_15 (fun h5 => ?_) (fun h5 => ?_)
          · refine z_pushJ gp_148_14 ?_
            refine z_bret0 gi_148_15 gr_148 ?_
            show zW _ _ _ _ _ _ _ _ _ _
            refine z_if_eqT gi_163_8 zr_0 (by decide) ?_
            refine z_aload0 gi_163_45 ?_
            refine z_iload1 gi_163_46 ?_
            refine z_iload2 gi_163_47 ?_
            refine z_callVP (As := [_, _]) (v := 1) gi_163_48 rfl gk_50 (Nat.le_of_ble_eq_true rfl) (Nat.le_of_ble_eq_true rfl) (isOne_1 hRr y2.symm yn hp hw hV) ?_
            refine z_if_eqF gi_163_51 zr_1 (by decide) ?_
            refine z_aload0 gi_163_54 ?_
            refine z_iload2 gi_163_55 ?_
            refine z_iload1 gi_163_56 ?_
            refine z_callVP (As := [_, _]) (v := (cN J) p w) gi_163_57 rfl gk_50 (Nat.le_of_ble_eq_true rfl) (Nat.le_of_ble_eq_true rfl) (valueAt_s hRr y1.symm y2.symm y3 hp hw hV) ?_
            refine z_goto gi_163_60 ?_
            refine z_iret gi_163_64 gr_163 ?_
            refine ⟨?_, ?_⟩
            · first | rfl | exact congrArg (fun v => some (zi v)) (by omega) | (exfalso; omega)
            · exact hr
          · refine z_pushJ gp_148_10 ?_
            refine z_goto gi_148_11 ?_
            refine z_bret1 gi_148_15 gr_148 ?_
            show zW _ _ _ _ _ _ _ _ _ _
            refine z_if_eqF gi_163_8 zr_1 (by decide) ?_
            refine z_aload0 gi_163_11 ?_
            refine z_iload1 gi_163_12 ?_
            refine z_cV1 gi_163_13 gk_50 go_151 (Nat.le_of_ble_eq_true rfl) gc_151_RI ?_
            refine z_iload1 gi_151_0 ?_
            refine z_pushJ gp_151_1 ?_
            refine z_aload0 gi_151_2 ?_
            refine z_getI (v := J 50 1) gi_151_3 gk_50 (rfl) ?_
            refine z_pushJ gp_151_6 ?_
            refine z_isub (e := (J 50 1) - 1) gi_151_7 rfl ?_
            refine z_cS3 gi_151_8 (Nat.le_of_ble_eq_true rfl) gc_148_III ?_
            refine z_iload0 gi_148_0 ?_
            refine z_iload1 gi_148_1 ?_
            refine z_icmp_lt gi_148_2 (by omega) zr_0 (fun h6 => ?_) (fun h6 => ?_)
            · refine z_pushJ gp_148_14 ?_
              refine z_bret0 gi_148_15 gr_148 ?_
              show zW _ _ _ _ _ _ _ _ _ _
              refine z_bret0 gi_151_11 gr_151 ?_
              show zW _ _ _ _ _ _ _ _ _ _
              refine z_if_neF gi_163_16 zr_0 (by decide) ?_
              refine z_pushJ gp_163_19 ?_
              refine z_goto gi_163_20 ?_
              refine z_iret gi_163_44 gr_163 ?_
              refine ⟨?_, ?_⟩
              · first | rfl | exact congrArg (fun v => some (zi v)) (by omega) | (exfalso; omega)
              · exact hr
            · refine z_iload0 gi_148_5 ?_
              refine z_iload2 gi_148_6 ?_
              refine z_icmp_gt gi_148_7 (by omega) (by omega) (fun h7 => ?_) (fun h7 => ?_)
              · refine z_pushJ gp_148_14 ?_
                refine z_bret0 gi_148_15 gr_148 ?_
                show zW _ _ _ _ _ _ _ _ _ _
                refine z_bret0 gi_151_11 gr_151 ?_
                show zW _ _ _ _ _ _ _ _ _ _
                refine z_if_neF gi_163_16 zr_0 (by decide) ?_
                refine z_pushJ gp_163_19 ?_
                refine z_goto gi_163_20 ?_
                refine z_iret gi_163_44 gr_163 ?_
                refine ⟨?_, ?_⟩
                · first | rfl | exact congrArg (fun v => some (zi v)) (by omega) | (exfalso; omega)
                · exact hr
              · refine z_pushJ gp_148_10 ?_
                refine z_goto gi_148_11 ?_
                refine z_bret1 gi_148_15 gr_148 ?_
                show zW _ _ _ _ _ _ _ _ _ _
                refine z_bret1 gi_151_11 gr_151 ?_
                show zW _ _ _ _ _ _ _ _ _ _
                refine z_if_neT gi_163_16 zr_1 (by decide) ?_
                refine z_iload2 gi_163_23 ?_
                refine z_pushJ gp_163_24 ?_
                refine z_icmp_ne gi_163_26 (by omega) zr_14 (fun h8 => ?_) (fun h8 => ?_)
                · refine z_aload0 gi_163_38 ?_
                  refine z_getR (r := 76) gi_163_39 gk_50 (hRr _ rm_50_43 (by decide)) ?_
                  refine z_iload1 gi_163_42 ?_
                  refine z_iald (v := J 76 p) gi_163_43 gk_76 (by decide) (by omega) (rfl) ?_
                  refine z_iret gi_163_44 gr_163 ?_
                  refine ⟨?_, ?_⟩
                  · first | rfl | exact congrArg (fun v => some (zi v)) (by omega) | (exfalso; omega)
                  · exact hr
                · refine z_aload0 gi_163_29 ?_
                  refine z_getR (r := 75) gi_163_30 gk_50 (hRr _ rm_50_42 (by decide)) ?_
                  refine z_iload1 gi_163_33 ?_
                  refine z_iald (v := J 75 p) gi_163_34 gk_75 (by decide) (by omega) (rfl) ?_
                  refine z_goto gi_163_35 ?_
                  refine z_iret gi_163_44 gr_163 ?_
                  refine ⟨?_, ?_⟩
                  · first | rfl | exact congrArg (fun v => some (zi v)) (by omega) | (exfalso; omega)
                  · exact hr
      · refine z_pushJ gp_87_12 ?_
        refine z_goto gi_87_13 ?_
        refine z_bret1 gi_87_17 gr_87 ?_
        show zW _ _ _ _ _ _ _ _ _ _
        refine z_if_neT gi_105_20 zr_1 (by decide) ?_
        refine z_iload2 gi_105_25 ?_
        refine z_pushJ gp_105_26 ?_
        refine z_icmp_ne gi_105_28 (by omega) zr_14 (fun h4 => ?_) (fun h4 => ?_)
        · refine z_aload0 gi_105_43 ?_
          refine z_getR (r := 23) gi_105_44 gk_0 (hR _ rm_0_6) ?_
          refine z_getR (r := 25) gi_105_47 gk_23 (hR _ rm_23_2) ?_
          refine z_iload1 gi_105_50 ?_
          refine z_iald (v := J 25 p) gi_105_51 gk_25 (by decide) (by omega) (rfl) ?_
          refine z_iret gi_105_52 gr_105 ?_
          refine ⟨_, rfl, ?_⟩
          show zW _ _ _ _ [some (.ref 50), some (zi p), some (zi w)] _ _ _ _ _
          refine z_iload2 gi_163_0 ?_
          refine z_pushJ gp_163_1 ?_
          refine z_pushJ gp_163_3 ?_
          refine z_cS3 gi_163_5 (Nat.le_of_ble_eq_true rfl) gc_148_III ?_
          refine z_iload0 gi_148_0 ?_
          refine z_iload1 gi_148_1 ?_
          refine z_icmp_lt gi_148_2 (by omega) zr_14 (fun h5 => ?_) (fun h5 => ?_)
          · refine z_pushJ gp_148_14 ?_
            refine z_bret0 gi_148_15 gr_148 ?_
            show zW _ _ _ _ _ _ _ _ _ _
            refine z_if_eqT gi_163_8 zr_0 (by decide) ?_
            refine z_aload0 gi_163_45 ?_
            refine z_iload1 gi_163_46 ?_
            refine z_iload2 gi_163_47 ?_
            refine z_callVP (As := [_, _]) (v := 1) gi_163_48 rfl gk_50 (Nat.le_of_ble_eq_true rfl) (Nat.le_of_ble_eq_true rfl) (isOne_1 hRr y2.symm yn hp hw hV) ?_
            refine z_if_eqF gi_163_51 zr_1 (by decide) ?_
            refine z_aload0 gi_163_54 ?_
            refine z_iload2 gi_163_55 ?_
            refine z_iload1 gi_163_56 ?_
            refine z_callVP (As := [_, _]) (v := (cN J) p w) gi_163_57 rfl gk_50 (Nat.le_of_ble_eq_true rfl) (Nat.le_of_ble_eq_true rfl) (valueAt_s hRr y1.symm y2.symm y3 hp hw hV) ?_
            refine z_goto gi_163_60 ?_
            refine z_iret gi_163_64 gr_163 ?_
            refine ⟨?_, ?_⟩
            · first | rfl | exact congrArg (fun v => some (zi v)) (by omega) | (exfalso; omega)
            · exact hr
          · refine z_iload0 gi_148_5 ?_
            refine z_iload2 gi_148_6 ?_
            refine z_icmp_gt gi_148_7 (by omega) zr_15 (fun h6 => ?_) (fun h6 => ?_)
            · refine z_pushJ gp_148_14 ?_
              refine z_bret0 gi_148_15 gr_148 ?_
              show zW _ _ _ _ _ _ _ _ _ _
              refine z_if_eqT gi_163_8 zr_0 (by decide) ?_
              refine z_aload0 gi_163_45 ?_
              refine z_iload1 gi_163_46 ?_
              refine z_iload2 gi_163_47 ?_
              refine z_callVP (As := [_, _]) (v := 1) gi_163_48 rfl gk_50 (Nat.le_of_ble_eq_true rfl) (Nat.le_of_ble_eq_true rfl) (isOne_1 hRr y2.symm yn hp hw hV) ?_
              refine z_if_eqF gi_163_51 zr_1 (by decide) ?_
              refine z_aload0 gi_163_54 ?_
              refine z_iload2 gi_163_55 ?_
              refine z_iload1 gi_163_56 ?_
              refine z_callVP (As := [_, _]) (v := (cN J) p w) gi_163_57 rfl gk_50 (Nat.le_of_ble_eq_true rfl) (Nat.le_of_ble_eq_true rfl) (valueAt_s hRr y1.symm y2.symm y3 hp hw hV) ?_
              refine z_goto gi_163_60 ?_
              refine z_iret gi_163_64 gr_163 ?_
              refine ⟨?_, ?_⟩
              · first | rfl | exact congrArg (fun v => some (zi v)) (by omega) | (exfalso; omega)
              · exact hr
            · refine z_pushJ gp_148_10 ?_
              refine z_goto gi_148_11 ?_
              refine z_bret1 gi_148_15 gr_148 ?_
              show zW _ _ _ _ _ _ _ _ _ _
              refine z_if_eqF gi_163_8 zr_1 (by decide) ?_
              refine z_aload0 gi_163_11 ?_
              refine z_iload1 gi_163_12 ?_
              refine z_cV1 gi_163_13 gk_50 go_151 (Nat.le_of_ble_eq_true rfl) gc_151_RI ?_
              refine z_iload1 gi_151_0 ?_
              refine z_pushJ gp_151_1 ?_
              refine z_aload0 gi_151_2 ?_
              refine z_getI (v := J 50 1) gi_151_3 gk_50 (rfl) ?_
              refine z_pushJ gp_151_6 ?_
              refine z_isub (e := (J 50 1) - 1) gi_151_7 rfl ?_
              refine z_cS3 gi_151_8 (Nat.le_of_ble_eq_true rfl) gc_148_III ?_
              refine z_iload0 gi_148_0 ?_
              refine z_iload1 gi_148_1 ?_
              refine z_icmp_lt gi_148_2 (by omega) zr_0 (fun h7 => ?_) (fun h7 => ?_)
              · refine z_pushJ gp_148_14 ?_
                refine z_bret0 gi_148_15 gr_148 ?_
                show zW _ _ _ _ _ _ _ _ _ _
                refine z_bret0 gi_151_11 gr_151 ?_
                show zW _ _ _ _ _ _ _ _ _ _
                refine z_if_neF gi_163_16 zr_0 (by decide) ?_
                refine z_pushJ gp_163_19 ?_
                refine z_goto gi_163_20 ?_
                refine z_iret gi_163_44 gr_163 ?_
                refine ⟨?_, ?_⟩
                · first | rfl | exact congrArg (fun v => some (zi v)) (by omega) | (exfalso; omega)
                · exact hr
              · refine z_iload0 gi_148_5 ?_
                refine z_iload2 gi_148_6 ?_
                refine z_icmp_gt gi_148_7 (by omega) (by omega) (fun h8 => ?_) (fun h8 => ?_)
                · refine z_pushJ gp_148_14 ?_
                  refine z_bret0 gi_148_15 gr_148 ?_
                  show zW _ _ _ _ _ _ _ _ _ _
                  refine z_bret0 gi_151_11 gr_151 ?_
                  show zW _ _ _ _ _ _ _ _ _ _
                  refine z_if_neF gi_163_16 zr_0 (by decide) ?_
                  refine z_pushJ gp_163_19 ?_
                  refine z_goto gi_163_20 ?_
                  refine z_iret gi_163_44 gr_163 ?_
                  refine ⟨?_, ?_⟩
                  · first | rfl | exact congrArg (fun v => some (zi v)) (by omega) | (exfalso; omega)
                  · exact hr
                · refine z_pushJ gp_148_10 ?_
                  refine z_goto gi_148_11 ?_
                  refine z_bret1 gi_148_15 gr_148 ?_
                  show zW _ _ _ _ _ _ _ _ _ _
                  refine z_bret1 gi_151_11 gr_151 ?_
                  show zW _ _ _ _ _ _ _ _ _ _
                  refine z_if_neT gi_163_16 zr_1 (by decide) ?_
                  refine z_iload2 gi_163_23 ?_
                  refine z_pushJ gp_163_24 ?_
                  refine z_icmp_ne gi_163_26 (by omega) zr_14 (fun h9 => ?_) (fun h9 => ?_)
                  · refine z_aload0 gi_163_38 ?_
                    refine z_getR (r := 76) gi_163_39 gk_50 (hRr _ rm_50_43 (by decide)) ?_
                    refine z_iload1 gi_163_42 ?_
                    refine z_iald (v := J 76 p) gi_163_43 gk_76 (by decide) (by omega) (rfl) ?_
                    refine z_iret gi_163_44 gr_163 ?_
                    refine ⟨?_, ?_⟩
                    · first | rfl | exact congrArg (fun v => some (zi v)) (by omega) | (exfalso; omega)
                    · exact hr
                  · refine z_aload0 gi_163_29 ?_
                    refine z_getR (r := 75) gi_163_30 gk_50 (hRr _ rm_50_42 (by decide)) ?_
                    refine z_iload1 gi_163_33 ?_
                    refine z_iald (v := J 75 p) gi_163_34 gk_75 (by decide) (by omega) (rfl) ?_
                    refine z_goto gi_163_35 ?_
                    refine z_iret gi_163_44 gr_163 ?_
                    refine ⟨?_, ?_⟩
                    · first | rfl | exact congrArg (fun v => some (zi v)) (by omega) | (exfalso; omega)
                    · exact hr
        · refine z_aload0 gi_105_31 ?_
          refine z_getR (r := 23) gi_105_32 gk_0 (hR _ rm_0_6) ?_
          refine z_getR (r := 24) gi_105_35 gk_23 (hR _ rm_23_1) ?_
          refine z_iload1 gi_105_38 ?_
          refine z_iald (v := J 24 p) gi_105_39 gk_24 (by decide) (by omega) (rfl) ?_
          refine z_goto gi_105_40 ?_
          refine z_iret gi_105_52 gr_105 ?_
          refine ⟨_, rfl, ?_⟩
          show zW _ _ _ _ [some (.ref 50), some (zi p), some (zi w)] _ _ _ _ _
          refine z_iload2 gi_163_0 ?_
          refine z_pushJ gp_163_1 ?_
          refine z_pushJ gp_163_3 ?_
          refine z_cS3 gi_163_5 (Nat.le_of_ble_eq_true rfl) gc_148_III ?_
          refine z_iload0 gi_148_0 ?_
          refine z_iload1 gi_148_1 ?_
          refine z_icmp_lt gi_148_2 (by omega) zr_14 (fun h5 => ?_) (fun h5 => ?_)
          · refine z_pushJ gp_148_14 ?_
            refine z_bret0 gi_148_15 gr_148 ?_
            show zW _ _ _ _ _ _ _ _ _ _
            refine z_if_eqT gi_163_8 zr_0 (by decide) ?_
            refine z_aload0 gi_163_45 ?_
            refine z_iload1 gi_163_46 ?_
            refine z_iload2 gi_163_47 ?_
            refine z_callVP (As := [_, _]) (v := 1) gi_163_48 rfl gk_50 (Nat.le_of_ble_eq_true rfl) (Nat.le_of_ble_eq_true rfl) (isOne_1 hRr y2.symm yn hp hw hV) ?_
            refine z_if_eqF gi_163_51 zr_1 (by decide) ?_
            refine z_aload0 gi_163_54 ?_
            refine z_iload2 gi_163_55 ?_
            refine z_iload1 gi_163_56 ?_
            refine z_callVP (As := [_, _]) (v := (cN J) p w) gi_163_57 rfl gk_50 (Nat.le_of_ble_eq_true rfl) (Nat.le_of_ble_eq_true rfl) (valueAt_s hRr y1.symm y2.symm y3 hp hw hV) ?_
            refine z_goto gi_163_60 ?_
            refine z_iret gi_163_64 gr_163 ?_
            refine ⟨?_, ?_⟩
            · first | rfl | exact congrArg (fun v => some (zi v)) (by omega) | (exfalso; omega)
            · exact hr
          · refine z_iload0 gi_148_5 ?_
            refine z_iload2 gi_148_6 ?_
            refine z_icmp_gt gi_148_7 (by omega) zr_15 (fun h6 => ?_) (fun h6 => ?_)
            · refine z_pushJ gp_148_14 ?_
              refine z_bret0 gi_148_15 gr_148 ?_
              show zW _ _ _ _ _ _ _ _ _ _
              refine z_if_eqT gi_163_8 zr_0 (by decide) ?_
              refine z_aload0 gi_163_45 ?_
              refine z_iload1 gi_163_46 ?_
              refine z_iload2 gi_163_47 ?_
              refine z_callVP (As := [_, _]) (v := 1) gi_163_48 rfl gk_50 (Nat.le_of_ble_eq_true rfl) (Nat.le_of_ble_eq_true rfl) (isOne_1 hRr y2.symm yn hp hw hV) ?_
              refine z_if_eqF gi_163_51 zr_1 (by decide) ?_
              refine z_aload0 gi_163_54 ?_
              refine z_iload2 gi_163_55 ?_
              refine z_iload1 gi_163_56 ?_
              refine z_callVP (As := [_, _]) (v := (cN J) p w) gi_163_57 rfl gk_50 (Nat.le_of_ble_eq_true rfl) (Nat.le_of_ble_eq_true rfl) (valueAt_s hRr y1.symm y2.symm y3 hp hw hV) ?_
              refine z_goto gi_163_60 ?_
              refine z_iret gi_163_64 gr_163 ?_
              refine ⟨?_, ?_⟩
              · first | rfl | exact congrArg (fun v => some (zi v)) (by omega) | (exfalso; omega)
              · exact hr
            · refine z_pushJ gp_148_10 ?_
              refine z_goto gi_148_11 ?_
              refine z_bret1 gi_148_15 gr_148 ?_
              show zW _ _ _ _ _ _ _ _ _ _
              refine z_if_eqF gi_163_8 zr_1 (by decide) ?_
              refine z_aload0 gi_163_11 ?_
              refine z_iload1 gi_163_12 ?_
              refine z_cV1 gi_163_13 gk_50 go_151 (Nat.le_of_ble_eq_true rfl) gc_151_RI ?_
              refine z_iload1 gi_151_0 ?_
              refine z_pushJ gp_151_1 ?_
              refine z_aload0 gi_151_2 ?_
              refine z_getI (v := J 50 1) gi_151_3 gk_50 (rfl) ?_
              refine z_pushJ gp_151_6 ?_
              refine z_isub (e := (J 50 1) - 1) gi_151_7 rfl ?_
              refine z_cS3 gi_151_8 (Nat.le_of_ble_eq_true rfl) gc_148_III ?_
              refine z_iload0 gi_148_0 ?_
              refine z_iload1 gi_148_1 ?_
              refine z_icmp_lt gi_148_2 (by omega) zr_0 (fun h7 => ?_) (fun h7 => ?_)
              · refine z_pushJ gp_148_14 ?_
                refine z_bret0 gi_148_15 gr_148 ?_
                show zW _ _ _ _ _ _ _ _ _ _
                refine z_bret0 gi_151_11 gr_151 ?_
                show zW _ _ _ _ _ _ _ _ _ _
                refine z_if_neF gi_163_16 zr_0 (by decide) ?_
                refine z_pushJ gp_163_19 ?_
                refine z_goto gi_163_20 ?_
                refine z_iret gi_163_44 gr_163 ?_
                refine ⟨?_, ?_⟩
                · first | rfl | exact congrArg (fun v => some (zi v)) (by omega) | (exfalso; omega)
                · exact hr
              · refine z_iload0 gi_148_5 ?_
                refine z_iload2 gi_148_6 ?_
                refine z_icmp_gt gi_148_7 (by omega) (by omega) (fun h8 => ?_) (fun h8 => ?_)
                · refine z_pushJ gp_148_14 ?_
                  refine z_bret0 gi_148_15 gr_148 ?_
                  show zW _ _ _ _ _ _ _ _ _ _
                  refine z_bret0 gi_151_11 gr_151 ?_
                  show zW _ _ _ _ _ _ _ _ _ _
                  refine z_if_neF gi_163_16 zr_0 (by decide) ?_
                  refine z_pushJ gp_163_19 ?_
                  refine z_goto gi_163_20 ?_
                  refine z_iret gi_163_44 gr_163 ?_
                  refine ⟨?_, ?_⟩
                  · first | rfl | exact congrArg (fun v => some (zi v)) (by omega) | (exfalso; omega)
                  · exact hr
                · refine z_pushJ gp_148_10 ?_
                  refine z_goto gi_148_11 ?_
                  refine z_bret1 gi_148_15 gr_148 ?_
                  show zW _ _ _ _ _ _ _ _ _ _
                  refine z_bret1 gi_151_11 gr_151 ?_
                  show zW _ _ _ _ _ _ _ _ _ _
                  refine z_if_neT gi_163_16 zr_1 (by decide) ?_
                  refine z_iload2 gi_163_23 ?_
                  refine z_pushJ gp_163_24 ?_
                  refine z_icmp_ne gi_163_26 (by omega) zr_14 (fun h9 => ?_) (fun h9 => ?_)
                  · refine z_aload0 gi_163_38 ?_
                    refine z_getR (r := 76) gi_163_39 gk_50 (hRr _ rm_50_43 (by decide)) ?_
                    refine z_iload1 gi_163_42 ?_
                    refine z_iald (v := J 76 p) gi_163_43 gk_76 (by decide) (by omega) (rfl) ?_
                    refine z_iret gi_163_44 gr_163 ?_
                    refine ⟨?_, ?_⟩
                    · first | rfl | exact congrArg (fun v => some (zi v)) (by omega) | (exfalso; omega)
                    · exact hr
                  · refine z_aload0 gi_163_29 ?_
                    refine z_getR (r := 75) gi_163_30 gk_50 (hRr _ rm_50_42 (by decide)) ?_
                    refine z_iload1 gi_163_33 ?_
                    refine z_iald (v := J 75 p) gi_163_34 gk_75 (by decide) (by omega) (rfl) ?_
                    refine z_goto gi_163_35 ?_
                    refine z_iret gi_163_44 gr_163 ?_
                    refine ⟨?_, ?_⟩
                    · first | rfl | exact congrArg (fun v => some (zi v)) (by omega) | (exfalso; omega)
                    · exact hr
  · refine z_iload2 gi_105_6 ?_
    refine z_pushJ gp_105_7 ?_
    refine z_icmp_ne gi_105_9 (by omega) zr_15 (fun h5 => ?_) (fun h5 => ?_)
    · refine z_aload0 gi_105_53 ?_
      refine z_getR (r := 8) gi_105_54 gk_0 (hR _ rm_0_1) ?_
      refine z_iload1 gi_105_57 ?_
      refine z_iload2 gi_105_58 ?_
      refine z_callVP (As := [_, _]) (v := 1) gi_105_59 rfl gk_8 (Nat.le_of_ble_eq_true rfl) (Nat.le_of_ble_eq_true rfl) (isNumber_1 hR rfl yn hp hw hV) ?_
      refine z_if_eqF gi_105_62 zr_1 (by decide) ?_
      refine z_aload0 rfl ?_
      refine z_getR (r := 8) rfl gk_0 (hR _ rm_0_1) ?_
      refine z_iload1 rfl ?_
      refine z_iload2 rfl ?_
      refine z_callVP (As := [_, _]) (v := (cN J) p w) rfl rfl gk_8 (Nat.le_of_ble_eq_true rfl) (Nat.le_of_ble_eq_true rfl) (told_k hR zK_r rfl rfl y3 hp hw) ?_
      refine z_goto rfl ?_
      refine z_iret gi_105_78 gr_105 ?_
      refine ⟨_, rfl, ?_⟩
      show zW _ _ _ _ [some (.ref 50), some (zi p), some (zi w)] _ _ _ _ _
      refine z_iload2 gi_163_0 ?_
      refine z_pushJ gp_163_1 ?_
      refine z_pushJ gp_163_3 ?_
      refine z_cS3 gi_163_5 (Nat.le_of_ble_eq_true rfl) gc_148_III ?_
      refine z_iload0 gi_148_0 ?_
      refine z_iload1 gi_148_1 ?_
      refine z_icmp_lt gi_148_2 (by omega) zr_14 (fun h6 => ?_) (fun h6 => ?_)
      · refine z_pushJ gp_148_14 ?_
        refine z_bret0 gi_148_15 gr_148 ?_
        show zW _ _ _ _ _ _ _ _ _ _
        refine z_if_eqT gi_163_8 zr_0 (by decide) ?_
        refine z_aload0 gi_163_45 ?_
        refine z_iload1 gi_163_46 ?_
        refine z_iload2 gi_163_47 ?_
        refine z_callVP (As := [_, _]) (v := 1) gi_163_48 rfl gk_50 (Nat.le_of_ble_eq_true rfl) (Nat.le_of_ble_eq_true rfl) (isOne_1 hRr y2.symm yn hp hw hV) ?_
        refine z_if_eqF gi_163_51 zr_1 (by decide) ?_
        refine z_aload0 gi_163_54 ?_
        refine z_iload2 gi_163_55 ?_
        refine z_iload1 gi_163_56 ?_
        refine z_callVP (As := [_, _]) (v := (cN J) p w) gi_163_57 rfl gk_50 (Nat.le_of_ble_eq_true rfl) (Nat.le_of_ble_eq_true rfl) (valueAt_s hRr y1.symm y2.symm y3 hp hw hV) ?_
        refine z_goto gi_163_60 ?_
        refine z_iret gi_163_64 gr_163 ?_
        refine ⟨?_, ?_⟩
        · first | rfl | exact congrArg (fun v => some (zi v)) (by omega) | (exfalso; omega)
        · exact hr
      · refine z_iload0 gi_148_5 ?_
        refine z_iload2 gi_148_6 ?_
        refine z_icmp_gt gi_148_7 (by omega) zr_15 (fun h7 => ?_) (fun h7 => ?_)
        · refine z_pushJ gp_148_14 ?_
          refine z_bret0 gi_148_15 gr_148 ?_
          show zW _ _ _ _ _ _ _ _ _ _
          refine z_if_eqT gi_163_8 zr_0 (by decide) ?_
          refine z_aload0 gi_163_45 ?_
          refine z_iload1 gi_163_46 ?_
          refine z_iload2 gi_163_47 ?_
          refine z_callVP (As := [_, _]) (v := 1) gi_163_48 rfl gk_50 (Nat.le_of_ble_eq_true rfl) (Nat.le_of_ble_eq_true rfl) (isOne_1 hRr y2.symm yn hp hw hV) ?_
          refine z_if_eqF gi_163_51 zr_1 (by decide) ?_
          refine z_aload0 gi_163_54 ?_
          refine z_iload2 gi_163_55 ?_
          refine z_iload1 gi_163_56 ?_
          refine z_callVP (As := [_, _]) (v := (cN J) p w) gi_163_57 rfl gk_50 (Nat.le_of_ble_eq_true rfl) (Nat.le_of_ble_eq_true rfl) (valueAt_s hRr y1.symm y2.symm y3 hp hw hV) ?_
          refine z_goto gi_163_60 ?_
          refine z_iret gi_163_64 gr_163 ?_
          refine ⟨?_, ?_⟩
          · first | rfl | exact congrArg (fun v => some (zi v)) (by omega) | (exfalso; omega)
          · exact hr
        · refine z_pushJ gp_148_10 ?_
          refine z_goto gi_148_11 ?_
          refine z_bret1 gi_148_15 gr_148 ?_
          show zW _ _ _ _ _ _ _ _ _ _
          refine z_if_eqF gi_163_8 zr_1 (by decide) ?_
          refine z_aload0 gi_163_11 ?_
          refine z_iload1 gi_163_12 ?_
          refine z_cV1 gi_163_13 gk_50 go_151 (Nat.le_of_ble_eq_true rfl) gc_151_RI ?_
          refine z_iload1 gi_151_0 ?_
          refine z_pushJ gp_151_1 ?_
          refine z_aload0 gi_151_2 ?_
          refine z_getI (v := J 50 1) gi_151_3 gk_50 (rfl) ?_
          refine z_pushJ gp_151_6 ?_
          refine z_isub (e := (J 50 1) - 1) gi_151_7 rfl ?_
          refine z_cS3 gi_151_8 (Nat.le_of_ble_eq_true rfl) gc_148_III ?_
          refine z_iload0 gi_148_0 ?_
          refine z_iload1 gi_148_1 ?_
          refine z_icmp_lt gi_148_2 (by omega) zr_0 (fun h8 => ?_) (fun h8 => ?_)
          · refine z_pushJ gp_148_14 ?_
            refine z_bret0 gi_148_15 gr_148 ?_
            show zW _ _ _ _ _ _ _ _ _ _
            refine z_bret0 gi_151_11 gr_151 ?_
            show zW _ _ _ _ _ _ _ _ _ _
            refine z_if_neF gi_163_16 zr_0 (by decide) ?_
            refine z_pushJ gp_163_19 ?_
            refine z_goto gi_163_20 ?_
            refine z_iret gi_163_44 gr_163 ?_
            refine ⟨?_, ?_⟩
            · first | rfl | exact congrArg (fun v => some (zi v)) (by omega) | (exfalso; omega)
            · exact hr
          · refine z_iload0 gi_148_5 ?_
            refine z_iload2 gi_148_6 ?_
            refine z_icmp_gt gi_148_7 (by omega) (by omega) (fun h9 => ?_) (fun h9 => ?_)
            · refine z_pushJ gp_148_14 ?_
              refine z_bret0 gi_148_15 gr_148 ?_
              show zW _ _ _ _ _ _ _ _ _ _
              refine z_bret0 gi_151_11 gr_151 ?_
              show zW _ _ _ _ _ _ _ _ _ _
              refine z_if_neF gi_163_16 zr_0 (by decide) ?_
              refine z_pushJ gp_163_19 ?_
              refine z_goto gi_163_20 ?_
              refine z_iret gi_163_44 gr_163 ?_
              refine ⟨?_, ?_⟩
              · first | rfl | exact congrArg (fun v => some (zi v)) (by omega) | (exfalso; omega)
              · exact hr
            · refine z_pushJ gp_148_10 ?_
              refine z_goto gi_148_11 ?_
              refine z_bret1 gi_148_15 gr_148 ?_
              show zW _ _ _ _ _ _ _ _ _ _
              refine z_bret1 gi_151_11 gr_151 ?_
              show zW _ _ _ _ _ _ _ _ _ _
              refine z_if_neT gi_163_16 zr_1 (by decide) ?_
              refine z_iload2 gi_163_23 ?_
              refine z_pushJ gp_163_24 ?_
              refine z_icmp_ne gi_163_26 (by omega) zr_14 (fun h10 => ?_) (fun h10 => ?_)
              · refine z_aload0 gi_163_38 ?_
                refine z_getR (r := 76) gi_163_39 gk_50 (hRr _ rm_50_43 (by decide)) ?_
                refine z_iload1 gi_163_42 ?_
                refine z_iald (v := J 76 p) gi_163_43 gk_76 (by decide) (by omega) (rfl) ?_
                refine z_iret gi_163_44 gr_163 ?_
                refine ⟨?_, ?_⟩
                · first | rfl | exact congrArg (fun v => some (zi v)) (by omega) | (exfalso; omega)
                · exact hr
              · refine z_aload0 gi_163_29 ?_
                refine z_getR (r := 75) gi_163_30 gk_50 (hRr _ rm_50_42 (by decide)) ?_
                refine z_iload1 gi_163_33 ?_
                refine z_iald (v := J 75 p) gi_163_34 gk_75 (by decide) (by omega) (rfl) ?_
                refine z_goto gi_163_35 ?_
                refine z_iret gi_163_44 gr_163 ?_
                refine ⟨?_, ?_⟩
                · first | rfl | exact congrArg (fun v => some (zi v)) (by omega) | (exfalso; omega)
                · exact hr
    · refine z_aload0 gi_105_12 ?_
      refine z_getR (r := 8) gi_105_13 gk_0 (hR _ rm_0_1) ?_
      refine z_iload1 gi_105_16 ?_
      refine z_cV1 gi_105_17 gk_8 go_87 (Nat.le_of_ble_eq_true rfl) gc_87_RI ?_
      refine z_iload1 gi_87_0 ?_
      refine z_if_lt gi_87_1 (by omega) (fun h6 => ?_) (fun h6 => ?_)
      · refine z_pushJ gp_87_16 ?_
        refine z_bret0 gi_87_17 gr_87 ?_
        show zW _ _ _ _ _ _ _ _ _ _
        refine z_if_neF gi_105_20 zr_0 (by decide) ?_
        refine z_pushJ gp_105_23 ?_
        refine z_iret gi_105_24 gr_105 ?_
        refine ⟨_, rfl, ?_⟩
        show zW _ _ _ _ [some (.ref 50), some (zi p), some (zi w)] _ _ _ _ _
        refine z_iload2 gi_163_0 ?_
        refine z_pushJ gp_163_1 ?_
        refine z_pushJ gp_163_3 ?_
        refine z_cS3 gi_163_5 (Nat.le_of_ble_eq_true rfl) gc_148_III ?_
        refine z_iload0 gi_148_0 ?_
        refine z_iload1 gi_148_1 ?_
        refine z_icmp_lt gi_148_2 (by omega) zr_14 (fun h7 => ?_) (fun h7 => ?_)
        · refine z_pushJ gp_148_14 ?_
          refine z_bret0 gi_148_15 gr_148 ?_
          show zW _ _ _ _ _ _ _ _ _ _
          refine z_if_eqT gi_163_8 zr_0 (by decide) ?_
          refine z_aload0 gi_163_45 ?_
          refine z_iload1 gi_163_46 ?_
          refine z_iload2 gi_163_47 ?_
          refine z_callVP (As := [_, _]) (v := 1) gi_163_48 rfl gk_50 (Nat.le_of_ble_eq_true rfl) (Nat.le_of_ble_eq_true rfl) (isOne_1 hRr y2.symm yn hp hw hV) ?_
          refine z_if_eqF gi_163_51 zr_1 (by decide) ?_
          refine z_aload0 gi_163_54 ?_
          refine z_iload2 gi_163_55 ?_
          refine z_iload1 gi_163_56 ?_
          refine z_callVP (As := [_, _]) (v := (cN J) p w) gi_163_57 rfl gk_50 (Nat.le_of_ble_eq_true rfl) (Nat.le_of_ble_eq_true rfl) (valueAt_s hRr y1.symm y2.symm y3 hp hw hV) ?_
          refine z_goto gi_163_60 ?_
          refine z_iret gi_163_64 gr_163 ?_
          refine ⟨?_, ?_⟩
          · first | rfl | exact congrArg (fun v => some (zi v)) (by omega) | (exfalso; omega)
          · exact hr
        · refine z_iload0 gi_148_5 ?_
          refine z_iload2 gi_148_6 ?_
          refine z_icmp_gt gi_148_7 (by omega) zr_15 (fun h8 => ?_) (fun h8 => ?_)
          · refine z_pushJ gp_148_14 ?_
            refine z_bret0 gi_148_15 gr_148 ?_
            show zW _ _ _ _ _ _ _ _ _ _
            refine z_if_eqT gi_163_8 zr_0 (by decide) ?_
            refine z_aload0 gi_163_45 ?_
            refine z_iload1 gi_163_46 ?_
            refine z_iload2 gi_163_47 ?_
            refine z_callVP (As := [_, _]) (v := 1) gi_163_48 rfl gk_50 (Nat.le_of_ble_eq_true rfl) (Nat.le_of_ble_eq_true rfl) (isOne_1 hRr y2.symm yn hp hw hV) ?_
            refine z_if_eqF gi_163_51 zr_1 (by decide) ?_
            refine z_aload0 gi_163_54 ?_
            refine z_iload2 gi_163_55 ?_
            refine z_iload1 gi_163_56 ?_
            refine z_callVP (As := [_, _]) (v := (cN J) p w) gi_163_57 rfl gk_50 (Nat.le_of_ble_eq_true rfl) (Nat.le_of_ble_eq_true rfl) (valueAt_s hRr y1.symm y2.symm y3 hp hw hV) ?_
            refine z_goto gi_163_60 ?_
            refine z_iret gi_163_64 gr_163 ?_
            refine ⟨?_, ?_⟩
            · first | rfl | exact congrArg (fun v => some (zi v)) (by omega) | (exfalso; omega)
            · exact hr
          · refine z_pushJ gp_148_10 ?_
            refine z_goto gi_148_11 ?_
            refine z_bret1 gi_148_15 gr_148 ?_
            show zW _ _ _ _ _ _ _ _ _ _
            refine z_if_eqF gi_163_8 zr_1 (by decide) ?_
            refine z_aload0 gi_163_11 ?_
            refine z_iload1 gi_163_12 ?_
            refine z_cV1 gi_163_13 gk_50 go_151 (Nat.le_of_ble_eq_true rfl) gc_151_RI ?_
            refine z_iload1 gi_151_0 ?_
            refine z_pushJ gp_151_1 ?_
            refine z_aload0 gi_151_2 ?_
            refine z_getI (v := J 50 1) gi_151_3 gk_50 (rfl) ?_
            refine z_pushJ gp_151_6 ?_
            refine z_isub (e := (J 50 1) - 1) gi_151_7 rfl ?_
            refine z_cS3 gi_151_8 (Nat.le_of_ble_eq_true rfl) gc_148_III ?_
            refine z_iload0 gi_148_0 ?_
            refine z_iload1 gi_148_1 ?_
            refine z_icmp_lt gi_148_2 (by omega) zr_0 (fun h9 => ?_) (fun h9 => ?_)
            · refine z_pushJ gp_148_14 ?_
              refine z_bret0 gi_148_15 gr_148 ?_
              show zW _ _ _ _ _ _ _ _ _ _
              refine z_bret0 gi_151_11 gr_151 ?_
              show zW _ _ _ _ _ _ _ _ _ _
              refine z_if_neF gi_163_16 zr_0 (by decide) ?_
              refine z_pushJ gp_163_19 ?_
              refine z_goto gi_163_20 ?_
              refine z_iret gi_163_44 gr_163 ?_
              refine ⟨?_, ?_⟩
              · first | rfl | exact congrArg (fun v => some (zi v)) (by omega) | (exfalso; omega)
              · exact hr
            · refine z_iload0 gi_148_5 ?_
              refine z_iload2 gi_148_6 ?_
              refine z_icmp_gt gi_148_7 (by omega) (by omega) (fun h10 => ?_) (fun h10 => ?_)
              · refine z_pushJ gp_148_14 ?_
                refine z_bret0 gi_148_15 gr_148 ?_
                show zW _ _ _ _ _ _ _ _ _ _
                refine z_bret0 gi_151_11 gr_151 ?_
                show zW _ _ _ _ _ _ _ _ _ _
                refine z_if_neF gi_163_16 zr_0 (by decide) ?_
                refine z_pushJ gp_163_19 ?_
                refine z_goto gi_163_20 ?_
                refine z_iret gi_163_44 gr_163 ?_
                refine ⟨?_, ?_⟩
                · first | rfl | exact congrArg (fun v => some (zi v)) (by omega) | (exfalso; omega)
                · exact hr
              · refine z_pushJ gp_148_10 ?_
                refine z_goto gi_148_11 ?_
                refine z_bret1 gi_148_15 gr_148 ?_
                show zW _ _ _ _ _ _ _ _ _ _
                refine z_bret1 gi_151_11 gr_151 ?_
                show zW _ _ _ _ _ _ _ _ _ _
                refine z_if_neT gi_163_16 zr_1 (by decide) ?_
                refine z_iload2 gi_163_23 ?_
                refine z_pushJ gp_163_24 ?_
                refine z_icmp_ne gi_163_26 (by omega) zr_14 (fun h11 => ?_) (fun h11 => ?_)
                · refine z_aload0 gi_163_38 ?_
                  refine z_getR (r := 76) gi_163_39 gk_50 (hRr _ rm_50_43 (by decide)) ?_
                  refine z_iload1 gi_163_42 ?_
                  refine z_iald (v := J 76 p) gi_163_43 gk_76 (by decide) (by omega) (rfl) ?_
                  refine z_iret gi_163_44 gr_163 ?_
                  refine ⟨?_, ?_⟩
                  · first | rfl | exact congrArg (fun v => some (zi v)) (by omega) | (exfalso; omega)
                  · exact hr
                · refine z_aload0 gi_163_29 ?_
                  refine z_getR (r := 75) gi_163_30 gk_50 (hRr _ rm_50_42 (by decide)) ?_
                  refine z_iload1 gi_163_33 ?_
                  refine z_iald (v := J 75 p) gi_163_34 gk_75 (by decide) (by omega) (rfl) ?_
                  refine z_goto gi_163_35 ?_
                  refine z_iret gi_163_44 gr_163 ?_
                  refine ⟨?_, ?_⟩
                  · first | rfl | exact congrArg (fun v => some (zi v)) (by omega) | (exfalso; omega)
                  · exact hr
      · refine z_iload1 gi_87_4 ?_
        refine z_aload0 gi_87_5 ?_
        refine z_getI (v := J 8 2) gi_87_6 gk_8 (rfl) ?_
        refine z_icmp_ge gi_87_9 (by omega) (by omega) (fun h7 => ?_) (fun h7 => ?_)
        · refine z_pushJ gp_87_16 ?_
          refine z_bret0 gi_87_17 gr_87 ?_
          show zW _ _ _ _ _ _ _ _ _ _
          refine z_if_neF gi_105_20 zr_0 (by decide) ?_
          refine z_pushJ gp_105_23 ?_
          refine z_iret gi_105_24 gr_105 ?_
          refine ⟨_, rfl, ?_⟩
          show zW _ _ _ _ [some (.ref 50), some (zi p), some (zi w)] _ _ _ _ _
          refine z_iload2 gi_163_0 ?_
          refine z_pushJ gp_163_1 ?_
          refine z_pushJ gp_163_3 ?_
          refine z_cS3 gi_163_5 (Nat.le_of_ble_eq_true rfl) gc_148_III ?_
          refine z_iload0 gi_148_0 ?_
          refine z_iload1 gi_148_1 ?_
          refine z_icmp_lt gi_148_2 (by omega) zr_14 (fun h8 => ?_) (fun h8 => ?_)
          · refine z_pushJ gp_148_14 ?_
            refine z_bret0 gi_148_15 gr_148 ?_
            show zW _ _ _ _ _ _ _ _ _ _
            refine z_if_eqT gi_163_8 zr_0 (by decide) ?_
            refine z_aload0 gi_163_45 ?_
            refine z_iload1 gi_163_46 ?_
            refine z_iload2 gi_163_47 ?_
            refine z_callVP (As := [_, _]) (v := 1) gi_163_48 rfl gk_50 (Nat.le_of_ble_eq_true rfl) (Nat.le_of_ble_eq_true rfl) (isOne_1 hRr y2.symm yn hp hw hV) ?_
            refine z_if_eqF gi_163_51 zr_1 (by decide) ?_
            refine z_aload0 gi_163_54 ?_
            refine z_iload2 gi_163_55 ?_
            refine z_iload1 gi_163_56 ?_
            refine z_callVP (As := [_, _]) (v := (cN J) p w) gi_163_57 rfl gk_50 (Nat.le_of_ble_eq_true rfl) (Nat.le_of_ble_eq_true rfl) (valueAt_s hRr y1.symm y2.symm y3 hp hw hV) ?_
            refine z_goto gi_163_60 ?_
            refine z_iret gi_163_64 gr_163 ?_
            refine ⟨?_, ?_⟩
            · first | rfl | exact congrArg (fun v => some (zi v)) (by omega) | (exfalso; omega)
            · exact hr
          · refine z_iload0 gi_148_5 ?_
            refine z_iload2 gi_148_6 ?_
            refine z_icmp_gt gi_148_7 (by omega) zr_15 (fun h9 => ?_) (fun h9 => ?_)
            · refine z_pushJ gp_148_14 ?_
              refine z_bret0 gi_148_15 gr_148 ?_
              show zW _ _ _ _ _ _ _ _ _ _
              refine z_if_eqT gi_163_8 zr_0 (by decide) ?_
              refine z_aload0 gi_163_45 ?_
              refine z_iload1 gi_163_46 ?_
              refine z_iload2 gi_163_47 ?_
              refine z_callVP (As := [_, _]) (v := 1) gi_163_48 rfl gk_50 (Nat.le_of_ble_eq_true rfl) (Nat.le_of_ble_eq_true rfl) (isOne_1 hRr y2.symm yn hp hw hV) ?_
              refine z_if_eqF gi_163_51 zr_1 (by decide) ?_
              refine z_aload0 gi_163_54 ?_
              refine z_iload2 gi_163_55 ?_
              refine z_iload1 gi_163_56 ?_
              refine z_callVP (As := [_, _]) (v := (cN J) p w) gi_163_57 rfl gk_50 (Nat.le_of_ble_eq_true rfl) (Nat.le_of_ble_eq_true rfl) (valueAt_s hRr y1.symm y2.symm y3 hp hw hV) ?_
              refine z_goto gi_163_60 ?_
              refine z_iret gi_163_64 gr_163 ?_
              refine ⟨?_, ?_⟩
              · first | rfl | exact congrArg (fun v => some (zi v)) (by omega) | (exfalso; omega)
              · exact hr
            · refine z_pushJ gp_148_10 ?_
              refine z_goto gi_148_11 ?_
              refine z_bret1 gi_148_15 gr_148 ?_
              show zW _ _ _ _ _ _ _ _ _ _
              refine z_if_eqF gi_163_8 zr_1 (by decide) ?_
              refine z_aload0 gi_163_11 ?_
              refine z_iload1 gi_163_12 ?_
              refine z_cV1 gi_163_13 gk_50 go_151 (Nat.le_of_ble_eq_true rfl) gc_151_RI ?_
              refine z_iload1 gi_151_0 ?_
              refine z_pushJ gp_151_1 ?_
              refine z_aload0 gi_151_2 ?_
              refine z_getI (v := J 50 1) gi_151_3 gk_50 (rfl) ?_
              refine z_pushJ gp_151_6 ?_
              refine z_isub (e := (J 50 1) - 1) gi_151_7 rfl ?_
              refine z_cS3 gi_151_8 (Nat.le_of_ble_eq_true rfl) gc_148_III ?_
              refine z_iload0 gi_148_0 ?_
              refine z_iload1 gi_148_1 ?_
              refine z_icmp_lt gi_148_2 (by omega) zr_0 (fun h10 => ?_) (fun h10 => ?_)
              · refine z_pushJ gp_148_14 ?_
                refine z_bret0 gi_148_15 gr_148 ?_
                show zW _ _ _ _ _ _ _ _ _ _
                refine z_bret0 gi_151_11 gr_151 ?_
                show zW _ _ _ _ _ _ _ _ _ _
                refine z_if_neF gi_163_16 zr_0 (by decide) ?_
                refine z_pushJ gp_163_19 ?_
                refine z_goto gi_163_20 ?_
                refine z_iret gi_163_44 gr_163 ?_
                refine ⟨?_, ?_⟩
                · first | rfl | exact congrArg (fun v => some (zi v)) (by omega) | (exfalso; omega)
                · exact hr
              · refine z_iload0 gi_148_5 ?_
                refine z_iload2 gi_148_6 ?_
                refine z_icmp_gt gi_148_7 (by omega) (by omega) (fun h11 => ?_) (fun h11 => ?_)
                · refine z_pushJ gp_148_14 ?_
                  refine z_bret0 gi_148_15 gr_148 ?_
                  show zW _ _ _ _ _ _ _ _ _ _
                  refine z_bret0 gi_151_11 gr_151 ?_
                  show zW _ _ _ _ _ _ _ _ _ _
                  refine z_if_neF gi_163_16 zr_0 (by decide) ?_
                  refine z_pushJ gp_163_19 ?_
                  refine z_goto gi_163_20 ?_
                  refine z_iret gi_163_44 gr_163 ?_
                  refine ⟨?_, ?_⟩
                  · first | rfl | exact congrArg (fun v => some (zi v)) (by omega) | (exfalso; omega)
                  · exact hr
                · refine z_pushJ gp_148_10 ?_
                  refine z_goto gi_148_11 ?_
                  refine z_bret1 gi_148_15 gr_148 ?_
                  show zW _ _ _ _ _ _ _ _ _ _
                  refine z_bret1 gi_151_11 gr_151 ?_
                  show zW _ _ _ _ _ _ _ _ _ _
                  refine z_if_neT gi_163_16 zr_1 (by decide) ?_
                  refine z_iload2 gi_163_23 ?_
                  refine z_pushJ gp_163_24 ?_
                  refine z_icmp_ne gi_163_26 (by omega) zr_14 (fun h12 => ?_) (fun h12 => ?_)
                  · refine z_aload0 gi_163_38 ?_
                    refine z_getR (r := 76) gi_163_39 gk_50 (hRr _ rm_50_43 (by decide)) ?_
                    refine z_iload1 gi_163_42 ?_
                    refine z_iald (v := J 76 p) gi_163_43 gk_76 (by decide) (by omega) (rfl) ?_
                    refine z_iret gi_163_44 gr_163 ?_
                    refine ⟨?_, ?_⟩
                    · first | rfl | exact congrArg (fun v => some (zi v)) (by omega) | (exfalso; omega)
                    · exact hr
                  · refine z_aload0 gi_163_29 ?_
                    refine z_getR (r := 75) gi_163_30 gk_50 (hRr _ rm_50_42 (by decide)) ?_
                    refine z_iload1 gi_163_33 ?_
                    refine z_iald (v := J 75 p) gi_163_34 gk_75 (by decide) (by omega) (rfl) ?_
                    refine z_goto gi_163_35 ?_
                    refine z_iret gi_163_44 gr_163 ?_
                    refine ⟨?_, ?_⟩
                    · first | rfl | exact congrArg (fun v => some (zi v)) (by omega) | (exfalso; omega)
                    · exact hr
        · refine z_pushJ gp_87_12 ?_
          refine z_goto gi_87_13 ?_
          refine z_bret1 gi_87_17 gr_87 ?_
          show zW _ _ _ _ _ _ _ _ _ _
          refine z_if_neT gi_105_20 zr_1 (by decide) ?_
          refine z_iload2 gi_105_25 ?_
          refine z_pushJ gp_105_26 ?_
          refine z_icmp_ne gi_105_28 (by omega) zr_14 (fun h8 => ?_) (fun h8 => ?_)
          · refine z_aload0 gi_105_43 ?_
            refine z_getR (r := 23) gi_105_44 gk_0 (hR _ rm_0_6) ?_
            refine z_getR (r := 25) gi_105_47 gk_23 (hR _ rm_23_2) ?_
            refine z_iload1 gi_105_50 ?_
            refine z_iald (v := J 25 p) gi_105_51 gk_25 (by decide) (by omega) (rfl) ?_
            refine z_iret gi_105_52 gr_105 ?_
            refine ⟨_, rfl, ?_⟩
            show zW _ _ _ _ [some (.ref 50), some (zi p), some (zi w)] _ _ _ _ _
            refine z_iload2 gi_163_0 ?_
            refine z_pushJ gp_163_1 ?_
            refine z_pushJ gp_163_3 ?_
            refine z_cS3 gi_163_5 (Nat.le_of_ble_eq_true rfl) gc_148_III ?_
            refine z_iload0 gi_148_0 ?_
            refine z_iload1 gi_148_1 ?_
            refine z_icmp_lt gi_148_2 (by omega) zr_14 (fun h9 => ?_) (fun h9 => ?_)
            · refine z_pushJ gp_148_14 ?_
              refine z_bret0 gi_148_15 gr_148 ?_
              show zW _ _ _ _ _ _ _ _ _ _
              refine z_if_eqT gi_163_8 zr_0 (by decide) ?_
              refine z_aload0 gi_163_45 ?_
              refine z_iload1 gi_163_46 ?_
              refine z_iload2 gi_163_47 ?_
              refine z_callVP (As := [_, _]) (v := 1) gi_163_48 rfl gk_50 (Nat.le_of_ble_eq_true rfl) (Nat.le_of_ble_eq_true rfl) (isOne_1 hRr y2.symm yn hp hw hV) ?_
              refine z_if_eqF gi_163_51 zr_1 (by decide) ?_
              refine z_aload0 gi_163_54 ?_
              refine z_iload2 gi_163_55 ?_
              refine z_iload1 gi_163_56 ?_
              refine z_callVP (As := [_, _]) (v := (cN J) p w) gi_163_57 rfl gk_50 (Nat.le_of_ble_eq_true rfl) (Nat.le_of_ble_eq_true rfl) (valueAt_s hRr y1.symm y2.symm y3 hp hw hV) ?_
              refine z_goto gi_163_60 ?_
              refine z_iret gi_163_64 gr_163 ?_
              refine ⟨?_, ?_⟩
              · first | rfl | exact congrArg (fun v => some (zi v)) (by omega) | (exfalso; omega)
              · exact hr
            · refine z_iload0 gi_148_5 ?_
              refine z_iload2 gi_148_6 ?_
              refine z_icmp_gt gi_148_7 (by omega) zr_15 (fun h10 => ?_) (fun h10 => ?_)
              · refine z_pushJ gp_148_14 ?_
                refine z_bret0 gi_148_15 gr_148 ?_
                show zW _ _ _ _ _ _ _ _ _ _
                refine z_if_eqT gi_163_8 zr_0 (by decide) ?_
                refine z_aload0 gi_163_45 ?_
                refine z_iload1 gi_163_46 ?_
                refine z_iload2 gi_163_47 ?_
                refine z_callVP (As := [_, _]) (v := 1) gi_163_48 rfl gk_50 (Nat.le_of_ble_eq_true rfl) (Nat.le_of_ble_eq_true rfl) (isOne_1 hRr y2.symm yn hp hw hV) ?_
                refine z_if_eqF gi_163_51 zr_1 (by decide) ?_
                refine z_aload0 gi_163_54 ?_
                refine z_iload2 gi_163_55 ?_
                refine z_iload1 gi_163_56 ?_
                refine z_callVP (As := [_, _]) (v := (cN J) p w) gi_163_57 rfl gk_50 (Nat.le_of_ble_eq_true rfl) (Nat.le_of_ble_eq_true rfl) (valueAt_s hRr y1.symm y2.symm y3 hp hw hV) ?_
                refine z_goto gi_163_60 ?_
                refine z_iret gi_163_64 gr_163 ?_
                refine ⟨?_, ?_⟩
                · first | rfl | exact congrArg (fun v => some (zi v)) (by omega) | (exfalso; omega)
                · exact hr
              · refine z_pushJ gp_148_10 ?_
                refine z_goto gi_148_11 ?_
                refine z_bret1 gi_148_15 gr_148 ?_
                show zW _ _ _ _ _ _ _ _ _ _
                refine z_if_eqF gi_163_8 zr_1 (by decide) ?_
                refine z_aload0 gi_163_11 ?_
                refine z_iload1 gi_163_12 ?_
                refine z_cV1 gi_163_13 gk_50 go_151 (Nat.le_of_ble_eq_true rfl) gc_151_RI ?_
                refine z_iload1 gi_151_0 ?_
                refine z_pushJ gp_151_1 ?_
                refine z_aload0 gi_151_2 ?_
                refine z_getI (v := J 50 1) gi_151_3 gk_50 (rfl) ?_
                refine z_pushJ gp_151_6 ?_
                refine z_isub (e := (J 50 1) - 1) gi_151_7 rfl ?_
                refine z_cS3 gi_151_8 (Nat.le_of_ble_eq_true rfl) gc_148_III ?_
                refine z_iload0 gi_148_0 ?_
                refine z_iload1 gi_148_1 ?_
                refine z_icmp_lt gi_148_2 (by omega) zr_0 (fun h11 => ?_) (fun h11 => ?_)
                · refine z_pushJ gp_148_14 ?_
                  refine z_bret0 gi_148_15 gr_148 ?_
                  show zW _ _ _ _ _ _ _ _ _ _
                  refine z_bret0 gi_151_11 gr_151 ?_
                  show zW _ _ _ _ _ _ _ _ _ _
                  refine z_if_neF gi_163_16 zr_0 (by decide) ?_
                  refine z_pushJ gp_163_19 ?_
                  refine z_goto gi_163_20 ?_
                  refine z_iret gi_163_44 gr_163 ?_
                  refine ⟨?_, ?_⟩
                  · first | rfl | exact congrArg (fun v => some (zi v)) (by omega) | (exfalso; omega)
                  · exact hr
                · refine z_iload0 gi_148_5 ?_
                  refine z_iload2 gi_148_6 ?_
                  refine z_icmp_gt gi_148_7 (by omega) (by omega) (fun h12 => ?_) (fun h12 => ?_)
                  · refine z_pushJ gp_148_14 ?_
                    refine z_bret0 gi_148_15 gr_148 ?_
                    show zW _ _ _ _ _ _ _ _ _ _
                    refine z_bret0 gi_151_11 gr_151 ?_
                    show zW _ _ _ _ _ _ _ _ _ _
                    refine z_if_neF gi_163_16 zr_0 (by decide) ?_
                    refine z_pushJ gp_163_19 ?_
                    refine z_goto gi_163_20 ?_
                    refine z_iret gi_163_44 gr_163 ?_
                    refine ⟨?_, ?_⟩
                    · first | rfl | exact congrArg (fun v => some (zi v)) (by omega) | (exfalso; omega)
                    · exact hr
                  · refine z_pushJ gp_148_10 ?_
                    refine z_goto gi_148_11 ?_
                    refine z_bret1 gi_148_15 gr_148 ?_
                    show zW _ _ _ _ _ _ _ _ _ _
                    refine z_bret1 gi_151_11 gr_151 ?_
                    show zW _ _ _ _ _ _ _ _ _ _
                    refine z_if_neT gi_163_16 zr_1 (by decide) ?_
                    refine z_iload2 gi_163_23 ?_
                    refine z_pushJ gp_163_24 ?_
                    refine z_icmp_ne gi_163_26 (by omega) zr_14 (fun h13 => ?_) (fun h13 => ?_)
                    · refine z_aload0 gi_163_38 ?_
                      refine z_getR (r := 76) gi_163_39 gk_50 (hRr _ rm_50_43 (by decide)) ?_
                      refine z_iload1 gi_163_42 ?_
                      refine z_iald (v := J 76 p) gi_163_43 gk_76 (by decide) (by omega) (rfl) ?_
                      refine z_iret gi_163_44 gr_163 ?_
                      refine ⟨?_, ?_⟩
                      · first | rfl | exact congrArg (fun v => some (zi v)) (by omega) | (exfalso; omega)
                      · exact hr
                    · refine z_aload0 gi_163_29 ?_
                      refine z_getR (r := 75) gi_163_30 gk_50 (hRr _ rm_50_42 (by decide)) ?_
                      refine z_iload1 gi_163_33 ?_
                      refine z_iald (v := J 75 p) gi_163_34 gk_75 (by decide) (by omega) (rfl) ?_
                      refine z_goto gi_163_35 ?_
                      refine z_iret gi_163_44 gr_163 ?_
                      refine ⟨?_, ?_⟩
                      · first | rfl | exact congrArg (fun v => some (zi v)) (by omega) | (exfalso; omega)
                      · exact hr
          · refine z_aload0 gi_105_31 ?_
            refine z_getR (r := 23) gi_105_32 gk_0 (hR _ rm_0_6) ?_
            refine z_getR (r := 24) gi_105_35 gk_23 (hR _ rm_23_1) ?_
            refine z_iload1 gi_105_38 ?_
            refine z_iald (v := J 24 p) gi_105_39 gk_24 (by decide) (by omega) (rfl) ?_
            refine z_goto gi_105_40 ?_
            refine z_iret gi_105_52 gr_105 ?_
            refine ⟨_, rfl, ?_⟩
            show zW _ _ _ _ [some (.ref 50), some (zi p), some (zi w)] _ _ _ _ _
            refine z_iload2 gi_163_0 ?_
            refine z_pushJ gp_163_1 ?_
            refine z_pushJ gp_163_3 ?_
            refine z_cS3 gi_163_5 (Nat.le_of_ble_eq_true rfl) gc_148_III ?_
            refine z_iload0 gi_148_0 ?_
            refine z_iload1 gi_148_1 ?_
            refine z_icmp_lt gi_148_2 (by omega) zr_14 (fun h9 => ?_) (fun h9 => ?_)
            · refine z_pushJ gp_148_14 ?_
              refine z_bret0 gi_148_15 gr_148 ?_
              show zW _ _ _ _ _ _ _ _ _ _
              refine z_if_eqT gi_163_8 zr_0 (by decide) ?_
              refine z_aload0 gi_163_45 ?_
              refine z_iload1 gi_163_46 ?_
              refine z_iload2 gi_163_47 ?_
              refine z_callVP (As := [_, _]) (v := 1) gi_163_48 rfl gk_50 (Nat.le_of_ble_eq_true rfl) (Nat.le_of_ble_eq_true rfl) (isOne_1 hRr y2.symm yn hp hw hV) ?_
              refine z_if_eqF gi_163_51 zr_1 (by decide) ?_
              refine z_aload0 gi_163_54 ?_
              refine z_iload2 gi_163_55 ?_
              refine z_iload1 gi_163_56 ?_
              refine z_callVP (As := [_, _]) (v := (cN J) p w) gi_163_57 rfl gk_50 (Nat.le_of_ble_eq_true rfl) (Nat.le_of_ble_eq_true rfl) (valueAt_s hRr y1.symm y2.symm y3 hp hw hV) ?_
              refine z_goto gi_163_60 ?_
              refine z_iret gi_163_64 gr_163 ?_
              refine ⟨?_, ?_⟩
              · first | rfl | exact congrArg (fun v => some (zi v)) (by omega) | (exfalso; omega)
              · exact hr
            · refine z_iload0 gi_148_5 ?_
              refine z_iload2 gi_148_6 ?_
              refine z_icmp_gt gi_148_7 (by omega) zr_15 (fun h10 => ?_) (fun h10 => ?_)
              · refine z_pushJ gp_148_14 ?_
                refine z_bret0 gi_148_15 gr_148 ?_
                show zW _ _ _ _ _ _ _ _ _ _
                refine z_if_eqT gi_163_8 zr_0 (by decide) ?_
                refine z_aload0 gi_163_45 ?_
                refine z_iload1 gi_163_46 ?_
                refine z_iload2 gi_163_47 ?_
                refine z_callVP (As := [_, _]) (v := 1) gi_163_48 rfl gk_50 (Nat.le_of_ble_eq_true rfl) (Nat.le_of_ble_eq_true rfl) (isOne_1 hRr y2.symm yn hp hw hV) ?_
                refine z_if_eqF gi_163_51 zr_1 (by decide) ?_
                refine z_aload0 gi_163_54 ?_
                refine z_iload2 gi_163_55 ?_
                refine z_iload1 gi_163_56 ?_
                refine z_callVP (As := [_, _]) (v := (cN J) p w) gi_163_57 rfl gk_50 (Nat.le_of_ble_eq_true rfl) (Nat.le_of_ble_eq_true rfl) (valueAt_s hRr y1.symm y2.symm y3 hp hw hV) ?_
                refine z_goto gi_163_60 ?_
                refine z_iret gi_163_64 gr_163 ?_
                refine ⟨?_, ?_⟩
                · first | rfl | exact congrArg (fun v => some (zi v)) (by omega) | (exfalso; omega)
                · exact hr
              · refine z_pushJ gp_148_10 ?_
                refine z_goto gi_148_11 ?_
                refine z_bret1 gi_148_15 gr_148 ?_
                show zW _ _ _ _ _ _ _ _ _ _
                refine z_if_eqF gi_163_8 zr_1 (by decide) ?_
                refine z_aload0 gi_163_11 ?_
                refine z_iload1 gi_163_12 ?_
                refine z_cV1 gi_163_13 gk_50 go_151 (Nat.le_of_ble_eq_true rfl) gc_151_RI ?_
                refine z_iload1 gi_151_0 ?_
                refine z_pushJ gp_151_1 ?_
                refine z_aload0 gi_151_2 ?_
                refine z_getI (v := J 50 1) gi_151_3 gk_50 (rfl) ?_
                refine z_pushJ gp_151_6 ?_
                refine z_isub (e := (J 50 1) - 1) gi_151_7 rfl ?_
                refine z_cS3 gi_151_8 (Nat.le_of_ble_eq_true rfl) gc_148_III ?_
                refine z_iload0 gi_148_0 ?_
                refine z_iload1 gi_148_1 ?_
                refine z_icmp_lt gi_148_2 (by omega) zr_0 (fun h11 => ?_) (fun h11 => ?_)
                · refine z_pushJ gp_148_14 ?_
                  refine z_bret0 gi_148_15 gr_148 ?_
                  show zW _ _ _ _ _ _ _ _ _ _
                  refine z_bret0 gi_151_11 gr_151 ?_
                  show zW _ _ _ _ _ _ _ _ _ _
                  refine z_if_neF gi_163_16 zr_0 (by decide) ?_
                  refine z_pushJ gp_163_19 ?_
                  refine z_goto gi_163_20 ?_
                  refine z_iret gi_163_44 gr_163 ?_
                  refine ⟨?_, ?_⟩
                  · first | rfl | exact congrArg (fun v => some (zi v)) (by omega) | (exfalso; omega)
                  · exact hr
                · refine z_iload0 gi_148_5 ?_
                  refine z_iload2 gi_148_6 ?_
                  refine z_icmp_gt gi_148_7 (by omega) (by omega) (fun h12 => ?_) (fun h12 => ?_)
                  · refine z_pushJ gp_148_14 ?_
                    refine z_bret0 gi_148_15 gr_148 ?_
                    show zW _ _ _ _ _ _ _ _ _ _
                    refine z_bret0 gi_151_11 gr_151 ?_
                    show zW _ _ _ _ _ _ _ _ _ _
                    refine z_if_neF gi_163_16 zr_0 (by decide) ?_
                    refine z_pushJ gp_163_19 ?_
                    refine z_goto gi_163_20 ?_
                    refine z_iret gi_163_44 gr_163 ?_
                    refine ⟨?_, ?_⟩
                    · first | rfl | exact congrArg (fun v => some (zi v)) (by omega) | (exfalso; omega)
                    · exact hr
                  · refine z_pushJ gp_148_10 ?_
                    refine z_goto gi_148_11 ?_
                    refine z_bret1 gi_148_15 gr_148 ?_
                    show zW _ _ _ _ _ _ _ _ _ _
                    refine z_bret1 gi_151_11 gr_151 ?_
                    show zW _ _ _ _ _ _ _ _ _ _
                    refine z_if_neT gi_163_16 zr_1 (by decide) ?_
                    refine z_iload2 gi_163_23 ?_
                    refine z_pushJ gp_163_24 ?_
                    refine z_icmp_ne gi_163_26 (by omega) zr_14 (fun h13 => ?_) (fun h13 => ?_)
                    · refine z_aload0 gi_163_38 ?_
                      refine z_getR (r := 76) gi_163_39 gk_50 (hRr _ rm_50_43 (by decide)) ?_
                      refine z_iload1 gi_163_42 ?_
                      refine z_iald (v := J 76 p) gi_163_43 gk_76 (by decide) (by omega) (rfl) ?_
                      refine z_iret gi_163_44 gr_163 ?_
                      refine ⟨?_, ?_⟩
                      · first | rfl | exact congrArg (fun v => some (zi v)) (by omega) | (exfalso; omega)
                      · exact hr
                    · refine z_aload0 gi_163_29 ?_
                      refine z_getR (r := 75) gi_163_30 gk_50 (hRr _ rm_50_42 (by decide)) ?_
                      refine z_iload1 gi_163_33 ?_
                      refine z_iald (v := J 75 p) gi_163_34 gk_75 (by decide) (by omega) (rfl) ?_
                      refine z_goto gi_163_35 ?_
                      refine z_iret gi_163_44 gr_163 ?_
                      refine ⟨?_, ?_⟩
                      · first | rfl | exact congrArg (fun v => some (zi v)) (by omega) | (exfalso; omega)
                      · exact hr
theorem st_of_0 {X : Nat × (Nat → Int32)} {d : Nat} {J M : zA} {R : zR} {p w : Int} (hr : Rel X J M R) (hp : -2147483648 ≤ p ∧ p < 2147483648) (hw : -2147483648 ≤ w ∧ w < 2147483648) (hs : ¬ (w = 14 ∨ w = 15)) (hV : ¬ zV (J 8 2) p w) : zW X (d + 20) 105 0 (gEn 105 [(.ref 0), (zi p), (zi w)]) [] J M R (stP X (d + 20) 163 [(zi p), (zi w)]) := by
  have hr0 := hr
  obtain ⟨hR, hG, hY, hD, hP, hC, hAc, hS, hTp, hX, hW⟩ := hr0
  have hRr : zRoR R := zRoR_of hR
  have hY0 := hY
  obtain ⟨y1, y2, y3⟩ := hY0
  have yn := zNn y3
  have hD0 := hD
  obtain ⟨⟨d1, d2, d3, d4, d5, d6⟩, d7, d8, d9, d10, d11⟩ := hD0
  show zW _ _ _ _ [some (.ref 0), some (zi p), some (zi w)] _ _ _ _ _
  refine z_iload2 gi_105_0 ?_
  refine z_pushJ gp_105_1 ?_
  refine z_icmp_eq gi_105_3 (by omega) zr_14 (fun h1 => ?_) (fun h1 => ?_)
  · refine z_aload0 gi_105_12 ?_
    refine z_getR (r := 8) gi_105_13 gk_0 (hR _ rm_0_1) ?_
    refine z_iload1 gi_105_16 ?_
    refine z_cV1 gi_105_17 gk_8 go_87 (Nat.le_of_ble_eq_true rfl) gc_87_RI ?_
    refine z_iload1 gi_87_0 ?_
    refine z_if_lt gi_87_1 (by omega) (fun h2 => ?_) (fun h2 => ?_)
    · refine z_pushJ gp_87_16 ?_
      refine z_bret0 gi_87_17 gr_87 ?_
      show zW _ _ _ _ _ _ _ _ _ _
      refine z_if_neF gi_105_20 zr_0 (by decide) ?_
      refine z_pushJ gp_105_23 ?_
      refine z_iret gi_105_24 gr_105 ?_
      refine ⟨_, rfl, ?_⟩
      show zW _ _ _ _ [some (.ref 50), some (zi p), some (zi w)] _ _ _ _ _
      refine z_iload2 gi_163_0 ?_
      refine z_pushJ gp_163_1 ?_
      refine z_pushJ gp_163_3 ?_
      refine z_cS3 gi_163_5 (Nat.le_of_ble_eq_true rfl) gc_148_III ?_
      refine z_iload0 gi_148_0 ?_
      refine z_iload1 gi_148_1 ?_
      refine z_icmp_lt gi_148_2 (by omega) zr_14 (fun h3 => ?_) (fun h3 => ?_)
      · refine z_pushJ gp_148_14 ?_
        refine z_bret0 gi_148_15 gr_148 ?_
        show zW _ _ _ _ _ _ _ _ _ _
        refine z_if_eqT gi_163_8 zr_0 (by decide) ?_
        refine z_aload0 gi_163_45 ?_
        refine z_iload1 gi_163_46 ?_
        refine z_iload2 gi_163_47 ?_
        refine z_callVP (As := [_, _]) (v := 0) gi_163_48 rfl gk_50 (Nat.le_of_ble_eq_true rfl) (Nat.le_of_ble_eq_true rfl) (isOne_0 hRr y2.symm yn hp hw hV) ?_
        refine z_if_eqT gi_163_51 zr_0 (by decide) ?_
        refine z_pushJ gp_163_63 ?_
        refine z_iret gi_163_64 gr_163 ?_
        refine ⟨?_, ?_⟩
        · first | rfl | exact congrArg (fun v => some (zi v)) (by omega) | (exfalso; omega)
        · exact hr
      · refine z_iload0 gi_148_5 ?_
        refine z_iload2 gi_148_6 ?_
        refine z_icmp_gt gi_148_7 (by omega) zr_15 (fun h4 => ?_) (fun h4 => ?_)
        · refine z_pushJ gp_148_14 ?_
          refine z_bret0 gi_148_15 gr_148 ?_
          show zW _ _ _ _ _ _ _ _ _ _
          refine z_if_eqT gi_163_8 zr_0 (by decide) ?_
          refine z_aload0 gi_163_45 ?_
          refine z_iload1 gi_163_46 ?_
          refine z_iload2 gi_163_47 ?_
          refine z_callVP (As := [_, _]) (v := 0) gi_163_48 rfl gk_50 (Nat.le_of_ble_eq_true rfl) (Nat.le_of_ble_eq_true rfl) (isOne_0 hRr y2.symm yn hp hw hV) ?_
          refine z_if_eqT gi_163_51 zr_0 (by decide) ?_
          refine z_pushJ gp_163_63 ?_
          refine z_iret gi_163_64 gr_163 ?_
          refine ⟨?_, ?_⟩
          · first | rfl | exact congrArg (fun v => some (zi v)) (by omega) | (exfalso; omega)
          · exact hr
        · refine z_pushJ gp_148_10 ?_
          refine z_goto gi_148_11 ?_
          refine z_bret1 gi_148_15 gr_148 ?_
          show zW _ _ _ _ _ _ _ _ _ _
          refine z_if_eqF gi_163_8 zr_1 (by decide) ?_
          refine z_aload0 gi_163_11 ?_
          refine z_iload1 gi_163_12 ?_
          refine z_cV1 gi_163_13 gk_50 go_151 (Nat.le_of_ble_eq_true rfl) gc_151_RI ?_
          refine z_iload1 gi_151_0 ?_
          refine z_pushJ gp_151_1 ?_
          refine z_aload0 gi_151_2 ?_
          refine z_getI (v := J 50 1) gi_151_3 gk_50 (rfl) ?_
          refine z_pushJ gp_151_6 ?_
          refine z_isub (e := (J 50 1) - 1) gi_151_7 rfl ?_
          refine z_cS3 gi_151_8 (Nat.le_of_ble_eq_true rfl) gc_148_III ?_
          refine z_iload0 gi_148_0 ?_
          refine z_iload1 gi_148_1 ?_
          refine z_icmp_lt gi_148_2 (by omega) zr_0 (fun h5 => ?_) (fun h5 => ?_)
          · refine z_pushJ gp_148_14 ?_
            refine z_bret0 gi_148_15 gr_148 ?_
            show zW _ _ _ _ _ _ _ _ _ _
            refine z_bret0 gi_151_11 gr_151 ?_
            show zW _ _ _ _ _ _ _ _ _ _
            refine z_if_neF gi_163_16 zr_0 (by decide) ?_
            refine z_pushJ gp_163_19 ?_
            refine z_goto gi_163_20 ?_
            refine z_iret gi_163_44 gr_163 ?_
            refine ⟨?_, ?_⟩
            · first | rfl | exact congrArg (fun v => some (zi v)) (by omega) | (exfalso; omega)
            · exact hr
          · refine z_iload0 gi_148_5 ?_
            refine z_iload2 gi_148_6 ?_
            refine z_icmp_gt gi_148_7 (by omega) (by omega) (fun h6 => ?_) (fun h6 => ?_)
            · refine z_pushJ gp_148_14 ?_
              refine z_bret0 gi_148_15 gr_148 ?_
              show zW _ _ _ _ _ _ _ _ _ _
              refine z_bret0 gi_151_11 gr_151 ?_
              show zW _ _ _ _ _ _ _ _ _ _
              refine z_if_neF gi_163_16 zr_0 (by decide) ?_
              refine z_pushJ gp_163_19 ?_
              refine z_goto gi_163_20 ?_
              refine z_iret gi_163_44 gr_163 ?_
              refine ⟨?_, ?_⟩
              · first | rfl | exact congrArg (fun v => some (zi v)) (by omega) | (exfalso; omega)
              · exact hr
            · refine z_pushJ gp_148_10 ?_
              refine z_goto gi_148_11 ?_
              refine z_bret1 gi_148_15 gr_148 ?_
              show zW _ _ _ _ _ _ _ _ _ _
              refine z_bret1 gi_151_11 gr_151 ?_
              show zW _ _ _ _ _ _ _ _ _ _
              refine z_if_neT gi_163_16 zr_1 (by decide) ?_
              refine z_iload2 gi_163_23 ?_
              refine z_pushJ gp_163_24 ?_
              refine z_icmp_ne gi_163_26 (by omega) zr_14 (fun h7 => ?_) (fun h7 => ?_)
              · refine z_aload0 gi_163_38 ?_
                refine z_getR (r := 76) gi_163_39 gk_50 (hRr _ rm_50_43 (by decide)) ?_
                refine z_iload1 gi_163_42 ?_
                refine z_iald (v := J 76 p) gi_163_43 gk_76 (by decide) (by omega) (rfl) ?_
                refine z_iret gi_163_44 gr_163 ?_
                refine ⟨?_, ?_⟩
                · first | rfl | exact congrArg (fun v => some (zi v)) (by omega) | (exfalso; omega)
                · exact hr
              · refine z_aload0 gi_163_29 ?_
                refine z_getR (r := 75) gi_163_30 gk_50 (hRr _ rm_50_42 (by decide)) ?_
                refine z_iload1 gi_163_33 ?_
                refine z_iald (v := J 75 p) gi_163_34 gk_75 (by decide) (by omega) (rfl) ?_
                refine z_goto gi_163_35 ?_
                refine z_iret gi_163_44 gr_163 ?_
                refine ⟨?_, ?_⟩
                · first | rfl | exact congrArg (fun v => some (zi v)) (by omega) | (exfalso; omega)
                · exact hr
    · refine z_iload1 gi_87_4 ?_
      refine z_aload0 gi_87_5 ?_
      refine z_getI (v := J 8 2) gi_87_6 gk_8 (rfl) ?_
      refine z_icmp_ge gi_87_9 (by omega) (by omega) (fun h3 => ?_) (fun h3 => ?_)
      · refine z_pushJ gp_87_16 ?_
        refine z_bret0 gi_87_17 gr_87 ?_
        show zW _ _ _ _ _ _ _ _ _ _
        refine z_if_neF gi_105_20 zr_0 (by decide) ?_
        refine z_pushJ gp_105_23 ?_
        refine z_iret gi_105_24 gr_105 ?_
        refine ⟨_, rfl, ?_⟩
        show zW _ _ _ _ [some (.ref 50), some (zi p), some (zi w)] _ _ _ _ _
        refine z_iload2 gi_163_0 ?_
        refine z_pushJ gp_163_1 ?_
        refine z_pushJ gp_163_3 ?_
        refine z_cS3 gi_163_5 (Nat.le_of_ble_eq_true rfl) gc_148_III ?_
        refine z_iload0 gi_148_0 ?_
        refine z_iload1 gi_148_1 ?_
        refine z_icmp_lt gi_148_2 (by omega) zr_14 (fun h4 => ?_) (fun h4 => ?_)
        · refine z_pushJ gp_148_14 ?_
          refine z_bret0 gi_148_15 gr_148 ?_
          show zW _ _ _ _ _ _ _ _ _ _
          refine z_if_eqT gi_163_8 zr_0 (by decide) ?_
          refine z_aload0 gi_163_45 ?_
          refine z_iload1 gi_163_46 ?_
          refine z_iload2 gi_163_47 ?_
          refine z_callVP (As := [_, _]) (v := 0) gi_163_48 rfl gk_50 (Nat.le_of_ble_eq_true rfl) (Nat.le_of_ble_eq_true rfl) (isOne_0 hRr y2.symm yn hp hw hV) ?_
          refine z_if_eqT gi_163_51 zr_0 (by decide) ?_
          refine z_pushJ gp_163_63 ?_
          refine z_iret gi_163_64 gr_163 ?_
          refine ⟨?_, ?_⟩
          · first | rfl | exact congrArg (fun v => some (zi v)) (by omega) | (exfalso; omega)
          · exact hr
        · refine z_iload0 gi_148_5 ?_
          refine z_iload2 gi_148_6 ?_
          refine z_icmp_gt gi_148_7 (by omega) zr_15 (fun h5 => ?_) (fun h5 => ?_)
          · refine z_pushJ gp_148_14 ?_
            refine z_bret0 gi_148_15 gr_148 ?_
            show zW _ _ _ _ _ _ _ _ _ _
            refine z_if_eqT gi_163_8 zr_0 (by decide) ?_
            refine z_aload0 gi_163_45 ?_
            refine z_iload1 gi_163_46 ?_
            refine z_iload2 gi_163_47 ?_
            refine z_callVP (As := [_, _]) (v := 0) gi_163_48 rfl gk_50 (Nat.le_of_ble_eq_true rfl) (Nat.le_of_ble_eq_true rfl) (isOne_0 hRr y2.symm yn hp hw hV) ?_
            refine z_if_eqT gi_163_51 zr_0 (by decide) ?_
            refine z_pushJ gp_163_63 ?_
            refine z_iret gi_163_64 gr_163 ?_
            refine ⟨?_, ?_⟩
            · first | rfl | exact congrArg (fun v => some (zi v)) (by omega) | (exfalso; omega)
            · exact hr
          · refine z_pushJ gp_148_10 ?_
            refine z_goto gi_148_11 ?_
            refine z_bret1 gi_148_15 gr_148 ?_
            show zW _ _ _ _ _ _ _ _ _ _
            refine z_if_eqF gi_163_8 zr_1 (by decide) ?_
            refine z_aload0 gi_163_11 ?_
            refine z_iload1 gi_163_12 ?_
            refine z_cV1 gi_163_13 gk_50 go_151 (Nat.le_of_ble_eq_true rfl) gc_151_RI ?_
            refine z_iload1 gi_151_0 ?_
            refine z_pushJ gp_151_1 ?_
            refine z_aload0 gi_151_2 ?_
            refine z_getI (v := J 50 1) gi_151_3 gk_50 (rfl) ?_
            refine z_pushJ gp_151_6 ?_
            refine z_isub (e := (J 50 1) - 1) gi_151_7 rfl ?_
            refine z_cS3 gi_151_8 (Nat.le_of_ble_eq_true rfl) gc_148_III ?_
            refine z_iload0 gi_148_0 ?_
            refine z_iload1 gi_148_1 ?_
            refine z_icmp_lt gi_148_2 (by omega) zr_0 (fun h6 => ?_) (fun h6 => ?_)
            · refine z_pushJ gp_148_14 ?_
              refine z_bret0 gi_148_15 gr_148 ?_
              show zW _ _ _ _ _ _ _ _ _ _
              refine z_bret0 gi_151_11 gr_151 ?_
              show zW _ _ _ _ _ _ _ _ _ _
              refine z_if_neF gi_163_16 zr_0 (by decide) ?_
              refine z_pushJ gp_163_19 ?_
              refine z_goto gi_163_20 ?_
              refine z_iret gi_163_44 gr_163 ?_
              refine ⟨?_, ?_⟩
              · first | rfl | exact congrArg (fun v => some (zi v)) (by omega) | (exfalso; omega)
              · exact hr
            · refine z_iload0 gi_148_5 ?_
              refine z_iload2 gi_148_6 ?_
              refine z_icmp_gt gi_148_7 (by omega) (by omega) (fun h7 => ?_) (fun h7 => ?_)
              · refine z_pushJ gp_148_14 ?_
                refine z_bret0 gi_148_15 gr_148 ?_
                show zW _ _ _ _ _ _ _ _ _ _
                refine z_bret0 gi_151_11 gr_151 ?_
                show zW _ _ _ _ _ _ _ _ _ _
                refine z_if_neF gi_163_16 zr_0 (by decide) ?_
                refine z_pushJ gp_163_19 ?_
                refine z_goto gi_163_20 ?_
                refine z_iret gi_163_44 gr_163 ?_
                refine ⟨?_, ?_⟩
                · first | rfl | exact congrArg (fun v => some (zi v)) (by omega) | (exfalso; omega)
                · exact hr
              · refine z_pushJ gp_148_10 ?_
                refine z_goto gi_148_11 ?_
                refine z_bret1 gi_148_15 gr_148 ?_
                show zW _ _ _ _ _ _ _ _ _ _
                refine z_bret1 gi_151_11 gr_151 ?_
                show zW _ _ _ _ _ _ _ _ _ _
                refine z_if_neT gi_163_16 zr_1 (by decide) ?_
                refine z_iload2 gi_163_23 ?_
                refine z_pushJ gp_163_24 ?_
                refine z_icmp_ne gi_163_26 (by omega) zr_14 (fun h8 => ?_) (fun h8 => ?_)
                · refine z_aload0 gi_163_38 ?_
                  refine z_getR (r := 76) gi_163_39 gk_50 (hRr _ rm_50_43 (by decide)) ?_
                  refine z_iload1 gi_163_42 ?_
                  refine z_iald (v := J 76 p) gi_163_43 gk_76 (by decide) (by omega) (rfl) ?_
                  refine z_iret gi_163_44 gr_163 ?_
                  refine ⟨?_, ?_⟩
                  · first | rfl | exact congrArg (fun v => some (zi v)) (by omega) | (exfalso; omega)
                  · exact hr
                · refine z_aload0 gi_163_29 ?_
                  refine z_getR (r := 75) gi_163_30 gk_50 (hRr _ rm_50_42 (by decide)) ?_
                  refine z_iload1 gi_163_33 ?_
                  refine z_iald (v := J 75 p) gi_163_34 gk_75 (by decide) (by omega) (rfl) ?_
                  refine z_goto gi_163_35 ?_
                  refine z_iret gi_163_44 gr_163 ?_
                  refine ⟨?_, ?_⟩
                  · first | rfl | exact congrArg (fun v => some (zi v)) (by omega) | (exfalso; omega)
                  · exact hr
      · refine z_pushJ gp_87_12 ?_
        refine z_goto gi_87_13 ?_
        refine z_bret1 gi_87_17 gr_87 ?_
        show zW _ _ _ _ _ _ _ _ _ _
        refine z_if_neT gi_105_20 zr_1 (by decide) ?_
        refine z_iload2 gi_105_25 ?_
        refine z_pushJ gp_105_26 ?_
        refine z_icmp_ne gi_105_28 (by omega) zr_14 (fun h4 => ?_) (fun h4 => ?_)
        · refine z_aload0 gi_105_43 ?_
          refine z_getR (r := 23) gi_105_44 gk_0 (hR _ rm_0_6) ?_
          refine z_getR (r := 25) gi_105_47 gk_23 (hR _ rm_23_2) ?_
          refine z_iload1 gi_105_50 ?_
          refine z_iald (v := J 25 p) gi_105_51 gk_25 (by decide) (by omega) (rfl) ?_
          refine z_iret gi_105_52 gr_105 ?_
          refine ⟨_, rfl, ?_⟩
          show zW _ _ _ _ [some (.ref 50), some (zi p), some (zi w)] _ _ _ _ _
          refine z_iload2 gi_163_0 ?_
          refine z_pushJ gp_163_1 ?_
          refine z_pushJ gp_163_3 ?_
          refine z_cS3 gi_163_5 (Nat.le_of_ble_eq_true rfl) gc_148_III ?_
          refine z_iload0 gi_148_0 ?_
          refine z_iload1 gi_148_1 ?_
          refine z_icmp_lt gi_148_2 (by omega) zr_14 (fun h5 => ?_) (fun h5 => ?_)
          · refine z_pushJ gp_148_14 ?_
            refine z_bret0 gi_148_15 gr_148 ?_
            show zW _ _ _ _ _ _ _ _ _ _
            refine z_if_eqT gi_163_8 zr_0 (by decide) ?_
            refine z_aload0 gi_163_45 ?_
            refine z_iload1 gi_163_46 ?_
            refine z_iload2 gi_163_47 ?_
            refine z_callVP (As := [_, _]) (v := 0) gi_163_48 rfl gk_50 (Nat.le_of_ble_eq_true rfl) (Nat.le_of_ble_eq_true rfl) (isOne_0 hRr y2.symm yn hp hw hV) ?_
            refine z_if_eqT gi_163_51 zr_0 (by decide) ?_
            refine z_pushJ gp_163_63 ?_
            refine z_iret gi_163_64 gr_163 ?_
            refine ⟨?_, ?_⟩
            · first | rfl | exact congrArg (fun v => some (zi v)) (by omega) | (exfalso; omega)
            · exact hr
          · refine z_iload0 gi_148_5 ?_
            refine z_iload2 gi_148_6 ?_
            refine z_icmp_gt gi_148_7 (by omega) zr_15 (fun h6 => ?_) (fun h6 => ?_)
            · refine z_pushJ gp_148_14 ?_
              refine z_bret0 gi_148_15 gr_148 ?_
              show zW _ _ _ _ _ _ _ _ _ _
              refine z_if_eqT gi_163_8 zr_0 (by decide) ?_
              refine z_aload0 gi_163_45 ?_
              refine z_iload1 gi_163_46 ?_
              refine z_iload2 gi_163_47 ?_
              refine z_callVP (As := [_, _]) (v := 0) gi_163_48 rfl gk_50 (Nat.le_of_ble_eq_true rfl) (Nat.le_of_ble_eq_true rfl) (isOne_0 hRr y2.symm yn hp hw hV) ?_
              refine z_if_eqT gi_163_51 zr_0 (by decide) ?_
              refine z_pushJ gp_163_63 ?_
              refine z_iret gi_163_64 gr_163 ?_
              refine ⟨?_, ?_⟩
              · first | rfl | exact congrArg (fun v => some (zi v)) (by omega) | (exfalso; omega)
              · exact hr
            · refine z_pushJ gp_148_10 ?_
              refine z_goto gi_148_11 ?_
              refine z_bret1 gi_148_15 gr_148 ?_
              show zW _ _ _ _ _ _ _ _ _ _
              refine z_if_eqF gi_163_8 zr_1 (by decide) ?_
              refine z_aload0 gi_163_11 ?_
              refine z_iload1 gi_163_12 ?_
              refine z_cV1 gi_163_13 gk_50 go_151 (Nat.le_of_ble_eq_true rfl) gc_151_RI ?_
              refine z_iload1 gi_151_0 ?_
              refine z_pushJ gp_151_1 ?_
              refine z_aload0 gi_151_2 ?_
              refine z_getI (v := J 50 1) gi_151_3 gk_50 (rfl) ?_
              refine z_pushJ gp_151_6 ?_
              refine z_isub (e := (J 50 1) - 1) gi_151_7 rfl ?_
              refine z_cS3 gi_151_8 (Nat.le_of_ble_eq_true rfl) gc_148_III ?_
              refine z_iload0 gi_148_0 ?_
              refine z_iload1 gi_148_1 ?_
              refine z_icmp_lt gi_148_2 (by omega) zr_0 (fun h7 => ?_) (fun h7 => ?_)
              · refine z_pushJ gp_148_14 ?_
                refine z_bret0 gi_148_15 gr_148 ?_
                show zW _ _ _ _ _ _ _ _ _ _
                refine z_bret0 gi_151_11 gr_151 ?_
                show zW _ _ _ _ _ _ _ _ _ _
                refine z_if_neF gi_163_16 zr_0 (by decide) ?_
                refine z_pushJ gp_163_19 ?_
                refine z_goto gi_163_20 ?_
                refine z_iret gi_163_44 gr_163 ?_
                refine ⟨?_, ?_⟩
                · first | rfl | exact congrArg (fun v => some (zi v)) (by omega) | (exfalso; omega)
                · exact hr
              · refine z_iload0 gi_148_5 ?_
                refine z_iload2 gi_148_6 ?_
                refine z_icmp_gt gi_148_7 (by omega) (by omega) (fun h8 => ?_) (fun h8 => ?_)
                · refine z_pushJ gp_148_14 ?_
                  refine z_bret0 gi_148_15 gr_148 ?_
                  show zW _ _ _ _ _ _ _ _ _ _
                  refine z_bret0 gi_151_11 gr_151 ?_
                  show zW _ _ _ _ _ _ _ _ _ _
                  refine z_if_neF gi_163_16 zr_0 (by decide) ?_
                  refine z_pushJ gp_163_19 ?_
                  refine z_goto gi_163_20 ?_
                  refine z_iret gi_163_44 gr_163 ?_
                  refine ⟨?_, ?_⟩
                  · first | rfl | exact congrArg (fun v => some (zi v)) (by omega) | (exfalso; omega)
                  · exact hr
                · refine z_pushJ gp_148_10 ?_
                  refine z_goto gi_148_11 ?_
                  refine z_bret1 gi_148_15 gr_148 ?_
                  show zW _ _ _ _ _ _ _ _ _ _
                  refine z_bret1 gi_151_11 gr_151 ?_
                  show zW _ _ _ _ _ _ _ _ _ _
                  refine z_if_neT gi_163_16 zr_1 (by decide) ?_
                  refine z_iload2 gi_163_23 ?_
                  refine z_pushJ gp_163_24 ?_
                  refine z_icmp_ne gi_163_26 (by omega) zr_14 (fun h9 => ?_) (fun h9 => ?_)
                  · refine z_aload0 gi_163_38 ?_
                    refine z_getR (r := 76) gi_163_39 gk_50 (hRr _ rm_50_43 (by decide)) ?_
                    refine z_iload1 gi_163_42 ?_
                    refine z_iald (v := J 76 p) gi_163_43 gk_76 (by decide) (by omega) (rfl) ?_
                    refine z_iret gi_163_44 gr_163 ?_
                    refine ⟨?_, ?_⟩
                    · first | rfl | exact congrArg (fun v => some (zi v)) (by omega) | (exfalso; omega)
                    · exact hr
                  · refine z_aload0 gi_163_29 ?_
                    refine z_getR (r := 75) gi_163_30 gk_50 (hRr _ rm_50_42 (by decide)) ?_
                    refine z_iload1 gi_163_33 ?_
                    refine z_iald (v := J 75 p) gi_163_34 gk_75 (by decide) (by omega) (rfl) ?_
                    refine z_goto gi_163_35 ?_
                    refine z_iret gi_163_44 gr_163 ?_
                    refine ⟨?_, ?_⟩
                    · first | rfl | exact congrArg (fun v => some (zi v)) (by omega) | (exfalso; omega)
                    · exact hr
        · refine z_aload0 gi_105_31 ?_
          refine z_getR (r := 23) gi_105_32 gk_0 (hR _ rm_0_6) ?_
          refine z_getR (r := 24) gi_105_35 gk_23 (hR _ rm_23_1) ?_
          refine z_iload1 gi_105_38 ?_
          refine z_iald (v := J 24 p) gi_105_39 gk_24 (by decide) (by omega) (rfl) ?_
          refine z_goto gi_105_40 ?_
          refine z_iret gi_105_52 gr_105 ?_
          refine ⟨_, rfl, ?_⟩
          show zW _ _ _ _ [some (.ref 50), some (zi p), some (zi w)] _ _ _ _ _
          refine z_iload2 gi_163_0 ?_
          refine z_pushJ gp_163_1 ?_
          refine z_pushJ gp_163_3 ?_
          refine z_cS3 gi_163_5 (Nat.le_of_ble_eq_true rfl) gc_148_III ?_
          refine z_iload0 gi_148_0 ?_
          refine z_iload1 gi_148_1 ?_
          refine z_icmp_lt gi_148_2 (by omega) zr_14 (fun h5 => ?_) (fun h5 => ?_)
          · refine z_pushJ gp_148_14 ?_
            refine z_bret0 gi_148_15 gr_148 ?_
            show zW _ _ _ _ _ _ _ _ _ _
            refine z_if_eqT gi_163_8 zr_0 (by decide) ?_
            refine z_aload0 gi_163_45 ?_
            refine z_iload1 gi_163_46 ?_
            refine z_iload2 gi_163_47 ?_
            refine z_callVP (As := [_, _]) (v := 0) gi_163_48 rfl gk_50 (Nat.le_of_ble_eq_true rfl) (Nat.le_of_ble_eq_true rfl) (isOne_0 hRr y2.symm yn hp hw hV) ?_
            refine z_if_eqT gi_163_51 zr_0 (by decide) ?_
            refine z_pushJ gp_163_63 ?_
            refine z_iret gi_163_64 gr_163 ?_
            refine ⟨?_, ?_⟩
            · first | rfl | exact congrArg (fun v => some (zi v)) (by omega) | (exfalso; omega)
            · exact hr
          · refine z_iload0 gi_148_5 ?_
            refine z_iload2 gi_148_6 ?_
            refine z_icmp_gt gi_148_7 (by omega) zr_15 (fun h6 => ?_) (fun h6 => ?_)
            · refine z_pushJ gp_148_14 ?_
              refine z_bret0 gi_148_15 gr_148 ?_
              show zW _ _ _ _ _ _ _ _ _ _
              refine z_if_eqT gi_163_8 zr_0 (by decide) ?_
              refine z_aload0 gi_163_45 ?_
              refine z_iload1 gi_163_46 ?_
              refine z_iload2 gi_163_47 ?_
              refine z_callVP (As := [_, _]) (v := 0) gi_163_48 rfl gk_50 (Nat.le_of_ble_eq_true rfl) (Nat.le_of_ble_eq_true rfl) (isOne_0 hRr y2.symm yn hp hw hV) ?_
              refine z_if_eqT gi_163_51 zr_0 (by decide) ?_
              refine z_pushJ gp_163_63 ?_
              refine z_iret gi_163_64 gr_163 ?_
              refine ⟨?_, ?_⟩
              · first | rfl | exact congrArg (fun v => some (zi v)) (by omega) | (exfalso; omega)
              · exact hr
            · refine z_pushJ gp_148_10 ?_
              refine z_goto gi_148_11 ?_
              refine z_bret1 gi_148_15 gr_148 ?_
              show zW _ _ _ _ _ _ _ _ _ _
              refine z_if_eqF gi_163_8 zr_1 (by decide) ?_
              refine z_aload0 gi_163_11 ?_
              refine z_iload1 gi_163_12 ?_
              refine z_cV1 gi_163_13 gk_50 go_151 (Nat.le_of_ble_eq_true rfl) gc_151_RI ?_
              refine z_iload1 gi_151_0 ?_
              refine z_pushJ gp_151_1 ?_
              refine z_aload0 gi_151_2 ?_
              refine z_getI (v := J 50 1) gi_151_3 gk_50 (rfl) ?_
              refine z_pushJ gp_151_6 ?_
              refine z_isub (e := (J 50 1) - 1) gi_151_7 rfl ?_
              refine z_cS3 gi_151_8 (Nat.le_of_ble_eq_true rfl) gc_148_III ?_
              refine z_iload0 gi_148_0 ?_
              refine z_iload1 gi_148_1 ?_
              refine z_icmp_lt gi_148_2 (by omega) zr_0 (fun h7 => ?_) (fun h7 => ?_)
              · refine z_pushJ gp_148_14 ?_
                refine z_bret0 gi_148_15 gr_148 ?_
                show zW _ _ _ _ _ _ _ _ _ _
                refine z_bret0 gi_151_11 gr_151 ?_
                show zW _ _ _ _ _ _ _ _ _ _
                refine z_if_neF gi_163_16 zr_0 (by decide) ?_
                refine z_pushJ gp_163_19 ?_
                refine z_goto gi_163_20 ?_
                refine z_iret gi_163_44 gr_163 ?_
                refine ⟨?_, ?_⟩
                · first | rfl | exact congrArg (fun v => some (zi v)) (by omega) | (exfalso; omega)
                · exact hr
              · refine z_iload0 gi_148_5 ?_
                refine z_iload2 gi_148_6 ?_
                refine z_icmp_gt gi_148_7 (by omega) (by omega) (fun h8 => ?_) (fun h8 => ?_)
                · refine z_pushJ gp_148_14 ?_
                  refine z_bret0 gi_148_15 gr_148 ?_
                  show zW _ _ _ _ _ _ _ _ _ _
                  refine z_bret0 gi_151_11 gr_151 ?_
                  show zW _ _ _ _ _ _ _ _ _ _
                  refine z_if_neF gi_163_16 zr_0 (by decide) ?_
                  refine z_pushJ gp_163_19 ?_
                  refine z_goto gi_163_20 ?_
                  refine z_iret gi_163_44 gr_163 ?_
                  refine ⟨?_, ?_⟩
                  · first | rfl | exact congrArg (fun v => some (zi v)) (by omega) | (exfalso; omega)
                  · exact hr
                · refine z_pushJ gp_148_10 ?_
                  refine z_goto gi_148_11 ?_
                  refine z_bret1 gi_148_15 gr_148 ?_
                  show zW _ _ _ _ _ _ _ _ _ _
                  refine z_bret1 gi_151_11 gr_151 ?_
                  show zW _ _ _ _ _ _ _ _ _ _
                  refine z_if_neT gi_163_16 zr_1 (by decide) ?_
                  refine z_iload2 gi_163_23 ?_
                  refine z_pushJ gp_163_24 ?_
                  refine z_icmp_ne gi_163_26 (by omega) zr_14 (fun h9 => ?_) (fun h9 => ?_)
                  · refine z_aload0 gi_163_38 ?_
                    refine z_getR (r := 76) gi_163_39 gk_50 (hRr _ rm_50_43 (by decide)) ?_
                    refine z_iload1 gi_163_42 ?_
                    refine z_iald (v := J 76 p) gi_163_43 gk_76 (by decide) (by omega) (rfl) ?_
                    refine z_iret gi_163_44 gr_163 ?_
                    refine ⟨?_, ?_⟩
                    · first | rfl | exact congrArg (fun v => some (zi v)) (by omega) | (exfalso; omega)
                    · exact hr
                  · refine z_aload0 gi_163_29 ?_
                    refine z_getR (r := 75) gi_163_30 gk_50 (hRr _ rm_50_42 (by decide)) ?_
                    refine z_iload1 gi_163_33 ?_
                    refine z_iald (v := J 75 p) gi_163_34 gk_75 (by decide) (by omega) (rfl) ?_
                    refine z_goto gi_163_35 ?_
                    refine z_iret gi_163_44 gr_163 ?_
                    refine ⟨?_, ?_⟩
                    · first | rfl | exact congrArg (fun v => some (zi v)) (by omega) | (exfalso; omega)
                    · exact hr
  · refine z_iload2 gi_105_6 ?_
    refine z_pushJ gp_105_7 ?_
    refine z_icmp_ne gi_105_9 (by omega) zr_15 (fun h5 => ?_) (fun h5 => ?_)
    · refine z_aload0 gi_105_53 ?_
      refine z_getR (r := 8) gi_105_54 gk_0 (hR _ rm_0_1) ?_
      refine z_iload1 gi_105_57 ?_
      refine z_iload2 gi_105_58 ?_
      refine z_callVP (As := [_, _]) (v := 0) gi_105_59 rfl gk_8 (Nat.le_of_ble_eq_true rfl) (Nat.le_of_ble_eq_true rfl) (isNumber_0 hR rfl yn hp hw hV) ?_
      refine z_if_eqT gi_105_62 zr_0 (by decide) ?_
      refine z_pushJ gp_105_77 ?_
      refine z_iret gi_105_78 gr_105 ?_
      refine ⟨_, rfl, ?_⟩
      show zW _ _ _ _ [some (.ref 50), some (zi p), some (zi w)] _ _ _ _ _
      refine z_iload2 gi_163_0 ?_
      refine z_pushJ gp_163_1 ?_
      refine z_pushJ gp_163_3 ?_
      refine z_cS3 gi_163_5 (Nat.le_of_ble_eq_true rfl) gc_148_III ?_
      refine z_iload0 gi_148_0 ?_
      refine z_iload1 gi_148_1 ?_
      refine z_icmp_lt gi_148_2 (by omega) zr_14 (fun h6 => ?_) (fun h6 => ?_)
      · refine z_pushJ gp_148_14 ?_
        refine z_bret0 gi_148_15 gr_148 ?_
        show zW _ _ _ _ _ _ _ _ _ _
        refine z_if_eqT gi_163_8 zr_0 (by decide) ?_
        refine z_aload0 gi_163_45 ?_
        refine z_iload1 gi_163_46 ?_
        refine z_iload2 gi_163_47 ?_
        refine z_callVP (As := [_, _]) (v := 0) gi_163_48 rfl gk_50 (Nat.le_of_ble_eq_true rfl) (Nat.le_of_ble_eq_true rfl) (isOne_0 hRr y2.symm yn hp hw hV) ?_
        refine z_if_eqT gi_163_51 zr_0 (by decide) ?_
        refine z_pushJ gp_163_63 ?_
        refine z_iret gi_163_64 gr_163 ?_
        refine ⟨?_, ?_⟩
        · first | rfl | exact congrArg (fun v => some (zi v)) (by omega) | (exfalso; omega)
        · exact hr
      · refine z_iload0 gi_148_5 ?_
        refine z_iload2 gi_148_6 ?_
        refine z_icmp_gt gi_148_7 (by omega) zr_15 (fun h7 => ?_) (fun h7 => ?_)
        · refine z_pushJ gp_148_14 ?_
          refine z_bret0 gi_148_15 gr_148 ?_
          show zW _ _ _ _ _ _ _ _ _ _
          refine z_if_eqT gi_163_8 zr_0 (by decide) ?_
          refine z_aload0 gi_163_45 ?_
          refine z_iload1 gi_163_46 ?_
          refine z_iload2 gi_163_47 ?_
          refine z_callVP (As := [_, _]) (v := 0) gi_163_48 rfl gk_50 (Nat.le_of_ble_eq_true rfl) (Nat.le_of_ble_eq_true rfl) (isOne_0 hRr y2.symm yn hp hw hV) ?_
          refine z_if_eqT gi_163_51 zr_0 (by decide) ?_
          refine z_pushJ gp_163_63 ?_
          refine z_iret gi_163_64 gr_163 ?_
          refine ⟨?_, ?_⟩
          · first | rfl | exact congrArg (fun v => some (zi v)) (by omega) | (exfalso; omega)
          · exact hr
        · refine z_pushJ gp_148_10 ?_
          refine z_goto gi_148_11 ?_
          refine z_bret1 gi_148_15 gr_148 ?_
          show zW _ _ _ _ _ _ _ _ _ _
          refine z_if_eqF gi_163_8 zr_1 (by decide) ?_
          refine z_aload0 gi_163_11 ?_
          refine z_iload1 gi_163_12 ?_
          refine z_cV1 gi_163_13 gk_50 go_151 (Nat.le_of_ble_eq_true rfl) gc_151_RI ?_
          refine z_iload1 gi_151_0 ?_
          refine z_pushJ gp_151_1 ?_
          refine z_aload0 gi_151_2 ?_
          refine z_getI (v := J 50 1) gi_151_3 gk_50 (rfl) ?_
          refine z_pushJ gp_151_6 ?_
          refine z_isub (e := (J 50 1) - 1) gi_151_7 rfl ?_
          refine z_cS3 gi_151_8 (Nat.le_of_ble_eq_true rfl) gc_148_III ?_
          refine z_iload0 gi_148_0 ?_
          refine z_iload1 gi_148_1 ?_
          refine z_icmp_lt gi_148_2 (by omega) zr_0 (fun h8 => ?_) (fun h8 => ?_)
          · refine z_pushJ gp_148_14 ?_
            refine z_bret0 gi_148_15 gr_148 ?_
            show zW _ _ _ _ _ _ _ _ _ _
            refine z_bret0 gi_151_11 gr_151 ?_
            show zW _ _ _ _ _ _ _ _ _ _
            refine z_if_neF gi_163_16 zr_0 (by decide) ?_
            refine z_pushJ gp_163_19 ?_
            refine z_goto gi_163_20 ?_
            refine z_iret gi_163_44 gr_163 ?_
            refine ⟨?_, ?_⟩
            · first | rfl | exact congrArg (fun v => some (zi v)) (by omega) | (exfalso; omega)
            · exact hr
          · refine z_iload0 gi_148_5 ?_
            refine z_iload2 gi_148_6 ?_
            refine z_icmp_gt gi_148_7 (by omega) (by omega) (fun h9 => ?_) (fun h9 => ?_)
            · refine z_pushJ gp_148_14 ?_
              refine z_bret0 gi_148_15 gr_148 ?_
              show zW _ _ _ _ _ _ _ _ _ _
              refine z_bret0 gi_151_11 gr_151 ?_
              show zW _ _ _ _ _ _ _ _ _ _
              refine z_if_neF gi_163_16 zr_0 (by decide) ?_
              refine z_pushJ gp_163_19 ?_
              refine z_goto gi_163_20 ?_
              refine z_iret gi_163_44 gr_163 ?_
              refine ⟨?_, ?_⟩
              · first | rfl | exact congrArg (fun v => some (zi v)) (by omega) | (exfalso; omega)
              · exact hr
            · refine z_pushJ gp_148_10 ?_
              refine z_goto gi_148_11 ?_
              refine z_bret1 gi_148_15 gr_148 ?_
              show zW _ _ _ _ _ _ _ _ _ _
              refine z_bret1 gi_151_11 gr_151 ?_
              show zW _ _ _ _ _ _ _ _ _ _
              refine z_if_neT gi_163_16 zr_1 (by decide) ?_
              refine z_iload2 gi_163_23 ?_
              refine z_pushJ gp_163_24 ?_
              refine z_icmp_ne gi_163_26 (by omega) zr_14 (fun h10 => ?_) (fun h10 => ?_)
              · refine z_aload0 gi_163_38 ?_
                refine z_getR (r := 76) gi_163_39 gk_50 (hRr _ rm_50_43 (by decide)) ?_
                refine z_iload1 gi_163_42 ?_
                refine z_iald (v := J 76 p) gi_163_43 gk_76 (by decide) (by omega) (rfl) ?_
                refine z_iret gi_163_44 gr_163 ?_
                refine ⟨?_, ?_⟩
                · first | rfl | exact congrArg (fun v => some (zi v)) (by omega) | (exfalso; omega)
                · exact hr
              · refine z_aload0 gi_163_29 ?_
                refine z_getR (r := 75) gi_163_30 gk_50 (hRr _ rm_50_42 (by decide)) ?_
                refine z_iload1 gi_163_33 ?_
                refine z_iald (v := J 75 p) gi_163_34 gk_75 (by decide) (by omega) (rfl) ?_
                refine z_goto gi_163_35 ?_
                refine z_iret gi_163_44 gr_163 ?_
                refine ⟨?_, ?_⟩
                · first | rfl | exact congrArg (fun v => some (zi v)) (by omega) | (exfalso; omega)
                · exact hr
    · refine z_aload0 gi_105_12 ?_
      refine z_getR (r := 8) gi_105_13 gk_0 (hR _ rm_0_1) ?_
      refine z_iload1 gi_105_16 ?_
      refine z_cV1 gi_105_17 gk_8 go_87 (Nat.le_of_ble_eq_true rfl) gc_87_RI ?_
      refine z_iload1 gi_87_0 ?_
      refine z_if_lt gi_87_1 (by omega) (fun h6 => ?_) (fun h6 => ?_)
      · refine z_pushJ gp_87_16 ?_
        refine z_bret0 gi_87_17 gr_87 ?_
        show zW _ _ _ _ _ _ _ _ _ _
        refine z_if_neF gi_105_20 zr_0 (by decide) ?_
        refine z_pushJ gp_105_23 ?_
        refine z_iret gi_105_24 gr_105 ?_
        refine ⟨_, rfl, ?_⟩
        show zW _ _ _ _ [some (.ref 50), some (zi p), some (zi w)] _ _ _ _ _
        refine z_iload2 gi_163_0 ?_
        refine z_pushJ gp_163_1 ?_
        refine z_pushJ gp_163_3 ?_
        refine z_cS3 gi_163_5 (Nat.le_of_ble_eq_true rfl) gc_148_III ?_
        refine z_iload0 gi_148_0 ?_
        refine z_iload1 gi_148_1 ?_
        refine z_icmp_lt gi_148_2 (by omega) zr_14 (fun h7 => ?_) (fun h7 => ?_)
        · refine z_pushJ gp_148_14 ?_
          refine z_bret0 gi_148_15 gr_148 ?_
          show zW _ _ _ _ _ _ _ _ _ _
          refine z_if_eqT gi_163_8 zr_0 (by decide) ?_
          refine z_aload0 gi_163_45 ?_
          refine z_iload1 gi_163_46 ?_
          refine z_iload2 gi_163_47 ?_
          refine z_callVP (As := [_, _]) (v := 0) gi_163_48 rfl gk_50 (Nat.le_of_ble_eq_true rfl) (Nat.le_of_ble_eq_true rfl) (isOne_0 hRr y2.symm yn hp hw hV) ?_
          refine z_if_eqT gi_163_51 zr_0 (by decide) ?_
          refine z_pushJ gp_163_63 ?_
          refine z_iret gi_163_64 gr_163 ?_
          refine ⟨?_, ?_⟩
          · first | rfl | exact congrArg (fun v => some (zi v)) (by omega) | (exfalso; omega)
          · exact hr
        · refine z_iload0 gi_148_5 ?_
          refine z_iload2 gi_148_6 ?_
          refine z_icmp_gt gi_148_7 (by omega) zr_15 (fun h8 => ?_) (fun h8 => ?_)
          · refine z_pushJ gp_148_14 ?_
            refine z_bret0 gi_148_15 gr_148 ?_
            show zW _ _ _ _ _ _ _ _ _ _
            refine z_if_eqT gi_163_8 zr_0 (by decide) ?_
            refine z_aload0 gi_163_45 ?_
            refine z_iload1 gi_163_46 ?_
            refine z_iload2 gi_163_47 ?_
            refine z_callVP (As := [_, _]) (v := 0) gi_163_48 rfl gk_50 (Nat.le_of_ble_eq_true rfl) (Nat.le_of_ble_eq_true rfl) (isOne_0 hRr y2.symm yn hp hw hV) ?_
            refine z_if_eqT gi_163_51 zr_0 (by decide) ?_
            refine z_pushJ gp_163_63 ?_
            refine z_iret gi_163_64 gr_163 ?_
            refine ⟨?_, ?_⟩
            · first | rfl | exact congrArg (fun v => some (zi v)) (by omega) | (exfalso; omega)
            · exact hr
          · refine z_pushJ gp_148_10 ?_
            refine z_goto gi_148_11 ?_
            refine z_bret1 gi_148_15 gr_148 ?_
            show zW _ _ _ _ _ _ _ _ _ _
            refine z_if_eqF gi_163_8 zr_1 (by decide) ?_
            refine z_aload0 gi_163_11 ?_
            refine z_iload1 gi_163_12 ?_
            refine z_cV1 gi_163_13 gk_50 go_151 (Nat.le_of_ble_eq_true rfl) gc_151_RI ?_
            refine z_iload1 gi_151_0 ?_
            refine z_pushJ gp_151_1 ?_
            refine z_aload0 gi_151_2 ?_
            refine z_getI (v := J 50 1) gi_151_3 gk_50 (rfl) ?_
            refine z_pushJ gp_151_6 ?_
            refine z_isub (e := (J 50 1) - 1) gi_151_7 rfl ?_
            refine z_cS3 gi_151_8 (Nat.le_of_ble_eq_true rfl) gc_148_III ?_
            refine z_iload0 gi_148_0 ?_
            refine z_iload1 gi_148_1 ?_
            refine z_icmp_lt gi_148_2 (by omega) zr_0 (fun h9 => ?_) (fun h9 => ?_)
            · refine z_pushJ gp_148_14 ?_
              refine z_bret0 gi_148_15 gr_148 ?_
              show zW _ _ _ _ _ _ _ _ _ _
              refine z_bret0 gi_151_11 gr_151 ?_
              show zW _ _ _ _ _ _ _ _ _ _
              refine z_if_neF gi_163_16 zr_0 (by decide) ?_
              refine z_pushJ gp_163_19 ?_
              refine z_goto gi_163_20 ?_
              refine z_iret gi_163_44 gr_163 ?_
              refine ⟨?_, ?_⟩
              · first | rfl | exact congrArg (fun v => some (zi v)) (by omega) | (exfalso; omega)
              · exact hr
            · refine z_iload0 gi_148_5 ?_
              refine z_iload2 gi_148_6 ?_
              refine z_icmp_gt gi_148_7 (by omega) (by omega) (fun h10 => ?_) (fun h10 => ?_)
              · refine z_pushJ gp_148_14 ?_
                refine z_bret0 gi_148_15 gr_148 ?_
                show zW _ _ _ _ _ _ _ _ _ _
                refine z_bret0 gi_151_11 gr_151 ?_
                show zW _ _ _ _ _ _ _ _ _ _
                refine z_if_neF gi_163_16 zr_0 (by decide) ?_
                refine z_pushJ gp_163_19 ?_
                refine z_goto gi_163_20 ?_
                refine z_iret gi_163_44 gr_163 ?_
                refine ⟨?_, ?_⟩
                · first | rfl | exact congrArg (fun v => some (zi v)) (by omega) | (exfalso; omega)
                · exact hr
              · refine z_pushJ gp_148_10 ?_
                refine z_goto gi_148_11 ?_
                refine z_bret1 gi_148_15 gr_148 ?_
                show zW _ _ _ _ _ _ _ _ _ _
                refine z_bret1 gi_151_11 gr_151 ?_
                show zW _ _ _ _ _ _ _ _ _ _
                refine z_if_neT gi_163_16 zr_1 (by decide) ?_
                refine z_iload2 gi_163_23 ?_
                refine z_pushJ gp_163_24 ?_
                refine z_icmp_ne gi_163_26 (by omega) zr_14 (fun h11 => ?_) (fun h11 => ?_)
                · refine z_aload0 gi_163_38 ?_
                  refine z_getR (r := 76) gi_163_39 gk_50 (hRr _ rm_50_43 (by decide)) ?_
                  refine z_iload1 gi_163_42 ?_
                  refine z_iald (v := J 76 p) gi_163_43 gk_76 (by decide) (by omega) (rfl) ?_
                  refine z_iret gi_163_44 gr_163 ?_
                  refine ⟨?_, ?_⟩
                  · first | rfl | exact congrArg (fun v => some (zi v)) (by omega) | (exfalso; omega)
                  · exact hr
                · refine z_aload0 gi_163_29 ?_
                  refine z_getR (r := 75) gi_163_30 gk_50 (hRr _ rm_50_42 (by decide)) ?_
                  refine z_iload1 gi_163_33 ?_
                  refine z_iald (v := J 75 p) gi_163_34 gk_75 (by decide) (by omega) (rfl) ?_
                  refine z_goto gi_163_35 ?_
                  refine z_iret gi_163_44 gr_163 ?_
                  refine ⟨?_, ?_⟩
                  · first | rfl | exact congrArg (fun v => some (zi v)) (by omega) | (exfalso; omega)
                  · exact hr
      · refine z_iload1 gi_87_4 ?_
        refine z_aload0 gi_87_5 ?_
        refine z_getI (v := J 8 2) gi_87_6 gk_8 (rfl) ?_
        refine z_icmp_ge gi_87_9 (by omega) (by omega) (fun h7 => ?_) (fun h7 => ?_)
        · refine z_pushJ gp_87_16 ?_
          refine z_bret0 gi_87_17 gr_87 ?_
          show zW _ _ _ _ _ _ _ _ _ _
          refine z_if_neF gi_105_20 zr_0 (by decide) ?_
          refine z_pushJ gp_105_23 ?_
          refine z_iret gi_105_24 gr_105 ?_
          refine ⟨_, rfl, ?_⟩
          show zW _ _ _ _ [some (.ref 50), some (zi p), some (zi w)] _ _ _ _ _
          refine z_iload2 gi_163_0 ?_
          refine z_pushJ gp_163_1 ?_
          refine z_pushJ gp_163_3 ?_
          refine z_cS3 gi_163_5 (Nat.le_of_ble_eq_true rfl) gc_148_III ?_
          refine z_iload0 gi_148_0 ?_
          refine z_iload1 gi_148_1 ?_
          refine z_icmp_lt gi_148_2 (by omega) zr_14 (fun h8 => ?_) (fun h8 => ?_)
          · refine z_pushJ gp_148_14 ?_
            refine z_bret0 gi_148_15 gr_148 ?_
            show zW _ _ _ _ _ _ _ _ _ _
            refine z_if_eqT gi_163_8 zr_0 (by decide) ?_
            refine z_aload0 gi_163_45 ?_
            refine z_iload1 gi_163_46 ?_
            refine z_iload2 gi_163_47 ?_
            refine z_callVP (As := [_, _]) (v := 0) gi_163_48 rfl gk_50 (Nat.le_of_ble_eq_true rfl) (Nat.le_of_ble_eq_true rfl) (isOne_0 hRr y2.symm yn hp hw hV) ?_
            refine z_if_eqT gi_163_51 zr_0 (by decide) ?_
            refine z_pushJ gp_163_63 ?_
            refine z_iret gi_163_64 gr_163 ?_
            refine ⟨?_, ?_⟩
            · first | rfl | exact congrArg (fun v => some (zi v)) (by omega) | (exfalso; omega)
            · exact hr
          · refine z_iload0 gi_148_5 ?_
            refine z_iload2 gi_148_6 ?_
            refine z_icmp_gt gi_148_7 (by omega) zr_15 (fun h9 => ?_) (fun h9 => ?_)
            · refine z_pushJ gp_148_14 ?_
              refine z_bret0 gi_148_15 gr_148 ?_
              show zW _ _ _ _ _ _ _ _ _ _
              refine z_if_eqT gi_163_8 zr_0 (by decide) ?_
              refine z_aload0 gi_163_45 ?_
              refine z_iload1 gi_163_46 ?_
              refine z_iload2 gi_163_47 ?_
              refine z_callVP (As := [_, _]) (v := 0) gi_163_48 rfl gk_50 (Nat.le_of_ble_eq_true rfl) (Nat.le_of_ble_eq_true rfl) (isOne_0 hRr y2.symm yn hp hw hV) ?_
              refine z_if_eqT gi_163_51 zr_0 (by decide) ?_
              refine z_pushJ gp_163_63 ?_
              refine z_iret gi_163_64 gr_163 ?_
              refine ⟨?_, ?_⟩
              · first | rfl | exact congrArg (fun v => some (zi v)) (by omega) | (exfalso; omega)
              · exact hr
            · refine z_pushJ gp_148_10 ?_
              refine z_goto gi_148_11 ?_
              refine z_bret1 gi_148_15 gr_148 ?_
              show zW _ _ _ _ _ _ _ _ _ _
              refine z_if_eqF gi_163_8 zr_1 (by decide) ?_
              refine z_aload0 gi_163_11 ?_
              refine z_iload1 gi_163_12 ?_
              refine z_cV1 gi_163_13 gk_50 go_151 (Nat.le_of_ble_eq_true rfl) gc_151_RI ?_
              refine z_iload1 gi_151_0 ?_
              refine z_pushJ gp_151_1 ?_
              refine z_aload0 gi_151_2 ?_
              refine z_getI (v := J 50 1) gi_151_3 gk_50 (rfl) ?_
              refine z_pushJ gp_151_6 ?_
              refine z_isub (e := (J 50 1) - 1) gi_151_7 rfl ?_
              refine z_cS3 gi_151_8 (Nat.le_of_ble_eq_true rfl) gc_148_III ?_
              refine z_iload0 gi_148_0 ?_
              refine z_iload1 gi_148_1 ?_
              refine z_icmp_lt gi_148_2 (by omega) zr_0 (fun h10 => ?_) (fun h10 => ?_)
              · refine z_pushJ gp_148_14 ?_
                refine z_bret0 gi_148_15 gr_148 ?_
                show zW _ _ _ _ _ _ _ _ _ _
                refine z_bret0 gi_151_11 gr_151 ?_
                show zW _ _ _ _ _ _ _ _ _ _
                refine z_if_neF gi_163_16 zr_0 (by decide) ?_
                refine z_pushJ gp_163_19 ?_
                refine z_goto gi_163_20 ?_
                refine z_iret gi_163_44 gr_163 ?_
                refine ⟨?_, ?_⟩
                · first | rfl | exact congrArg (fun v => some (zi v)) (by omega) | (exfalso; omega)
                · exact hr
              · refine z_iload0 gi_148_5 ?_
                refine z_iload2 gi_148_6 ?_
                refine z_icmp_gt gi_148_7 (by omega) (by omega) (fun h11 => ?_) (fun h11 => ?_)
                · refine z_pushJ gp_148_14 ?_
                  refine z_bret0 gi_148_15 gr_148 ?_
                  show zW _ _ _ _ _ _ _ _ _ _
                  refine z_bret0 gi_151_11 gr_151 ?_
                  show zW _ _ _ _ _ _ _ _ _ _
                  refine z_if_neF gi_163_16 zr_0 (by decide) ?_
                  refine z_pushJ gp_163_19 ?_
                  refine z_goto gi_163_20 ?_
                  refine z_iret gi_163_44 gr_163 ?_
                  refine ⟨?_, ?_⟩
                  · first | rfl | exact congrArg (fun v => some (zi v)) (by omega) | (exfalso; omega)
                  · exact hr
                · refine z_pushJ gp_148_10 ?_
                  refine z_goto gi_148_11 ?_
                  refine z_bret1 gi_148_15 gr_148 ?_
                  show zW _ _ _ _ _ _ _ _ _ _
                  refine z_bret1 gi_151_11 gr_151 ?_
                  show zW _ _ _ _ _ _ _ _ _ _
                  refine z_if_neT gi_163_16 zr_1 (by decide) ?_
                  refine z_iload2 gi_163_23 ?_
                  refine z_pushJ gp_163_24 ?_
                  refine z_icmp_ne gi_163_26 (by omega) zr_14 (fun h12 => ?_) (fun h12 => ?_)
                  · refine z_aload0 gi_163_38 ?_
                    refine z_getR (r := 76) gi_163_39 gk_50 (hRr _ rm_50_43 (by decide)) ?_
                    refine z_iload1 gi_163_42 ?_
                    refine z_iald (v := J 76 p) gi_163_43 gk_76 (by decide) (by omega) (rfl) ?_
                    refine z_iret gi_163_44 gr_163 ?_
                    refine ⟨?_, ?_⟩
                    · first | rfl | exact congrArg (fun v => some (zi v)) (by omega) | (exfalso; omega)
                    · exact hr
                  · refine z_aload0 gi_163_29 ?_
                    refine z_getR (r := 75) gi_163_30 gk_50 (hRr _ rm_50_42 (by decide)) ?_
                    refine z_iload1 gi_163_33 ?_
                    refine z_iald (v := J 75 p) gi_163_34 gk_75 (by decide) (by omega) (rfl) ?_
                    refine z_goto gi_163_35 ?_
                    refine z_iret gi_163_44 gr_163 ?_
                    refine ⟨?_, ?_⟩
                    · first | rfl | exact congrArg (fun v => some (zi v)) (by omega) | (exfalso; omega)
                    · exact hr
        · refine z_pushJ gp_87_12 ?_
          refine z_goto gi_87_13 ?_
          refine z_bret1 gi_87_17 gr_87 ?_
          show zW _ _ _ _ _ _ _ _ _ _
          refine z_if_neT gi_105_20 zr_1 (by decide) ?_
          refine z_iload2 gi_105_25 ?_
          refine z_pushJ gp_105_26 ?_
          refine z_icmp_ne gi_105_28 (by omega) zr_14 (fun h8 => ?_) (fun h8 => ?_)
          · refine z_aload0 gi_105_43 ?_
            refine z_getR (r := 23) gi_105_44 gk_0 (hR _ rm_0_6) ?_
            refine z_getR (r := 25) gi_105_47 gk_23 (hR _ rm_23_2) ?_
            refine z_iload1 gi_105_50 ?_
            refine z_iald (v := J 25 p) gi_105_51 gk_25 (by decide) (by omega) (rfl) ?_
            refine z_iret gi_105_52 gr_105 ?_
            refine ⟨_, rfl, ?_⟩
            show zW _ _ _ _ [some (.ref 50), some (zi p), some (zi w)] _ _ _ _ _
            refine z_iload2 gi_163_0 ?_
            refine z_pushJ gp_163_1 ?_
            refine z_pushJ gp_163_3 ?_
            refine z_cS3 gi_163_5 (Nat.le_of_ble_eq_true rfl) gc_148_III ?_
            refine z_iload0 gi_148_0 ?_
            refine z_iload1 gi_148_1 ?_
            refine z_icmp_lt gi_148_2 (by omega) zr_14 (fun h9 => ?_) (fun h9 => ?_)
            · refine z_pushJ gp_148_14 ?_
              refine z_bret0 gi_148_15 gr_148 ?_
              show zW _ _ _ _ _ _ _ _ _ _
              refine z_if_eqT gi_163_8 zr_0 (by decide) ?_
              refine z_aload0 gi_163_45 ?_
              refine z_iload1 gi_163_46 ?_
              refine z_iload2 gi_163_47 ?_
              refine z_callVP (As := [_, _]) (v := 0) gi_163_48 rfl gk_50 (Nat.le_of_ble_eq_true rfl) (Nat.le_of_ble_eq_true rfl) (isOne_0 hRr y2.symm yn hp hw hV) ?_
              refine z_if_eqT gi_163_51 zr_0 (by decide) ?_
              refine z_pushJ gp_163_63 ?_
              refine z_iret gi_163_64 gr_163 ?_
              refine ⟨?_, ?_⟩
              · first | rfl | exact congrArg (fun v => some (zi v)) (by omega) | (exfalso; omega)
              · exact hr
            · refine z_iload0 gi_148_5 ?_
              refine z_iload2 gi_148_6 ?_
              refine z_icmp_gt gi_148_7 (by omega) zr_15 (fun h10 => ?_) (fun h10 => ?_)
              · refine z_pushJ gp_148_14 ?_
                refine z_bret0 gi_148_15 gr_148 ?_
                show zW _ _ _ _ _ _ _ _ _ _
                refine z_if_eqT gi_163_8 zr_0 (by decide) ?_
                refine z_aload0 gi_163_45 ?_
                refine z_iload1 gi_163_46 ?_
                refine z_iload2 gi_163_47 ?_
                refine z_callVP (As := [_, _]) (v := 0) gi_163_48 rfl gk_50 (Nat.le_of_ble_eq_true rfl) (Nat.le_of_ble_eq_true rfl) (isOne_0 hRr y2.symm yn hp hw hV) ?_
                refine z_if_eqT gi_163_51 zr_0 (by decide) ?_
                refine z_pushJ gp_163_63 ?_
                refine z_iret gi_163_64 gr_163 ?_
                refine ⟨?_, ?_⟩
                · first | rfl | exact congrArg (fun v => some (zi v)) (by omega) | (exfalso; omega)
                · exact hr
              · refine z_pushJ gp_148_10 ?_
                refine z_goto gi_148_11 ?_
                refine z_bret1 gi_148_15 gr_148 ?_
                show zW _ _ _ _ _ _ _ _ _ _
                refine z_if_eqF gi_163_8 zr_1 (by decide) ?_
                refine z_aload0 gi_163_11 ?_
                refine z_iload1 gi_163_12 ?_
                refine z_cV1 gi_163_13 gk_50 go_151 (Nat.le_of_ble_eq_true rfl) gc_151_RI ?_
                refine z_iload1 gi_151_0 ?_
                refine z_pushJ gp_151_1 ?_
                refine z_aload0 gi_151_2 ?_
                refine z_getI (v := J 50 1) gi_151_3 gk_50 (rfl) ?_
                refine z_pushJ gp_151_6 ?_
                refine z_isub (e := (J 50 1) - 1) gi_151_7 rfl ?_
                refine z_cS3 gi_151_8 (Nat.le_of_ble_eq_true rfl) gc_148_III ?_
                refine z_iload0 gi_148_0 ?_
                refine z_iload1 gi_148_1 ?_
                refine z_icmp_lt gi_148_2 (by omega) zr_0 (fun h11 => ?_) (fun h11 => ?_)
                · refine z_pushJ gp_148_14 ?_
                  refine z_bret0 gi_148_15 gr_148 ?_
                  show zW _ _ _ _ _ _ _ _ _ _
                  refine z_bret0 gi_151_11 gr_151 ?_
                  show zW _ _ _ _ _ _ _ _ _ _
                  refine z_if_neF gi_163_16 zr_0 (by decide) ?_
                  refine z_pushJ gp_163_19 ?_
                  refine z_goto gi_163_20 ?_
                  refine z_iret gi_163_44 gr_163 ?_
                  refine ⟨?_, ?_⟩
                  · first | rfl | exact congrArg (fun v => some (zi v)) (by omega) | (exfalso; omega)
                  · exact hr
                · refine z_iload0 gi_148_5 ?_
                  refine z_iload2 gi_148_6 ?_
                  refine z_icmp_gt gi_148_7 (by omega) (by omega) (fun h12 => ?_) (fun h12 => ?_)
                  · refine z_pushJ gp_148_14 ?_
                    refine z_bret0 gi_148_15 gr_148 ?_
                    show zW _ _ _ _ _ _ _ _ _ _
                    refine z_bret0 gi_151_11 gr_151 ?_
                    show zW _ _ _ _ _ _ _ _ _ _
                    refine z_if_neF gi_163_16 zr_0 (by decide) ?_
                    refine z_pushJ gp_163_19 ?_
                    refine z_goto gi_163_20 ?_
                    refine z_iret gi_163_44 gr_163 ?_
                    refine ⟨?_, ?_⟩
                    · first | rfl | exact congrArg (fun v => some (zi v)) (by omega) | (exfalso; omega)
                    · exact hr
                  · refine z_pushJ gp_148_10 ?_
                    refine z_goto gi_148_11 ?_
                    refine z_bret1 gi_148_15 gr_148 ?_
                    show zW _ _ _ _ _ _ _ _ _ _
                    refine z_bret1 gi_151_11 gr_151 ?_
                    show zW _ _ _ _ _ _ _ _ _ _
                    refine z_if_neT gi_163_16 zr_1 (by decide) ?_
                    refine z_iload2 gi_163_23 ?_
                    refine z_pushJ gp_163_24 ?_
                    refine z_icmp_ne gi_163_26 (by omega) zr_14 (fun h13 => ?_) (fun h13 => ?_)
                    · refine z_aload0 gi_163_38 ?_
                      refine z_getR (r := 76) gi_163_39 gk_50 (hRr _ rm_50_43 (by decide)) ?_
                      refine z_iload1 gi_163_42 ?_
                      refine z_iald (v := J 76 p) gi_163_43 gk_76 (by decide) (by omega) (rfl) ?_
                      refine z_iret gi_163_44 gr_163 ?_
                      refine ⟨?_, ?_⟩
                      · first | rfl | exact congrArg (fun v => some (zi v)) (by omega) | (exfalso; omega)
                      · exact hr
                    · refine z_aload0 gi_163_29 ?_
                      refine z_getR (r := 75) gi_163_30 gk_50 (hRr _ rm_50_42 (by decide)) ?_
                      refine z_iload1 gi_163_33 ?_
                      refine z_iald (v := J 75 p) gi_163_34 gk_75 (by decide) (by omega) (rfl) ?_
                      refine z_goto gi_163_35 ?_
                      refine z_iret gi_163_44 gr_163 ?_
                      refine ⟨?_, ?_⟩
                      · first | rfl | exact congrArg (fun v => some (zi v)) (by omega) | (exfalso; omega)
                      · exact hr
          · refine z_aload0 gi_105_31 ?_
            refine z_getR (r := 23) gi_105_32 gk_0 (hR _ rm_0_6) ?_
            refine z_getR (r := 24) gi_105_35 gk_23 (hR _ rm_23_1) ?_
            refine z_iload1 gi_105_38 ?_
            refine z_iald (v := J 24 p) gi_105_39 gk_24 (by decide) (by omega) (rfl) ?_
            refine z_goto gi_105_40 ?_
            refine z_iret gi_105_52 gr_105 ?_
            refine ⟨_, rfl, ?_⟩
            show zW _ _ _ _ [some (.ref 50), some (zi p), some (zi w)] _ _ _ _ _
            refine z_iload2 gi_163_0 ?_
            refine z_pushJ gp_163_1 ?_
            refine z_pushJ gp_163_3 ?_
            refine z_cS3 gi_163_5 (Nat.le_of_ble_eq_true rfl) gc_148_III ?_
            refine z_iload0 gi_148_0 ?_
            refine z_iload1 gi_148_1 ?_
            refine z_icmp_lt gi_148_2 (by omega) zr_14 (fun h9 => ?_) (fun h9 => ?_)
            · refine z_pushJ gp_148_14 ?_
              refine z_bret0 gi_148_15 gr_148 ?_
              show zW _ _ _ _ _ _ _ _ _ _
              refine z_if_eqT gi_163_8 zr_0 (by decide) ?_
              refine z_aload0 gi_163_45 ?_
              refine z_iload1 gi_163_46 ?_
              refine z_iload2 gi_163_47 ?_
              refine z_callVP (As := [_, _]) (v := 0) gi_163_48 rfl gk_50 (Nat.le_of_ble_eq_true rfl) (Nat.le_of_ble_eq_true rfl) (isOne_0 hRr y2.symm yn hp hw hV) ?_
              refine z_if_eqT gi_163_51 zr_0 (by decide) ?_
              refine z_pushJ gp_163_63 ?_
              refine z_iret gi_163_64 gr_163 ?_
              refine ⟨?_, ?_⟩
              · first | rfl | exact congrArg (fun v => some (zi v)) (by omega) | (exfalso; omega)
              · exact hr
            · refine z_iload0 gi_148_5 ?_
              refine z_iload2 gi_148_6 ?_
              refine z_icmp_gt gi_148_7 (by omega) zr_15 (fun h10 => ?_) (fun h10 => ?_)
              · refine z_pushJ gp_148_14 ?_
                refine z_bret0 gi_148_15 gr_148 ?_
                show zW _ _ _ _ _ _ _ _ _ _
                refine z_if_eqT gi_163_8 zr_0 (by decide) ?_
                refine z_aload0 gi_163_45 ?_
                refine z_iload1 gi_163_46 ?_
                refine z_iload2 gi_163_47 ?_
                refine z_callVP (As := [_, _]) (v := 0) gi_163_48 rfl gk_50 (Nat.le_of_ble_eq_true rfl) (Nat.le_of_ble_eq_true rfl) (isOne_0 hRr y2.symm yn hp hw hV) ?_
                refine z_if_eqT gi_163_51 zr_0 (by decide) ?_
                refine z_pushJ gp_163_63 ?_
                refine z_iret gi_163_64 gr_163 ?_
                refine ⟨?_, ?_⟩
                · first | rfl | exact congrArg (fun v => some (zi v)) (by omega) | (exfalso; omega)
                · exact hr
              · refine z_pushJ gp_148_10 ?_
                refine z_goto gi_148_11 ?_
                refine z_bret1 gi_148_15 gr_148 ?_
                show zW _ _ _ _ _ _ _ _ _ _
                refine z_if_eqF gi_163_8 zr_1 (by decide) ?_
                refine z_aload0 gi_163_11 ?_
                refine z_iload1 gi_163_12 ?_
                refine z_cV1 gi_163_13 gk_50 go_151 (Nat.le_of_ble_eq_true rfl) gc_151_RI ?_
                refine z_iload1 gi_151_0 ?_
                refine z_pushJ gp_151_1 ?_
                refine z_aload0 gi_151_2 ?_
                refine z_getI (v := J 50 1) gi_151_3 gk_50 (rfl) ?_
                refine z_pushJ gp_151_6 ?_
                refine z_isub (e := (J 50 1) - 1) gi_151_7 rfl ?_
                refine z_cS3 gi_151_8 (Nat.le_of_ble_eq_true rfl) gc_148_III ?_
                refine z_iload0 gi_148_0 ?_
                refine z_iload1 gi_148_1 ?_
                refine z_icmp_lt gi_148_2 (by omega) zr_0 (fun h11 => ?_) (fun h11 => ?_)
                · refine z_pushJ gp_148_14 ?_
                  refine z_bret0 gi_148_15 gr_148 ?_
                  show zW _ _ _ _ _ _ _ _ _ _
                  refine z_bret0 gi_151_11 gr_151 ?_
                  show zW _ _ _ _ _ _ _ _ _ _
                  refine z_if_neF gi_163_16 zr_0 (by decide) ?_
                  refine z_pushJ gp_163_19 ?_
                  refine z_goto gi_163_20 ?_
                  refine z_iret gi_163_44 gr_163 ?_
                  refine ⟨?_, ?_⟩
                  · first | rfl | exact congrArg (fun v => some (zi v)) (by omega) | (exfalso; omega)
                  · exact hr
                · refine z_iload0 gi_148_5 ?_
                  refine z_iload2 gi_148_6 ?_
                  refine z_icmp_gt gi_148_7 (by omega) (by omega) (fun h12 => ?_) (fun h12 => ?_)
                  · refine z_pushJ gp_148_14 ?_
                    refine z_bret0 gi_148_15 gr_148 ?_
                    show zW _ _ _ _ _ _ _ _ _ _
                    refine z_bret0 gi_151_11 gr_151 ?_
                    show zW _ _ _ _ _ _ _ _ _ _
                    refine z_if_neF gi_163_16 zr_0 (by decide) ?_
                    refine z_pushJ gp_163_19 ?_
                    refine z_goto gi_163_20 ?_
                    refine z_iret gi_163_44 gr_163 ?_
                    refine ⟨?_, ?_⟩
                    · first | rfl | exact congrArg (fun v => some (zi v)) (by omega) | (exfalso; omega)
                    · exact hr
                  · refine z_pushJ gp_148_10 ?_
                    refine z_goto gi_148_11 ?_
                    refine z_bret1 gi_148_15 gr_148 ?_
                    show zW _ _ _ _ _ _ _ _ _ _
                    refine z_bret1 gi_151_11 gr_151 ?_
                    show zW _ _ _ _ _ _ _ _ _ _
                    refine z_if_neT gi_163_16 zr_1 (by decide) ?_
                    refine z_iload2 gi_163_23 ?_
                    refine z_pushJ gp_163_24 ?_
                    refine z_icmp_ne gi_163_26 (by omega) zr_14 (fun h13 => ?_) (fun h13 => ?_)
                    · refine z_aload0 gi_163_38 ?_
                      refine z_getR (r := 76) gi_163_39 gk_50 (hRr _ rm_50_43 (by decide)) ?_
                      refine z_iload1 gi_163_42 ?_
                      refine z_iald (v := J 76 p) gi_163_43 gk_76 (by decide) (by omega) (rfl) ?_
                      refine z_iret gi_163_44 gr_163 ?_
                      refine ⟨?_, ?_⟩
                      · first | rfl | exact congrArg (fun v => some (zi v)) (by omega) | (exfalso; omega)
                      · exact hr
                    · refine z_aload0 gi_163_29 ?_
                      refine z_getR (r := 75) gi_163_30 gk_50 (hRr _ rm_50_42 (by decide)) ?_
                      refine z_iload1 gi_163_33 ?_
                      refine z_iald (v := J 75 p) gi_163_34 gk_75 (by decide) (by omega) (rfl) ?_
                      refine z_goto gi_163_35 ?_
                      refine z_iret gi_163_44 gr_163 ?_
                      refine ⟨?_, ?_⟩
                      · first | rfl | exact congrArg (fun v => some (zi v)) (by omega) | (exfalso; omega)
                      · exact hr
theorem st_of {X : Nat × (Nat → Int32)} {d : Nat} {J M : zA} {R : zR} {p w : Int} (hr : Rel X J M R) (hp : -2147483648 ≤ p ∧ p < 2147483648) (hw : -2147483648 ≤ w ∧ w < 2147483648) : zW X (d + 20) 105 0 (gEn 105 [.ref 0, zi p, zi w]) [] J M R (stP X (d + 20) 163 [zi p, zi w]) := by
  by_cases hs : w = 14 ∨ w = 15
  · exact st_of_s hr hp hw hs
  · by_cases hV : zV (J 8 2) p w
    · exact st_of_1 hr hp hw hs hV
    · exact st_of_0 hr hp hw hs hV
theorem st_mend_nv {X : Nat × (Nat → Int32)} {d : Nat} {J M : zA} {R : zR} {p w v : Int} (hr : Rel X J M R) (hp : -2147483648 ≤ p ∧ p < 2147483648) (hw : -2147483648 ≤ w ∧ w < 2147483648) (hv : -2147483648 ≤ v ∧ v < 2147483648) (hV : ¬ zV (J 8 2) p w) : zW X (d + 20) 104 0 (gEn 104 [(.ref 0), (zi p), (zi w), (zi v)]) [] J M R (stP X (d + 20) 162 [(zi p), (zi w), (zi v)]) := by
  have hr0 := hr
  obtain ⟨hR, hG, hY, hD, hP, hC, hAc, hS, hTp, hX, hW⟩ := hr0
  have hRr : zRoR R := zRoR_of hR
  have hY0 := hY
  obtain ⟨y1, y2, y3⟩ := hY0
  have yn := zNn y3
  have hC0 := hC
  obtain ⟨c1, c2, c3, c4, c5, c6⟩ := hC0
  show zW _ _ _ _ [some (.ref 0), some (zi p), some (zi w), some (zi v), none] _ _ _ _ _
  refine z_aload0 gi_104_0 ?_
  refine z_getR (r := 8) gi_104_1 gk_0 (hR _ rm_0_1) ?_
  refine z_iload1 gi_104_4 ?_
  refine z_iload2 gi_104_5 ?_
  refine z_callVP (As := [_, _]) (v := 0) gi_104_6 rfl gk_8 (Nat.le_of_ble_eq_true rfl) (Nat.le_of_ble_eq_true rfl) (isNumber_0 hR rfl yn hp hw hV) ?_
  refine z_if_eqT gi_104_9 zr_0 (by decide) ?_
  refine z_pushJ gp_104_20 ?_
  refine z_iret gi_104_21 gr_104 ?_
  refine ⟨_, rfl, ?_⟩
  show zW _ _ _ _ [some (.ref 50), some (zi p), some (zi w), some (zi v)] _ _ _ _ _
  refine z_aload0 gi_162_0 ?_
  refine z_iload1 gi_162_1 ?_
  refine z_iload2 gi_162_2 ?_
  refine z_callVP (As := [_, _]) (v := 0) gi_162_3 rfl gk_50 (Nat.le_of_ble_eq_true rfl) (Nat.le_of_ble_eq_true rfl) (isOne_0 hRr y2.symm yn hp hw hV) ?_
  refine z_if_eqT gi_162_6 zr_0 (by decide) ?_
  refine z_pushJ gp_162_27 ?_
  refine z_iret gi_162_28 gr_162 ?_
  refine ⟨?_, ?_⟩
  · first | rfl | exact congrArg (fun v => some (zi v)) (by omega) | (exfalso; omega)
  · exact hr
theorem st_mend_nf {X : Nat × (Nat → Int32)} {d : Nat} {J M : zA} {R : zR} {p w v : Int} (hr : Rel X J M R) (hp : -2147483648 ≤ p ∧ p < 2147483648) (hw : -2147483648 ≤ w ∧ w < 2147483648) (hv : -2147483648 ≤ v ∧ v < 2147483648) (hV : zV (J 8 2) p w) (hf : ¬ (zT 2 w ≤ v ∧ v ≤ zT 3 w)) : zW X (d + 20) 104 0 (gEn 104 [(.ref 0), (zi p), (zi w), (zi v)]) [] J M R (stP X (d + 20) 162 [(zi p), (zi w), (zi v)]) := by
  have hr0 := hr
  obtain ⟨hR, hG, hY, hD, hP, hC, hAc, hS, hTp, hX, hW⟩ := hr0
  have hRr : zRoR R := zRoR_of hR
  have hY0 := hY
  obtain ⟨y1, y2, y3⟩ := hY0
  have yn := zNn y3
  have hC0 := hC
  obtain ⟨c1, c2, c3, c4, c5, c6⟩ := hC0
  show zW _ _ _ _ [some (.ref 0), some (zi p), some (zi w), some (zi v), none] _ _ _ _ _
  refine z_aload0 gi_104_0 ?_
  refine z_getR (r := 8) gi_104_1 gk_0 (hR _ rm_0_1) ?_
  refine z_iload1 gi_104_4 ?_
  refine z_iload2 gi_104_5 ?_
  refine z_callVP (As := [_, _]) (v := 1) gi_104_6 rfl gk_8 (Nat.le_of_ble_eq_true rfl) (Nat.le_of_ble_eq_true rfl) (isNumber_1 hR rfl yn hp hw hV) ?_
  refine z_if_eqF gi_104_9 zr_1 (by decide) ?_
  refine z_iload2 gi_104_12 ?_
  refine z_iload3 gi_104_13 ?_
  refine z_callSP (As := [_, _]) (v := 0) gi_104_14 rfl (Nat.le_of_ble_eq_true rfl) (Nat.le_of_ble_eq_true rfl) (isFit_0 hv hw (by omega) hf) ?_
  refine z_if_neF gi_104_17 zr_0 (by decide) ?_
  refine z_pushJ gp_104_20 ?_
  refine z_iret gi_104_21 gr_104 ?_
  refine ⟨_, rfl, ?_⟩
  show zW _ _ _ _ [some (.ref 50), some (zi p), some (zi w), some (zi v)] _ _ _ _ _
  refine z_aload0 gi_162_0 ?_
  refine z_iload1 gi_162_1 ?_
  refine z_iload2 gi_162_2 ?_
  refine z_callVP (As := [_, _]) (v := 1) gi_162_3 rfl gk_50 (Nat.le_of_ble_eq_true rfl) (Nat.le_of_ble_eq_true rfl) (isOne_1 hRr y2.symm yn hp hw hV) ?_
  refine z_if_eqF gi_162_6 zr_1 (by decide) ?_
  refine z_iload2 gi_162_9 ?_
  refine z_iload3 gi_162_10 ?_
  refine z_callSP (As := [_, _]) (v := 0) gi_162_11 rfl (Nat.le_of_ble_eq_true rfl) (Nat.le_of_ble_eq_true rfl) (mayBe_0 hv hw (by omega) hf) ?_
  refine z_if_eqT gi_162_14 zr_0 (by decide) ?_
  refine z_pushJ gp_162_27 ?_
  refine z_iret gi_162_28 gr_162 ?_
  refine ⟨?_, ?_⟩
  · first | rfl | exact congrArg (fun v => some (zi v)) (by omega) | (exfalso; omega)
  · exact hr
theorem zN_r {n : Int} {N : Int → Int → Int} (h : zNr n N) {p w : Int} (hV : zV n p w) : 0 ≤ N p w ∧ N p w ≤ 9999 := by
  have e : (0 ≤ w ∧ w < 14) ∧ (5 ≤ w → p = 0) := by unfold zV at hV; omega
  rcases w14 e.1 with rfl | rfl | rfl | rfl | rfl | rfl | rfl | rfl | rfl | rfl | rfl | rfl | rfl | rfl
  · have q := zN0 h p; omega
  · have q := zN1 h p; omega
  · have q := zN2 h p; omega
  · have q := zN3 h p; omega
  · have q := zN4 h p; omega
  · have q := zN5 h
    rw [e.2 (by omega)]
    omega
  · have q := zN6 h
    rw [e.2 (by omega)]
    omega
  · have q := zN7 h
    rw [e.2 (by omega)]
    omega
  · have q := zN8 h
    rw [e.2 (by omega)]
    omega
  · have q := zN9 h
    rw [e.2 (by omega)]
    omega
  · have q := zN10 h
    rw [e.2 (by omega)]
    omega
  · have q := zN11 h
    rw [e.2 (by omega)]
    omega
  · have q := zN12 h
    rw [e.2 (by omega)]
    omega
  · have q := zN13 h
    rw [e.2 (by omega)]
    omega
theorem zN_fit {n : Int} {N : Int → Int → Int} (h : zNr n N) {p w : Int} (hV : zV n p w) : zFit w (N p w) := by
  have e : (0 ≤ w ∧ w < 14) ∧ (5 ≤ w → p = 0) := by unfold zV at hV; omega
  rcases w14 e.1 with rfl | rfl | rfl | rfl | rfl | rfl | rfl | rfl | rfl | rfl | rfl | rfl | rfl | rfl
  · exact zN0 h p
  · exact zN1 h p
  · exact zN2 h p
  · exact zN3 h p
  · exact zN4 h p
  · rw [e.2 (by omega)]; exact zN5 h
  · rw [e.2 (by omega)]; exact zN6 h
  · rw [e.2 (by omega)]; exact zN7 h
  · rw [e.2 (by omega)]; exact zN8 h
  · rw [e.2 (by omega)]; exact zN9 h
  · rw [e.2 (by omega)]; exact zN10 h
  · rw [e.2 (by omega)]; exact zN11 h
  · rw [e.2 (by omega)]; exact zN12 h
  · rw [e.2 (by omega)]; exact zN13 h
theorem st_mend_eq {X : Nat × (Nat → Int32)} {d : Nat} {J M : zA} {R : zR} {p w v : Int} (hr : Rel X J M R) (hp : -2147483648 ≤ p ∧ p < 2147483648) (hw : -2147483648 ≤ w ∧ w < 2147483648) (hv : -2147483648 ≤ v ∧ v < 2147483648) (hV : zV (J 8 2) p w) (hf : zT 2 w ≤ v ∧ v ≤ zT 3 w) (he : (cN J) p w = v) : zW X (d + 20) 104 0 (gEn 104 [(.ref 0), (zi p), (zi w), (zi v)]) [] J M R (stP X (d + 20) 162 [(zi p), (zi w), (zi v)]) := by
  have hr0 := hr
  obtain ⟨hR, hG, hY, hD, hP, hC, hAc, hS, hTp, hX, hW⟩ := hr0
  have hRr : zRoR R := zRoR_of hR
  have hY0 := hY
  obtain ⟨y1, y2, y3⟩ := hY0
  have yn := zNn y3
  have hC0 := hC
  obtain ⟨c1, c2, c3, c4, c5, c6⟩ := hC0
  have nr := zN_r y3 hV
  show zW _ _ _ _ [some (.ref 0), some (zi p), some (zi w), some (zi v), none] _ _ _ _ _
  refine z_aload0 gi_104_0 ?_
  refine z_getR (r := 8) gi_104_1 gk_0 (hR _ rm_0_1) ?_
  refine z_iload1 gi_104_4 ?_
  refine z_iload2 gi_104_5 ?_
  refine z_callVP (As := [_, _]) (v := 1) gi_104_6 rfl gk_8 (Nat.le_of_ble_eq_true rfl) (Nat.le_of_ble_eq_true rfl) (isNumber_1 hR rfl yn hp hw hV) ?_
  refine z_if_eqF gi_104_9 zr_1 (by decide) ?_
  refine z_iload2 gi_104_12 ?_
  refine z_iload3 gi_104_13 ?_
  refine z_callSP (As := [_, _]) (v := 1) gi_104_14 rfl (Nat.le_of_ble_eq_true rfl) (Nat.le_of_ble_eq_true rfl) (isFit_1 hv hw (by omega) hf) ?_
  refine z_if_neT gi_104_17 zr_1 (by decide) ?_
  refine z_aload0 gi_104_22 ?_
  refine z_getR (r := 8) gi_104_23 gk_0 (hR _ rm_0_1) ?_
  refine z_iload1 gi_104_26 ?_
  refine z_iload2 gi_104_27 ?_
  refine z_callVP (As := [_, _]) (v := (cN J) p w) gi_104_28 rfl gk_8 (Nat.le_of_ble_eq_true rfl) (Nat.le_of_ble_eq_true rfl) (told_k hR zK_r rfl rfl y3 hp hw) ?_
  refine z_istore (ls1 := [some (.ref 0), some (zi p), some (zi w), some (zi v), some (zi ((cN J) p w))]) gi_104_31 rfl ?_
  refine z_iload4 gi_104_33 ?_
  refine z_iload3 gi_104_35 ?_
  refine z_icmp_eqT gi_104_36 (by omega) (by omega) (by omega) ?_
  refine z_iload4 gi_104_61 ?_
  refine z_iret gi_104_63 gr_104 ?_
  refine ⟨_, rfl, ?_⟩
  show zW _ _ _ _ [some (.ref 50), some (zi p), some (zi w), some (zi v)] _ _ _ _ _
  refine z_aload0 gi_162_0 ?_
  refine z_iload1 gi_162_1 ?_
  refine z_iload2 gi_162_2 ?_
  refine z_callVP (As := [_, _]) (v := 1) gi_162_3 rfl gk_50 (Nat.le_of_ble_eq_true rfl) (Nat.le_of_ble_eq_true rfl) (isOne_1 hRr y2.symm yn hp hw hV) ?_
  refine z_if_eqF gi_162_6 zr_1 (by decide) ?_
  refine z_iload2 gi_162_9 ?_
  refine z_iload3 gi_162_10 ?_
  refine z_callSP (As := [_, _]) (v := 1) gi_162_11 rfl (Nat.le_of_ble_eq_true rfl) (Nat.le_of_ble_eq_true rfl) (mayBe_1 hv hw (by omega) hf) ?_
  refine z_if_eqF gi_162_14 zr_1 (by decide) ?_
  refine z_aload0 gi_162_17 ?_
  refine z_iload2 gi_162_18 ?_
  refine z_iload1 gi_162_19 ?_
  refine z_iload3 gi_162_20 ?_
  refine z_callVi (As := [_, _, _]) (le := [some _, some _, some _, some _, none, none]) gi_162_21 rfl gk_50 (Nat.le_of_ble_eq_true rfl) (Nat.le_of_ble_eq_true rfl) rfl ?_
  refine z_aload0 gi_157_0 ?_
  refine z_iload1 gi_157_1 ?_
  refine z_iload2 gi_157_2 ?_
  refine z_callVP (As := [_, _]) (v := (cN J) p w) gi_157_3 rfl gk_50 (Nat.le_of_ble_eq_true rfl) (Nat.le_of_ble_eq_true rfl) (valueAt_s hRr y1.symm y2.symm y3 hp hw hV) ?_
  refine z_istore (ls1 := [some (.ref 50), some (zi w), some (zi p), some (zi v), some (zi ((cN J) p w)), none]) gi_157_6 rfl ?_
  refine z_iload4 gi_157_8 ?_
  refine z_iload3 gi_157_10 ?_
  refine z_icmp_neF gi_157_11 (by omega) (by omega) (by omega) ?_
  refine z_iload4 rfl ?_
  refine z_iret rfl gr_157 ?_
  show zW _ _ _ _ _ _ _ _ _ _
  refine z_goto gi_162_24 ?_
  refine z_iret gi_162_28 gr_162 ?_
  refine ⟨?_, ?_⟩
  · first | rfl | exact congrArg (fun v => some (zi v)) (by omega) | (exfalso; omega)
  · exact hr
