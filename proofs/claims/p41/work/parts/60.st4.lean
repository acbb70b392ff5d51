abbrev zV (n p w : Int) : Prop := (0 ≤ w ∧ w < 5 ∧ 0 ≤ p ∧ p < n) ∨ (5 ≤ w ∧ w < 14 ∧ p = 0)
theorem w14 {w : Int} (h : 0 ≤ w ∧ w < 14) : w = 0 ∨ w = 1 ∨ w = 2 ∨ w = 3 ∨ w = 4 ∨ w = 5 ∨ w = 6 ∨ w = 7 ∨ w = 8 ∨ w = 9 ∨ w = 10 ∨ w = 11 ∨ w = 12 ∨ w = 13 := by omega
theorem zT_2r {w : Int} (h : 0 ≤ w ∧ w < 14) : 0 ≤ zT 2 w ∧ zT 2 w ≤ 1 := by
  rcases w14 h with rfl | rfl | rfl | rfl | rfl | rfl | rfl | rfl | rfl | rfl | rfl | rfl | rfl | rfl <;> exact ⟨by decide, by decide⟩
theorem zT_3r {w : Int} (h : 0 ≤ w ∧ w < 14) : 0 ≤ zT 3 w ∧ zT 3 w ≤ 9999 := by
  rcases w14 h with rfl | rfl | rfl | rfl | rfl | rfl | rfl | rfl | rfl | rfl | rfl | rfl | rfl | rfl <;> exact ⟨by decide, by decide⟩
theorem zFit_at2 {w c lo hi : Int} (e1 : zT 2 c = lo) (e2 : zT 3 c = hi) (e : w = c) : zT 2 w = lo ∧ zT 3 w = hi := by subst e; exact ⟨e1, e2⟩
theorem zFit_d {w : Int} (h : w = 0 ∨ w = 1 ∨ w = 2 ∨ w = 5) : zT 2 w = 0 ∧ zT 3 w = 99 := by
  rcases h with rfl | rfl | rfl | rfl <;> exact ⟨rfl, rfl⟩
theorem isNumber_1 {X : Nat × (Nat → Int32)} {d : Nat} {J M : zA} {R : zR} {n p w : Int} (hR : zRok R) (hz : J 8 2 = n) (hn : 0 ≤ n ∧ n ≤ 8) (hp : -2147483648 ≤ p ∧ p < 2147483648) (hw : -2147483648 ≤ w ∧ w < 2147483648) (hV : zV n p w) : zW X (d + 3) 88 0 (gEn 88 [(.ref 8), (zi p), (zi w)]) [] J M R (zPu (1) J M R) := by
  show zW _ _ _ _ [some (.ref 8), some (zi p), some (zi w)] _ _ _ _ _
  refine z_aload0 gi_88_0 ?_
  refine z_iload1 gi_88_1 ?_
  refine z_iload2 gi_88_2 ?_
  refine z_cV2 gi_88_3 gk_8 go_89 (Nat.le_of_ble_eq_true rfl) gc_89_RII ?_
  refine z_iload2 gi_89_0 ?_
  refine z_if_lt gi_89_1 (by omega) (fun h1 => ?_) (fun h1 => ?_)
  · refine z_pushJ gp_89_10 ?_
    refine z_iret gi_89_11 gr_89 ?_
    show zW _ _ _ _ _ _ _ _ _ _
    refine z_if_ltT gi_88_6 zrn_1 (by decide) ?_
    refine z_pushJ gp_88_13 ?_
    refine z_bret0 gi_88_14 gr_88 ?_
    first | exact ⟨rfl, rfl, rfl, rfl⟩ | (exfalso; omega)
  · refine z_iload2 gi_89_4 ?_
    refine z_pushJ gp_89_5 ?_
    refine z_icmp_lt gi_89_7 (by omega) zr_14 (fun h2 => ?_) (fun h2 => ?_)
    · refine z_iload2 gi_89_12 ?_
      refine z_pushJ gp_89_13 ?_
      refine z_icmp_ge gi_89_14 (by omega) zr_5 (fun h3 => ?_) (fun h3 => ?_)
      · refine z_iload1 gi_89_35 ?_
        refine z_if_ne gi_89_36 (by omega) (fun h4 => ?_) (fun h4 => ?_)
        · refine z_pushJ gp_89_46 ?_
          refine z_iret gi_89_47 gr_89 ?_
          show zW _ _ _ _ _ _ _ _ _ _
          refine z_if_ltT gi_88_6 zrn_1 (by decide) ?_
          refine z_pushJ gp_88_13 ?_
          refine z_bret0 gi_88_14 gr_88 ?_
          first | exact ⟨rfl, rfl, rfl, rfl⟩ | (exfalso; omega)
        · refine z_pushJ gp_89_39 ?_
          refine z_iload2 gi_89_41 ?_
          refine z_iadd (e := 40 + w) gi_89_42 rfl ?_
          refine z_goto gi_89_43 ?_
          refine z_iret gi_89_47 gr_89 ?_
          show zW _ _ _ _ _ _ _ _ _ _
          refine z_if_lt gi_88_6 (by omega) (fun h5 => ?_) (fun h5 => ?_)
          · refine z_pushJ gp_88_13 ?_
            refine z_bret0 gi_88_14 gr_88 ?_
            first | exact ⟨rfl, rfl, rfl, rfl⟩ | (exfalso; omega)
          · refine z_pushJ gp_88_9 ?_
            refine z_goto gi_88_10 ?_
            refine z_bret1 gi_88_14 gr_88 ?_
            first | exact ⟨rfl, rfl, rfl, rfl⟩ | (exfalso; omega)
      · refine z_aload0 gi_89_17 ?_
        refine z_iload1 gi_89_18 ?_
        refine z_cV1 gi_89_19 gk_8 go_87 (Nat.le_of_ble_eq_true rfl) gc_87_RI ?_
        refine z_iload1 gi_87_0 ?_
        refine z_if_lt gi_87_1 (by omega) (fun h6 => ?_) (fun h6 => ?_)
        · refine z_pushJ gp_87_16 ?_
          refine z_bret0 gi_87_17 gr_87 ?_
          show zW _ _ _ _ _ _ _ _ _ _
          refine z_if_eqT gi_89_22 zr_0 (by decide) ?_
          refine z_pushJ gp_89_33 ?_
          refine z_iret gi_89_34 gr_89 ?_
          show zW _ _ _ _ _ _ _ _ _ _
          refine z_if_ltT gi_88_6 zrn_1 (by decide) ?_
          refine z_pushJ gp_88_13 ?_
          refine z_bret0 gi_88_14 gr_88 ?_
          first | exact ⟨rfl, rfl, rfl, rfl⟩ | (exfalso; omega)
        · refine z_iload1 gi_87_4 ?_
          refine z_aload0 gi_87_5 ?_
          refine z_getI (v := n) gi_87_6 gk_8 (hz) ?_
          refine z_icmp_ge gi_87_9 (by omega) (by omega) (fun h7 => ?_) (fun h7 => ?_)
          · refine z_pushJ gp_87_16 ?_
            refine z_bret0 gi_87_17 gr_87 ?_
            show zW _ _ _ _ _ _ _ _ _ _
            refine z_if_eqT gi_89_22 zr_0 (by decide) ?_
            refine z_pushJ gp_89_33 ?_
            refine z_iret gi_89_34 gr_89 ?_
            show zW _ _ _ _ _ _ _ _ _ _
            refine z_if_ltT gi_88_6 zrn_1 (by decide) ?_
            refine z_pushJ gp_88_13 ?_
            refine z_bret0 gi_88_14 gr_88 ?_
            first | exact ⟨rfl, rfl, rfl, rfl⟩ | (exfalso; omega)
          · refine z_pushJ gp_87_12 ?_
            refine z_goto gi_87_13 ?_
            refine z_bret1 gi_87_17 gr_87 ?_
            show zW _ _ _ _ _ _ _ _ _ _
            refine z_if_eqF gi_89_22 zr_1 (by decide) ?_
            refine z_iload1 gi_89_25 ?_
            refine z_pushJ gp_89_26 ?_
            refine z_imul (e := p * 5) gi_89_27 rfl ?_
            refine z_iload2 gi_89_28 ?_
            refine z_iadd (e := p * 5 + w) gi_89_29 rfl ?_
            refine z_goto gi_89_30 ?_
            refine z_iret gi_89_34 gr_89 ?_
            show zW _ _ _ _ _ _ _ _ _ _
            refine z_if_lt gi_88_6 (by omega) (fun h8 => ?_) (fun h8 => ?_)
            · refine z_pushJ gp_88_13 ?_
              refine z_bret0 gi_88_14 gr_88 ?_
              first | exact ⟨rfl, rfl, rfl, rfl⟩ | (exfalso; omega)
            · refine z_pushJ gp_88_9 ?_
              refine z_goto gi_88_10 ?_
              refine z_bret1 gi_88_14 gr_88 ?_
              first | exact ⟨rfl, rfl, rfl, rfl⟩ | (exfalso; omega)
    · refine z_pushJ gp_89_10 ?_
      refine z_iret gi_89_11 gr_89 ?_
      show zW _ _ _ _ _ _ _ _ _ _
      refine z_if_ltT gi_88_6 zrn_1 (by decide) ?_
      refine z_pushJ gp_88_13 ?_
      refine z_bret0 gi_88_14 gr_88 ?_
      first | exact ⟨rfl, rfl, rfl, rfl⟩ | (exfalso; omega)
theorem isNumber_0 {X : Nat × (Nat → Int32)} {d : Nat} {J M : zA} {R : zR} {n p w : Int} (hR : zRok R) (hz : J 8 2 = n) (hn : 0 ≤ n ∧ n ≤ 8) (hp : -2147483648 ≤ p ∧ p < 2147483648) (hw : -2147483648 ≤ w ∧ w < 2147483648) (hV : ¬ zV n p w) : zW X (d + 3) 88 0 (gEn 88 [(.ref 8), (zi p), (zi w)]) [] J M R (zPu (0) J M R) := by
  show zW _ _ _ _ [some (.ref 8), some (zi p), some (zi w)] _ _ _ _ _
  refine z_aload0 gi_88_0 ?_
  refine z_iload1 gi_88_1 ?_
  refine z_iload2 gi_88_2 ?_
  refine z_cV2 gi_88_3 gk_8 go_89 (Nat.le_of_ble_eq_true rfl) gc_89_RII ?_
  refine z_iload2 gi_89_0 ?_
  refine z_if_lt gi_89_1 (by omega) (fun h1 => ?_) (fun h1 => ?_)
  · refine z_pushJ gp_89_10 ?_
    refine z_iret gi_89_11 gr_89 ?_
    show zW _ _ _ _ _ _ _ _ _ _
    refine z_if_ltT gi_88_6 zrn_1 (by decide) ?_
    refine z_pushJ gp_88_13 ?_
    refine z_bret0 gi_88_14 gr_88 ?_
    first | exact ⟨rfl, rfl, rfl, rfl⟩ | (exfalso; omega)
  · refine z_iload2 gi_89_4 ?_
    refine z_pushJ gp_89_5 ?_
    refine z_icmp_lt gi_89_7 (by omega) zr_14 (fun h2 => ?_) (fun h2 => ?_)
    · refine z_iload2 gi_89_12 ?_
      refine z_pushJ gp_89_13 ?_
      refine z_icmp_ge gi_89_14 (by omega) zr_5 (fun h3 => ?_) (fun h3 => ?_)
      · refine z_iload1 gi_89_35 ?_
        refine z_if_ne gi_89_36 (by omega) (fun h4 => ?_) (fun h4 => ?_)
        · refine z_pushJ gp_89_46 ?_
          refine z_iret gi_89_47 gr_89 ?_
          show zW _ _ _ _ _ _ _ _ _ _
          refine z_if_ltT gi_88_6 zrn_1 (by decide) ?_
          refine z_pushJ gp_88_13 ?_
          refine z_bret0 gi_88_14 gr_88 ?_
          first | exact ⟨rfl, rfl, rfl, rfl⟩ | (exfalso; omega)
        · refine z_pushJ gp_89_39 ?_
          refine z_iload2 gi_89_41 ?_
          refine z_iadd (e := 40 + w) gi_89_42 rfl ?_
          refine z_goto gi_89_43 ?_
          refine z_iret gi_89_47 gr_89 ?_
          show zW _ _ _ _ _ _ _ _ _ _
          refine z_if_lt gi_88_6 (by omega) (fun h5 => ?_) (fun h5 => ?_)
          · refine z_pushJ gp_88_13 ?_
            refine z_bret0 gi_88_14 gr_88 ?_
            first | exact ⟨rfl, rfl, rfl, rfl⟩ | (exfalso; omega)
          · refine z_pushJ gp_88_9 ?_
            refine z_goto gi_88_10 ?_
            refine z_bret1 gi_88_14 gr_88 ?_
            first | exact ⟨rfl, rfl, rfl, rfl⟩ | (exfalso; omega)
      · refine z_aload0 gi_89_17 ?_
        refine z_iload1 gi_89_18 ?_
        refine z_cV1 gi_89_19 gk_8 go_87 (Nat.le_of_ble_eq_true rfl) gc_87_RI ?_
        refine z_iload1 gi_87_0 ?_
        refine z_if_lt gi_87_1 (by omega) (fun h6 => ?_) (fun h6 => ?_)
        · refine z_pushJ gp_87_16 ?_
          refine z_bret0 gi_87_17 gr_87 ?_
          show zW _ _ _ _ _ _ _ _ _ _
          refine z_if_eqT gi_89_22 zr_0 (by decide) ?_
          refine z_pushJ gp_89_33 ?_
          refine z_iret gi_89_34 gr_89 ?_
          show zW _ _ _ _ _ _ _ _ _ _
          refine z_if_ltT gi_88_6 zrn_1 (by decide) ?_
          refine z_pushJ gp_88_13 ?_
          refine z_bret0 gi_88_14 gr_88 ?_
          first | exact ⟨rfl, rfl, rfl, rfl⟩ | (exfalso; omega)
        · refine z_iload1 gi_87_4 ?_
          refine z_aload0 gi_87_5 ?_
          refine z_getI (v := n) gi_87_6 gk_8 (hz) ?_
          refine z_icmp_ge gi_87_9 (by omega) (by omega) (fun h7 => ?_) (fun h7 => ?_)
          · refine z_pushJ gp_87_16 ?_
            refine z_bret0 gi_87_17 gr_87 ?_
            show zW _ _ _ _ _ _ _ _ _ _
            refine z_if_eqT gi_89_22 zr_0 (by decide) ?_
            refine z_pushJ gp_89_33 ?_
            refine z_iret gi_89_34 gr_89 ?_
            show zW _ _ _ _ _ _ _ _ _ _
            refine z_if_ltT gi_88_6 zrn_1 (by decide) ?_
            refine z_pushJ gp_88_13 ?_
            refine z_bret0 gi_88_14 gr_88 ?_
            first | exact ⟨rfl, rfl, rfl, rfl⟩ | (exfalso; omega)
          · refine z_pushJ gp_87_12 ?_
            refine z_goto gi_87_13 ?_
            refine z_bret1 gi_87_17 gr_87 ?_
            show zW _ _ _ _ _ _ _ _ _ _
            refine z_if_eqF gi_89_22 zr_1 (by decide) ?_
            refine z_iload1 gi_89_25 ?_
            refine z_pushJ gp_89_26 ?_
            refine z_imul (e := p * 5) gi_89_27 rfl ?_
            refine z_iload2 gi_89_28 ?_
            refine z_iadd (e := p * 5 + w) gi_89_29 rfl ?_
            refine z_goto gi_89_30 ?_
            refine z_iret gi_89_34 gr_89 ?_
            show zW _ _ _ _ _ _ _ _ _ _
            refine z_if_lt gi_88_6 (by omega) (fun h8 => ?_) (fun h8 => ?_)
            · refine z_pushJ gp_88_13 ?_
              refine z_bret0 gi_88_14 gr_88 ?_
              first | exact ⟨rfl, rfl, rfl, rfl⟩ | (exfalso; omega)
            · refine z_pushJ gp_88_9 ?_
              refine z_goto gi_88_10 ?_
              refine z_bret1 gi_88_14 gr_88 ?_
              first | exact ⟨rfl, rfl, rfl, rfl⟩ | (exfalso; omega)
    · refine z_pushJ gp_89_10 ?_
      refine z_iret gi_89_11 gr_89 ?_
      show zW _ _ _ _ _ _ _ _ _ _
      refine z_if_ltT gi_88_6 zrn_1 (by decide) ?_
      refine z_pushJ gp_88_13 ?_
      refine z_bret0 gi_88_14 gr_88 ?_
      first | exact ⟨rfl, rfl, rfl, rfl⟩ | (exfalso; omega)
theorem isFit_1 {X : Nat × (Nat → Int32)} {d : Nat} {J M : zA} {R : zR} {v w : Int} (hv : -2147483648 ≤ v ∧ v < 2147483648) (hw : -2147483648 ≤ w ∧ w < 2147483648) (hw2 : 0 ≤ w ∧ w < 14) (hf : zT 2 w ≤ v ∧ v ≤ zT 3 w) : zW X (d + 1) 86 0 (gEn 86 [(zi w), (zi v)]) [] J M R (zPu (1) J M R) := by
  show zW _ _ _ _ [some (zi w), some (zi v)] _ _ _ _ _
  refine z_iload0 gi_86_0 ?_
  refine z_if_lt gi_86_1 (by omega) (fun h1 => ?_) (fun h1 => ?_)
  · refine z_pushJ gp_86_32 ?_
    refine z_bret0 gi_86_33 gr_86 ?_
    first | exact ⟨rfl, rfl, rfl, rfl⟩ | (exfalso; omega)
  · refine z_iload0 gi_86_4 ?_
    refine z_pushJ gp_86_5 ?_
    refine z_icmp_ge gi_86_7 (by omega) zr_14 (fun h2 => ?_) (fun h2 => ?_)
    · refine z_pushJ gp_86_32 ?_
      refine z_bret0 gi_86_33 gr_86 ?_
      first | exact ⟨rfl, rfl, rfl, rfl⟩ | (exfalso; omega)
    · refine z_iload1 gi_86_10 ?_
      refine z_getS gi_86_11 ?_
      refine z_iload0 gi_86_14 ?_
      have q3 := zT_2r (w := w) (by omega)
      refine z_sald (j := 1) (n := 14) (v := zT 2 w) gi_86_15 (by decide) rfl (by decide) (by omega) rfl ?_
      refine z_icmp_lt gi_86_16 (by omega) (by omega) (fun h4 => ?_) (fun h4 => ?_)
      · refine z_pushJ gp_86_32 ?_
        refine z_bret0 gi_86_33 gr_86 ?_
        first | exact ⟨rfl, rfl, rfl, rfl⟩ | (exfalso; omega)
      · refine z_iload1 gi_86_19 ?_
        refine z_getS gi_86_20 ?_
        refine z_iload0 gi_86_23 ?_
        have q5 := zT_3r (w := w) (by omega)
        refine z_sald (j := 2) (n := 14) (v := zT 3 w) gi_86_24 (by decide) rfl (by decide) (by omega) rfl ?_
        refine z_icmp_gt gi_86_25 (by omega) (by omega) (fun h6 => ?_) (fun h6 => ?_)
        · refine z_pushJ gp_86_32 ?_
          refine z_bret0 gi_86_33 gr_86 ?_
          first | exact ⟨rfl, rfl, rfl, rfl⟩ | (exfalso; omega)
        · refine z_pushJ gp_86_28 ?_
          refine z_goto gi_86_29 ?_
          refine z_bret1 gi_86_33 gr_86 ?_
          first | exact ⟨rfl, rfl, rfl, rfl⟩ | (exfalso; omega)
theorem isFit_0 {X : Nat × (Nat → Int32)} {d : Nat} {J M : zA} {R : zR} {v w : Int} (hv : -2147483648 ≤ v ∧ v < 2147483648) (hw : -2147483648 ≤ w ∧ w < 2147483648) (hw2 : 0 ≤ w ∧ w < 14) (hf : ¬ (zT 2 w ≤ v ∧ v ≤ zT 3 w)) : zW X (d + 1) 86 0 (gEn 86 [(zi w), (zi v)]) [] J M R (zPu (0) J M R) := by
  show zW _ _ _ _ [some (zi w), some (zi v)] _ _ _ _ _
  refine z_iload0 gi_86_0 ?_
  refine z_if_lt gi_86_1 (by omega) (fun h1 => ?_) (fun h1 => ?_)
  · refine z_pushJ gp_86_32 ?_
    refine z_bret0 gi_86_33 gr_86 ?_
    first | exact ⟨rfl, rfl, rfl, rfl⟩ | (exfalso; omega)
  · refine z_iload0 gi_86_4 ?_
    refine z_pushJ gp_86_5 ?_
    refine z_icmp_ge gi_86_7 (by omega) zr_14 (fun h2 => ?_) (fun h2 => ?_)
    · refine z_pushJ gp_86_32 ?_
      refine z_bret0 gi_86_33 gr_86 ?_
      first | exact ⟨rfl, rfl, rfl, rfl⟩ | (exfalso; omega)
    · refine z_iload1 gi_86_10 ?_
      refine z_getS gi_86_11 ?_
      refine z_iload0 gi_86_14 ?_
      have q3 := zT_2r (w := w) (by omega)
      refine z_sald (j := 1) (n := 14) (v := zT 2 w) gi_86_15 (by decide) rfl (by decide) (by omega) rfl ?_
      refine z_icmp_lt gi_86_16 (by omega) (by omega) (fun h4 => ?_) (fun h4 => ?_)
      · refine z_pushJ gp_86_32 ?_
        refine z_bret0 gi_86_33 gr_86 ?_
        first | exact ⟨rfl, rfl, rfl, rfl⟩ | (exfalso; omega)
      · refine z_iload1 gi_86_19 ?_
        refine z_getS gi_86_20 ?_
        refine z_iload0 gi_86_23 ?_
        have q5 := zT_3r (w := w) (by omega)
        refine z_sald (j := 2) (n := 14) (v := zT 3 w) gi_86_24 (by decide) rfl (by decide) (by omega) rfl ?_
        refine z_icmp_gt gi_86_25 (by omega) (by omega) (fun h6 => ?_) (fun h6 => ?_)
        · refine z_pushJ gp_86_32 ?_
          refine z_bret0 gi_86_33 gr_86 ?_
          first | exact ⟨rfl, rfl, rfl, rfl⟩ | (exfalso; omega)
        · refine z_pushJ gp_86_28 ?_
          refine z_goto gi_86_29 ?_
          refine z_bret1 gi_86_33 gr_86 ?_
          first | exact ⟨rfl, rfl, rfl, rfl⟩ | (exfalso; omega)
theorem tell_p {X : Nat × (Nat → Int32)} {d : Nat} {J M : zA} {R : zR} {n p w v : Int} (hR : zRok R) (hz : J 8 2 = n) (hn : 0 ≤ n ∧ n ≤ 8) (hp : -2147483648 ≤ p ∧ p < 2147483648) (hw : -2147483648 ≤ w ∧ w < 2147483648) (hV : 0 ≤ w ∧ w < 5 ∧ 0 ≤ p ∧ p < n) : zW X (d + 3) 91 0 (gEn 91 [(.ref 8), (zi p), (zi w), (zi v)]) [] J M R (zPx none (zU J 9 (p * 5 + w) v) M R) := by
  show zW _ _ _ _ [some (.ref 8), some (zi p), some (zi w), some (zi v), none] _ _ _ _ _
  refine z_aload0 gi_91_0 ?_
  refine z_iload1 gi_91_1 ?_
  refine z_iload2 gi_91_2 ?_
  refine z_cV2 gi_91_3 gk_8 go_89 (Nat.le_of_ble_eq_true rfl) gc_89_RII ?_
  refine z_iload2 gi_89_0 ?_
  refine z_if_lt gi_89_1 (by omega) (fun h1 => ?_) (fun h1 => ?_)
  · refine z_pushJ gp_89_10 ?_
    refine z_iret gi_89_11 gr_89 ?_
    show zW _ _ _ _ _ _ _ _ _ _
    refine z_istore (ls1 := [some (.ref 8), some (zi p), some (zi w), some (zi v), some (zi (-1))]) gi_91_6 rfl ?_
    refine z_iload4 gi_91_8 ?_
    refine z_if_ltT gi_91_10 zrn_1 (by decide) ?_
    refine z_vret gi_91_21 gr_91 ?_
    exfalso
    omega
  · refine z_iload2 gi_89_4 ?_
    refine z_pushJ gp_89_5 ?_
    refine z_icmp_lt gi_89_7 (by omega) zr_14 (fun h2 => ?_) (fun h2 => ?_)
    · refine z_iload2 gi_89_12 ?_
      refine z_pushJ gp_89_13 ?_
      refine z_icmp_ge gi_89_14 (by omega) zr_5 (fun h3 => ?_) (fun h3 => ?_)
      · refine z_iload1 gi_89_35 ?_
        refine z_if_ne gi_89_36 (by omega) (fun h4 => ?_) (fun h4 => ?_)
        · refine z_pushJ gp_89_46 ?_
          refine z_iret gi_89_47 gr_89 ?_
          show zW _ _ _ _ _ _ _ _ _ _
          refine z_istore (ls1 := [some (.ref 8), some (zi p), some (zi w), some (zi v), some (zi (-1))]) gi_91_6 rfl ?_
          refine z_iload4 gi_91_8 ?_
          refine z_if_ltT gi_91_10 zrn_1 (by decide) ?_
          refine z_vret gi_91_21 gr_91 ?_
          exfalso
          omega
        · refine z_pushJ gp_89_39 ?_
          refine z_iload2 gi_89_41 ?_
          refine z_iadd (e := 40 + w) gi_89_42 rfl ?_
          refine z_goto gi_89_43 ?_
          refine z_iret gi_89_47 gr_89 ?_
          show zW _ _ _ _ _ _ _ _ _ _
          refine z_istore (ls1 := [some (.ref 8), some (zi p), some (zi w), some (zi v), some (zi (40 + w))]) gi_91_6 rfl ?_
          refine z_iload4 gi_91_8 ?_
          refine z_if_lt gi_91_10 (by omega) (fun h5 => ?_) (fun h5 => ?_)
          · refine z_vret gi_91_21 gr_91 ?_
            exfalso
            omega
          · refine z_aload0 gi_91_13 ?_
            refine z_getR (r := 9) gi_91_14 gk_8 (hR _ rm_8_1) ?_
            refine z_iload4 gi_91_17 ?_
            refine z_iload3 gi_91_19 ?_
            refine z_iast (e := v) gi_91_20 gk_9 (by decide) (by omega) rfl ?_
            refine z_vret gi_91_21 gr_91 ?_
            exfalso
            omega
      · refine z_aload0 gi_89_17 ?_
        refine z_iload1 gi_89_18 ?_
        refine z_cV1 gi_89_19 gk_8 go_87 (Nat.le_of_ble_eq_true rfl) gc_87_RI ?_
        refine z_iload1 gi_87_0 ?_
        refine z_if_lt gi_87_1 (by omega) (fun h6 => ?_) (fun h6 => ?_)
        · refine z_pushJ gp_87_16 ?_
          refine z_bret0 gi_87_17 gr_87 ?_
          show zW _ _ _ _ _ _ _ _ _ _
          refine z_if_eqT gi_89_22 zr_0 (by decide) ?_
          refine z_pushJ gp_89_33 ?_
          refine z_iret gi_89_34 gr_89 ?_
          show zW _ _ _ _ _ _ _ _ _ _
          refine z_istore (ls1 := [some (.ref 8), some (zi p), some (zi w), some (zi v), some (zi (-1))]) gi_91_6 rfl ?_
          refine z_iload4 gi_91_8 ?_
          refine z_if_ltT gi_91_10 zrn_1 (by decide) ?_
          refine z_vret gi_91_21 gr_91 ?_
          exfalso
          omega
        · refine z_iload1 gi_87_4 ?_
          refine z_aload0 gi_87_5 ?_
          refine z_getI (v := n) gi_87_6 gk_8 (hz) ?_
          refine z_icmp_ge gi_87_9 (by omega) (by omega) (fun h7 => ?_) (fun h7 => ?_)
          · refine z_pushJ gp_87_16 ?_
            refine z_bret0 gi_87_17 gr_87 ?_
            show zW _ _ _ _ _ _ _ _ _ _
            refine z_if_eqT gi_89_22 zr_0 (by decide) ?_
            refine z_pushJ gp_89_33 ?_
            refine z_iret gi_89_34 gr_89 ?_
            show zW _ _ _ _ _ _ _ _ _ _
            refine z_istore (ls1 := [some (.ref 8), some (zi p), some (zi w), some (zi v), some (zi (-1))]) gi_91_6 rfl ?_
            refine z_iload4 gi_91_8 ?_
            refine z_if_ltT gi_91_10 zrn_1 (by decide) ?_
            refine z_vret gi_91_21 gr_91 ?_
            exfalso
            omega
          · refine z_pushJ gp_87_12 ?_
            refine z_goto gi_87_13 ?_
            refine z_bret1 gi_87_17 gr_87 ?_
            show zW _ _ _ _ _ _ _ _ _ _
            refine z_if_eqF gi_89_22 zr_1 (by decide) ?_
            refine z_iload1 gi_89_25 ?_
            refine z_pushJ gp_89_26 ?_
            refine z_imul (e := p * 5) gi_89_27 rfl ?_
            refine z_iload2 gi_89_28 ?_
            refine z_iadd (e := p * 5 + w) gi_89_29 rfl ?_
            refine z_goto gi_89_30 ?_
            refine z_iret gi_89_34 gr_89 ?_
            show zW _ _ _ _ _ _ _ _ _ _
            refine z_istore (ls1 := [some (.ref 8), some (zi p), some (zi w), some (zi v), some (zi (p * 5 + w))]) gi_91_6 rfl ?_
            refine z_iload4 gi_91_8 ?_
            refine z_if_lt gi_91_10 (by omega) (fun h8 => ?_) (fun h8 => ?_)
            · refine z_vret gi_91_21 gr_91 ?_
              exfalso
              omega
            · refine z_aload0 gi_91_13 ?_
              refine z_getR (r := 9) gi_91_14 gk_8 (hR _ rm_8_1) ?_
              refine z_iload4 gi_91_17 ?_
              refine z_iload3 gi_91_19 ?_
              refine z_iast (e := v) gi_91_20 gk_9 (by decide) (by omega) rfl ?_
              refine z_vret gi_91_21 gr_91 ?_
              exact ⟨rfl, rfl, rfl, rfl⟩
    · refine z_pushJ gp_89_10 ?_
      refine z_iret gi_89_11 gr_89 ?_
      show zW _ _ _ _ _ _ _ _ _ _
      refine z_istore (ls1 := [some (.ref 8), some (zi p), some (zi w), some (zi v), some (zi (-1))]) gi_91_6 rfl ?_
      refine z_iload4 gi_91_8 ?_
      refine z_if_ltT gi_91_10 zrn_1 (by decide) ?_
      refine z_vret gi_91_21 gr_91 ?_
      exfalso
      omega
theorem tell_g {X : Nat × (Nat → Int32)} {d : Nat} {J M : zA} {R : zR} {n p w v : Int} (hR : zRok R) (hz : J 8 2 = n) (hn : 0 ≤ n ∧ n ≤ 8) (hp : -2147483648 ≤ p ∧ p < 2147483648) (hw : -2147483648 ≤ w ∧ w < 2147483648) (hV : 5 ≤ w ∧ w < 14 ∧ p = 0) : zW X (d + 3) 91 0 (gEn 91 [(.ref 8), (zi p), (zi w), (zi v)]) [] J M R (zPx none (zU J 9 (40 + w) v) M R) := by
  show zW _ _ _ _ [some (.ref 8), some (zi p), some (zi w), some (zi v), none] _ _ _ _ _
  refine z_aload0 gi_91_0 ?_
  refine z_iload1 gi_91_1 ?_
  refine z_iload2 gi_91_2 ?_
  refine z_cV2 gi_91_3 gk_8 go_89 (Nat.le_of_ble_eq_true rfl) gc_89_RII ?_
  refine z_iload2 gi_89_0 ?_
  refine z_if_lt gi_89_1 (by omega) (fun h1 => ?_) (fun h1 => ?_)
  · refine z_pushJ gp_89_10 ?_
    refine z_iret gi_89_11 gr_89 ?_
    show zW _ _ _ _ _ _ _ _ _ _
    refine z_istore (ls1 := [some (.ref 8), some (zi p), some (zi w), some (zi v), some (zi (-1))]) gi_91_6 rfl ?_
    refine z_iload4 gi_91_8 ?_
    refine z_if_ltT gi_91_10 zrn_1 (by decide) ?_
    refine z_vret gi_91_21 gr_91 ?_
    exfalso
    omega
  · refine z_iload2 gi_89_4 ?_
    refine z_pushJ gp_89_5 ?_
    refine z_icmp_lt gi_89_7 (by omega) zr_14 (fun h2 => ?_) (fun h2 => ?_)
    · refine z_iload2 gi_89_12 ?_
      refine z_pushJ gp_89_13 ?_
      refine z_icmp_ge gi_89_14 (by omega) zr_5 (fun h3 => ?_) (fun h3 => ?_)
      · refine z_iload1 gi_89_35 ?_
        refine z_if_ne gi_89_36 (by omega) (fun h4 => ?_) (fun h4 => ?_)
        · refine z_pushJ gp_89_46 ?_
          refine z_iret gi_89_47 gr_89 ?_
          show zW _ _ _ _ _ _ _ _ _ _
          refine z_istore (ls1 := [some (.ref 8), some (zi p), some (zi w), some (zi v), some (zi (-1))]) gi_91_6 rfl ?_
          refine z_iload4 gi_91_8 ?_
          refine z_if_ltT gi_91_10 zrn_1 (by decide) ?_
          refine z_vret gi_91_21 gr_91 ?_
          exfalso
          omega
        · refine z_pushJ gp_89_39 ?_
          refine z_iload2 gi_89_41 ?_
          refine z_iadd (e := 40 + w) gi_89_42 rfl ?_
          refine z_goto gi_89_43 ?_
          refine z_iret gi_89_47 gr_89 ?_
          show zW _ _ _ _ _ _ _ _ _ _
          refine z_istore (ls1 := [some (.ref 8), some (zi p), some (zi w), some (zi v), some (zi (40 + w))]) gi_91_6 rfl ?_
          refine z_iload4 gi_91_8 ?_
          refine z_if_lt gi_91_10 (by omega) (fun h5 => ?_) (fun h5 => ?_)
          · refine z_vret gi_91_21 gr_91 ?_
            exfalso
            omega
          · refine z_aload0 gi_91_13 ?_
            refine z_getR (r := 9) gi_91_14 gk_8 (hR _ rm_8_1) ?_
            refine z_iload4 gi_91_17 ?_
            refine z_iload3 gi_91_19 ?_
            refine z_iast (e := v) gi_91_20 gk_9 (by decide) (by omega) rfl ?_
            refine z_vret gi_91_21 gr_91 ?_
            exact ⟨rfl, rfl, rfl, rfl⟩
      · refine z_aload0 gi_89_17 ?_
        refine z_iload1 gi_89_18 ?_
        refine z_cV1 gi_89_19 gk_8 go_87 (Nat.le_of_ble_eq_true rfl) gc_87_RI ?_
        refine z_iload1 gi_87_0 ?_
        refine z_if_lt gi_87_1 (by omega) (fun h6 => ?_) (fun h6 => ?_)
        · refine z_pushJ gp_87_16 ?_
          refine z_bret0 gi_87_17 gr_87 ?_
          show zW _ _ _ _ _ _ _ _ _ _
          refine z_if_eqT gi_89_22 zr_0 (by decide) ?_
          refine z_pushJ gp_89_33 ?_
          refine z_iret gi_89_34 gr_89 ?_
          show zW _ _ _ _ _ _ _ _ _ _
          refine z_istore (ls1 := [some (.ref 8), some (zi p), some (zi w), some (zi v), some (zi (-1))]) gi_91_6 rfl ?_
          refine z_iload4 gi_91_8 ?_
          refine z_if_ltT gi_91_10 zrn_1 (by decide) ?_
          refine z_vret gi_91_21 gr_91 ?_
          exfalso
          omega
        · refine z_iload1 gi_87_4 ?_
          refine z_aload0 gi_87_5 ?_
          refine z_getI (v := n) gi_87_6 gk_8 (hz) ?_
          refine z_icmp_ge gi_87_9 (by omega) (by omega) (fun h7 => ?_) (fun h7 => ?_)
          · refine z_pushJ gp_87_16 ?_
            refine z_bret0 gi_87_17 gr_87 ?_
            show zW _ _ _ _ _ _ _ _ _ _
            refine z_if_eqT gi_89_22 zr_0 (by decide) ?_
            refine z_pushJ gp_89_33 ?_
            refine z_iret gi_89_34 gr_89 ?_
            show zW _ _ _ _ _ _ _ _ _ _
            refine z_istore (ls1 := [some (.ref 8), some (zi p), some (zi w), some (zi v), some (zi (-1))]) gi_91_6 rfl ?_
            refine z_iload4 gi_91_8 ?_
            refine z_if_ltT gi_91_10 zrn_1 (by decide) ?_
            refine z_vret gi_91_21 gr_91 ?_
            exfalso
            omega
          · refine z_pushJ gp_87_12 ?_
            refine z_goto gi_87_13 ?_
            refine z_bret1 gi_87_17 gr_87 ?_
            show zW _ _ _ _ _ _ _ _ _ _
            refine z_if_eqF gi_89_22 zr_1 (by decide) ?_
            refine z_iload1 gi_89_25 ?_
            refine z_pushJ gp_89_26 ?_
            refine z_imul (e := p * 5) gi_89_27 rfl ?_
            refine z_iload2 gi_89_28 ?_
            refine z_iadd (e := p * 5 + w) gi_89_29 rfl ?_
            refine z_goto gi_89_30 ?_
            refine z_iret gi_89_34 gr_89 ?_
            show zW _ _ _ _ _ _ _ _ _ _
            refine z_istore (ls1 := [some (.ref 8), some (zi p), some (zi w), some (zi v), some (zi (p * 5 + w))]) gi_91_6 rfl ?_
            refine z_iload4 gi_91_8 ?_
            refine z_if_lt gi_91_10 (by omega) (fun h8 => ?_) (fun h8 => ?_)
            · refine z_vret gi_91_21 gr_91 ?_
              exfalso
              omega
            · refine z_aload0 gi_91_13 ?_
              refine z_getR (r := 9) gi_91_14 gk_8 (hR _ rm_8_1) ?_
              refine z_iload4 gi_91_17 ?_
              refine z_iload3 gi_91_19 ?_
              refine z_iast (e := v) gi_91_20 gk_9 (by decide) (by omega) rfl ?_
              refine z_vret gi_91_21 gr_91 ?_
              exfalso
              omega
    · refine z_pushJ gp_89_10 ?_
      refine z_iret gi_89_11 gr_89 ?_
      show zW _ _ _ _ _ _ _ _ _ _
      refine z_istore (ls1 := [some (.ref 8), some (zi p), some (zi w), some (zi v), some (zi (-1))]) gi_91_6 rfl ?_
      refine z_iload4 gi_91_8 ?_
      refine z_if_ltT gi_91_10 zrn_1 (by decide) ?_
      refine z_vret gi_91_21 gr_91 ?_
      exfalso
      omega
theorem isOne_1 {X : Nat × (Nat → Int32)} {d : Nat} {J M : zA} {R : zR} {n p w : Int} (hR : zRoR R) (hz : J 50 1 = n) (hn : 0 ≤ n ∧ n ≤ 8) (hp : -2147483648 ≤ p ∧ p < 2147483648) (hw : -2147483648 ≤ w ∧ w < 2147483648) (hV : zV n p w) : zW X (d + 3) 160 0 (gEn 160 [(.ref 50), (zi p), (zi w)]) [] J M R (zPu (1) J M R) := by
  show zW _ _ _ _ [some (.ref 50), some (zi p), some (zi w)] _ _ _ _ _
  refine z_iload2 gi_160_0 ?_
  refine z_pushJ gp_160_1 ?_
  refine z_pushJ gp_160_2 ?_
  refine z_cS3 gi_160_3 (Nat.le_of_ble_eq_true rfl) gc_148_III ?_
  refine z_iload0 gi_148_0 ?_
  refine z_iload1 gi_148_1 ?_
  refine z_icmp_lt gi_148_2 (by omega) zr_0 (fun h1 => ?_) (fun h1 => ?_)
  · refine z_pushJ gp_148_14 ?_
    refine z_bret0 gi_148_15 gr_148 ?_
    show zW _ _ _ _ _ _ _ _ _ _
    refine z_if_eqT gi_160_6 zr_0 (by decide) ?_
    refine z_iload2 gi_160_17 ?_
    refine z_pushJ gp_160_18 ?_
    refine z_pushJ gp_160_19 ?_
    refine z_cS3 gi_160_21 (Nat.le_of_ble_eq_true rfl) gc_148_III ?_
    refine z_iload0 gi_148_0 ?_
    refine z_iload1 gi_148_1 ?_
    refine z_icmp_lt gi_148_2 (by omega) zr_5 (fun h2 => ?_) (fun h2 => ?_)
    · refine z_pushJ gp_148_14 ?_
      refine z_bret0 gi_148_15 gr_148 ?_
      show zW _ _ _ _ _ _ _ _ _ _
      refine z_if_eqT gi_160_24 zr_0 (by decide) ?_
      refine z_pushJ gp_160_35 ?_
      refine z_bret0 gi_160_36 gr_160 ?_
      first | exact ⟨rfl, rfl, rfl, rfl⟩ | (exfalso; omega)
    · refine z_iload0 gi_148_5 ?_
      refine z_iload2 gi_148_6 ?_
      refine z_icmp_gt gi_148_7 (by omega) zr_13 (fun h3 => ?_) (fun h3 => ?_)
      · refine z_pushJ gp_148_14 ?_
        refine z_bret0 gi_148_15 gr_148 ?_
        show zW _ _ _ _ _ _ _ _ _ _
        refine z_if_eqT gi_160_24 zr_0 (by decide) ?_
        refine z_pushJ gp_160_35 ?_
        refine z_bret0 gi_160_36 gr_160 ?_
        first | exact ⟨rfl, rfl, rfl, rfl⟩ | (exfalso; omega)
      · refine z_pushJ gp_148_10 ?_
        refine z_goto gi_148_11 ?_
        refine z_bret1 gi_148_15 gr_148 ?_
        show zW _ _ _ _ _ _ _ _ _ _
        refine z_if_eqF gi_160_24 zr_1 (by decide) ?_
        refine z_iload1 gi_160_27 ?_
        refine z_if_ne gi_160_28 (by omega) (fun h4 => ?_) (fun h4 => ?_)
        · refine z_pushJ gp_160_35 ?_
          refine z_bret0 gi_160_36 gr_160 ?_
          first | exact ⟨rfl, rfl, rfl, rfl⟩ | (exfalso; omega)
        · refine z_pushJ gp_160_31 ?_
          refine z_goto gi_160_32 ?_
          refine z_bret1 gi_160_36 gr_160 ?_
          first | exact ⟨rfl, rfl, rfl, rfl⟩ | (exfalso; omega)
  · refine z_iload0 gi_148_5 ?_
    refine z_iload2 gi_148_6 ?_
    refine z_icmp_gt gi_148_7 (by omega) zr_4 (fun h5 => ?_) (fun h5 => ?_)
    · refine z_pushJ gp_148_14 ?_
      refine z_bret0 gi_148_15 gr_148 ?_
      show zW _ _ _ _ _ _ _ _ _ _
      refine z_if_eqT gi_160_6 zr_0 (by decide) ?_
      refine z_iload2 gi_160_17 ?_
      refine z_pushJ gp_160_18 ?_
      refine z_pushJ gp_160_19 ?_
      refine z_cS3 gi_160_21 (Nat.le_of_ble_eq_true rfl) gc_148_III ?_
      refine z_iload0 gi_148_0 ?_
      refine z_iload1 gi_148_1 ?_
      refine z_icmp_lt gi_148_2 (by omega) zr_5 (fun h6 => ?_) (fun h6 => ?_)
      · refine z_pushJ gp_148_14 ?_
        refine z_bret0 gi_148_15 gr_148 ?_
        show zW _ _ _ _ _ _ _ _ _ _
        refine z_if_eqT gi_160_24 zr_0 (by decide) ?_
        refine z_pushJ gp_160_35 ?_
        refine z_bret0 gi_160_36 gr_160 ?_
        first | exact ⟨rfl, rfl, rfl, rfl⟩ | (exfalso; omega)
      · refine z_iload0 gi_148_5 ?_
        refine z_iload2 gi_148_6 ?_
        refine z_icmp_gt gi_148_7 (by omega) zr_13 (fun h7 => ?_) (fun h7 => ?_)
        · refine z_pushJ gp_148_14 ?_
          refine z_bret0 gi_148_15 gr_148 ?_
          show zW _ _ _ _ _ _ _ _ _ _
          refine z_if_eqT gi_160_24 zr_0 (by decide) ?_
          refine z_pushJ gp_160_35 ?_
          refine z_bret0 gi_160_36 gr_160 ?_
          first | exact ⟨rfl, rfl, rfl, rfl⟩ | (exfalso; omega)
        · refine z_pushJ gp_148_10 ?_
          refine z_goto gi_148_11 ?_
          refine z_bret1 gi_148_15 gr_148 ?_
          show zW _ _ _ _ _ _ _ _ _ _
          refine z_if_eqF gi_160_24 zr_1 (by decide) ?_
          refine z_iload1 gi_160_27 ?_
          refine z_if_ne gi_160_28 (by omega) (fun h8 => ?_) (fun h8 => ?_)
          · refine z_pushJ gp_160_35 ?_
            refine z_bret0 gi_160_36 gr_160 ?_
            first | exact ⟨rfl, rfl, rfl, rfl⟩ | (exfalso; omega)
          · refine z_pushJ gp_160_31 ?_
            refine z_goto gi_160_32 ?_
            refine z_bret1 gi_160_36 gr_160 ?_
            first | exact ⟨rfl, rfl, rfl, rfl⟩ | (exfalso; omega)
    · refine z_pushJ gp_148_10 ?_
      refine z_goto gi_148_11 ?_
      refine z_bret1 gi_148_15 gr_148 ?_
      show zW _ _ _ _ _ _ _ _ _ _
      refine z_if_eqF gi_160_6 zr_1 (by decide) ?_
      refine z_aload0 gi_160_9 ?_
      refine z_iload1 gi_160_10 ?_
      refine z_cV1 gi_160_11 gk_50 go_151 (Nat.le_of_ble_eq_true rfl) gc_151_RI ?_
      refine z_iload1 gi_151_0 ?_
      refine z_pushJ gp_151_1 ?_
      refine z_aload0 gi_151_2 ?_
      refine z_getI (v := n) gi_151_3 gk_50 (hz) ?_
      refine z_pushJ gp_151_6 ?_
      refine z_isub (e := n - 1) gi_151_7 rfl ?_
      refine z_cS3 gi_151_8 (Nat.le_of_ble_eq_true rfl) gc_148_III ?_
      refine z_iload0 gi_148_0 ?_
      refine z_iload1 gi_148_1 ?_
      refine z_icmp_lt gi_148_2 (by omega) zr_0 (fun h9 => ?_) (fun h9 => ?_)
      · refine z_pushJ gp_148_14 ?_
        refine z_bret0 gi_148_15 gr_148 ?_
        show zW _ _ _ _ _ _ _ _ _ _
        refine z_bret0 gi_151_11 gr_151 ?_
        show zW _ _ _ _ _ _ _ _ _ _
        refine z_goto gi_160_14 ?_
        refine z_bret0 gi_160_36 gr_160 ?_
        first | exact ⟨rfl, rfl, rfl, rfl⟩ | (exfalso; omega)
      · refine z_iload0 gi_148_5 ?_
        refine z_iload2 gi_148_6 ?_
        refine z_icmp_gt gi_148_7 (by omega) (by omega) (fun h10 => ?_) (fun h10 => ?_)
        · refine z_pushJ gp_148_14 ?_
          refine z_bret0 gi_148_15 gr_148 ?_
          show zW _ _ _ _ _ _ _ _ _ _
          refine z_bret0 gi_151_11 gr_151 ?_
          show zW _ _ _ _ _ _ _ _ _ _
          refine z_goto gi_160_14 ?_
          refine z_bret0 gi_160_36 gr_160 ?_
          first | exact ⟨rfl, rfl, rfl, rfl⟩ | (exfalso; omega)
        · refine z_pushJ gp_148_10 ?_
          refine z_goto gi_148_11 ?_
          refine z_bret1 gi_148_15 gr_148 ?_
          show zW _ _ _ _ _ _ _ _ _ _
          refine z_bret1 gi_151_11 gr_151 ?_
          show zW _ _ _ _ _ _ _ _ _ _
          refine z_goto gi_160_14 ?_
          refine z_bret1 gi_160_36 gr_160 ?_
          first | exact ⟨rfl, rfl, rfl, rfl⟩ | (exfalso; omega)
theorem isOne_0 {X : Nat × (Nat → Int32)} {d : Nat} {J M : zA} {R : zR} {n p w : Int} (hR : zRoR R) (hz : J 50 1 = n) (hn : 0 ≤ n ∧ n ≤ 8) (hp : -2147483648 ≤ p ∧ p < 2147483648) (hw : -2147483648 ≤ w ∧ w < 2147483648) (hV : ¬ zV n p w) : zW X (d + 3) 160 0 (gEn 160 [(.ref 50), (zi p), (zi w)]) [] J M R (zPu (0) J M R) := by
  show zW _ _ _ _ [some (.ref 50), some (zi p), some (zi w)] _ _ _ _ _
  refine z_iload2 gi_160_0 ?_
  refine z_pushJ gp_160_1 ?_
  refine z_pushJ gp_160_2 ?_
  refine z_cS3 gi_160_3 (Nat.le_of_ble_eq_true rfl) gc_148_III ?_
  refine z_iload0 gi_148_0 ?_
  refine z_iload1 gi_148_1 ?_
  refine z_icmp_lt gi_148_2 (by omega) zr_0 (fun h1 => ?_) (fun h1 => ?_)
  · refine z_pushJ gp_148_14 ?_
    refine z_bret0 gi_148_15 gr_148 ?_
    show zW _ _ _ _ _ _ _ _ _ _
    refine z_if_eqT gi_160_6 zr_0 (by decide) ?_
    refine z_iload2 gi_160_17 ?_
    refine z_pushJ gp_160_18 ?_
    refine z_pushJ gp_160_19 ?_
    refine z_cS3 gi_160_21 (Nat.le_of_ble_eq_true rfl) gc_148_III ?_
    refine z_iload0 gi_148_0 ?_
    refine z_iload1 gi_148_1 ?_
    refine z_icmp_lt gi_148_2 (by omega) zr_5 (fun h2 => ?_) (fun h2 => ?_)
    · refine z_pushJ gp_148_14 ?_
      refine z_bret0 gi_148_15 gr_148 ?_
      show zW _ _ _ _ _ _ _ _ _ _
      refine z_if_eqT gi_160_24 zr_0 (by decide) ?_
      refine z_pushJ gp_160_35 ?_
      refine z_bret0 gi_160_36 gr_160 ?_
      first | exact ⟨rfl, rfl, rfl, rfl⟩ | (exfalso; omega)
    · refine z_iload0 gi_148_5 ?_
      refine z_iload2 gi_148_6 ?_
      refine z_icmp_gt gi_148_7 (by omega) zr_13 (fun h3 => ?_) (fun h3 => ?_)
      · refine z_pushJ gp_148_14 ?_
        refine z_bret0 gi_148_15 gr_148 ?_
        show zW _ _ _ _ _ _ _ _ _ _
        refine z_if_eqT gi_160_24 zr_0 (by decide) ?_
        refine z_pushJ gp_160_35 ?_
        refine z_bret0 gi_160_36 gr_160 ?_
        first | exact ⟨rfl, rfl, rfl, rfl⟩ | (exfalso; omega)
      · refine z_pushJ gp_148_10 ?_
        refine z_goto gi_148_11 ?_
        refine z_bret1 gi_148_15 gr_148 ?_
        show zW _ _ _ _ _ _ _ _ _ _
        refine z_if_eqF gi_160_24 zr_1 (by decide) ?_
        refine z_iload1 gi_160_27 ?_
        refine z_if_ne gi_160_28 (by omega) (fun h4 => ?_) (fun h4 => ?_)
        · refine z_pushJ gp_160_35 ?_
          refine z_bret0 gi_160_36 gr_160 ?_
          first | exact ⟨rfl, rfl, rfl, rfl⟩ | (exfalso; omega)
        · refine z_pushJ gp_160_31 ?_
          refine z_goto gi_160_32 ?_
          refine z_bret1 gi_160_36 gr_160 ?_
          first | exact ⟨rfl, rfl, rfl, rfl⟩ | (exfalso; omega)
  · refine z_iload0 gi_148_5 ?_
    refine z_iload2 gi_148_6 ?_
    refine z_icmp_gt gi_148_7 (by omega) zr_4 (fun h5 => ?_) (fun h5 => ?_)
    · refine z_pushJ gp_148_14 ?_
      refine z_bret0 gi_148_15 gr_148 ?_
      show zW _ _ _ _ _ _ _ _ _ _
      refine z_if_eqT gi_160_6 zr_0 (by decide) ?_
      refine z_iload2 gi_160_17 ?_
      refine z_pushJ gp_160_18 ?_
      refine z_pushJ gp_160_19 ?_
      refine z_cS3 gi_160_21 (Nat.le_of_ble_eq_true rfl) gc_148_III ?_
      refine z_iload0 gi_148_0 ?_
      refine z_iload1 gi_148_1 ?_
      refine z_icmp_lt gi_148_2 (by omega) zr_5 (fun h6 => ?_) (fun h6 => ?_)
      · refine z_pushJ gp_148_14 ?_
        refine z_bret0 gi_148_15 gr_148 ?_
        show zW _ _ _ _ _ _ _ _ _ _
        refine z_if_eqT gi_160_24 zr_0 (by decide) ?_
        refine z_pushJ gp_160_35 ?_
        refine z_bret0 gi_160_36 gr_160 ?_
        first | exact ⟨rfl, rfl, rfl, rfl⟩ | (exfalso; omega)
      · refine z_iload0 gi_148_5 ?_
        refine z_iload2 gi_148_6 ?_
        refine z_icmp_gt gi_148_7 (by omega) zr_13 (fun h7 => ?_) (fun h7 => ?_)
        · refine z_pushJ gp_148_14 ?_
          refine z_bret0 gi_148_15 gr_148 ?_
          show zW _ _ _ _ _ _ _ _ _ _
          refine z_if_eqT gi_160_24 zr_0 (by decide) ?_
          refine z_pushJ gp_160_35 ?_
          refine z_bret0 gi_160_36 gr_160 ?_
          first | exact ⟨rfl, rfl, rfl, rfl⟩ | (exfalso; omega)
        · refine z_pushJ gp_148_10 ?_
          refine z_goto gi_148_11 ?_
          refine z_bret1 gi_148_15 gr_148 ?_
          show zW _ _ _ _ _ _ _ _ _ _
          refine z_if_eqF gi_160_24 zr_1 (by decide) ?_
          refine z_iload1 gi_160_27 ?_
          refine z_if_ne gi_160_28 (by omega) (fun h8 => ?_) (fun h8 => ?_)
          · refine z_pushJ gp_160_35 ?_
            refine z_bret0 gi_160_36 gr_160 ?_
            first | exact ⟨rfl, rfl, rfl, rfl⟩ | (exfalso; omega)
          · refine z_pushJ gp_160_31 ?_
            refine z_goto gi_160_32 ?_
            refine z_bret1 gi_160_36 gr_160 ?_
            first | exact ⟨rfl, rfl, rfl, rfl⟩ | (exfalso; omega)
    · refine z_pushJ gp_148_10 ?_
      refine z_goto gi_148_11 ?_
      refine z_bret1 gi_148_15 gr_148 ?_
      show zW _ _ _ _ _ _ _ _ _ _
      refine z_if_eqF gi_160_6 zr_1 (by decide) ?_
      refine z_aload0 gi_160_9 ?_
      refine z_iload1 gi_160_10 ?_
      refine z_cV1 gi_160_11 gk_50 go_151 (Nat.le_of_ble_eq_true rfl) gc_151_RI ?_
      refine z_iload1 gi_151_0 ?_
      refine z_pushJ gp_151_1 ?_
      refine z_aload0 gi_151_2 ?_
      refine z_getI (v := n) gi_151_3 gk_50 (hz) ?_
      refine z_pushJ gp_151_6 ?_
      refine z_isub (e := n - 1) gi_151_7 rfl ?_
      refine z_cS3 gi_151_8 (Nat.le_of_ble_eq_true rfl) gc_148_III ?_
      refine z_iload0 gi_148_0 ?_
      refine z_iload1 gi_148_1 ?_
      refine z_icmp_lt gi_148_2 (by omega) zr_0 (fun h9 => ?_) (fun h9 => ?_)
      · refine z_pushJ gp_148_14 ?_
        refine z_bret0 gi_148_15 gr_148 ?_
        show zW _ _ _ _ _ _ _ _ _ _
        refine z_bret0 gi_151_11 gr_151 ?_
        show zW _ _ _ _ _ _ _ _ _ _
        refine z_goto gi_160_14 ?_
        refine z_bret0 gi_160_36 gr_160 ?_
        first | exact ⟨rfl, rfl, rfl, rfl⟩ | (exfalso; omega)
      · refine z_iload0 gi_148_5 ?_
        refine z_iload2 gi_148_6 ?_
        refine z_icmp_gt gi_148_7 (by omega) (by omega) (fun h10 => ?_) (fun h10 => ?_)
        · refine z_pushJ gp_148_14 ?_
          refine z_bret0 gi_148_15 gr_148 ?_
          show zW _ _ _ _ _ _ _ _ _ _
          refine z_bret0 gi_151_11 gr_151 ?_
          show zW _ _ _ _ _ _ _ _ _ _
          refine z_goto gi_160_14 ?_
          refine z_bret0 gi_160_36 gr_160 ?_
          first | exact ⟨rfl, rfl, rfl, rfl⟩ | (exfalso; omega)
        · refine z_pushJ gp_148_10 ?_
          refine z_goto gi_148_11 ?_
          refine z_bret1 gi_148_15 gr_148 ?_
          show zW _ _ _ _ _ _ _ _ _ _
          refine z_bret1 gi_151_11 gr_151 ?_
          show zW _ _ _ _ _ _ _ _ _ _
          refine z_goto gi_160_14 ?_
          refine z_bret1 gi_160_36 gr_160 ?_
          first | exact ⟨rfl, rfl, rfl, rfl⟩ | (exfalso; omega)
theorem mayBe_1 {X : Nat × (Nat → Int32)} {d : Nat} {J M : zA} {R : zR} {v w : Int} (hv : -2147483648 ≤ v ∧ v < 2147483648) (hw : -2147483648 ≤ w ∧ w < 2147483648) (hw2 : 0 ≤ w ∧ w < 14) (hf : zT 2 w ≤ v ∧ v ≤ zT 3 w) : zW X (d + 1) 161 0 (gEn 161 [(zi w), (zi v)]) [] J M R (zPu (1) J M R) := by
  show zW _ _ _ _ [some (zi w), some (zi v)] _ _ _ _ _
  refine z_iload0 gi_161_0 ?_
  refine z_sw (T := [((3 : Int), 60), ((4 : Int), 68), ((5 : Int), 144), ((6 : Int), 76), ((7 : Int), 85), ((8 : Int), 93), ((9 : Int), 102), ((10 : Int), 111), ((11 : Int), 119), ((12 : Int), 128), ((13 : Int), 136)]) gi_161_1 (by omega) rfl (fun q hq1 hxhq1 => ?_) (fun hq1 => ?_)
  · simp only [List.mem_cons, List.not_mem_nil, or_false] at hq1
    rcases hq1 with rfl | rfl | rfl | rfl | rfl | rfl | rfl | rfl | rfl | rfl | rfl
    · have hxhq1 : w = 3 := hxhq1
      have q2 := zFit_at2 (w := w) (c := 3) (lo := 0) (hi := 9) rfl rfl (by omega)
      refine z_iload1 gi_161_60 ?_
      refine z_pushJ gp_161_61 ?_
      refine z_pushJ gp_161_62 ?_
      refine z_cS3 gi_161_64 (Nat.le_of_ble_eq_true rfl) gc_148_III ?_
      refine z_iload0 gi_148_0 ?_
      refine z_iload1 gi_148_1 ?_
      refine z_icmp_lt gi_148_2 (by omega) zr_0 (fun h3 => ?_) (fun h3 => ?_)
      · refine z_pushJ gp_148_14 ?_
        refine z_bret0 gi_148_15 gr_148 ?_
        show zW _ _ _ _ _ _ _ _ _ _
        refine z_bret0 gi_161_67 gr_161 ?_
        first | exact ⟨rfl, rfl, rfl, rfl⟩ | (exfalso; omega)
      · refine z_iload0 gi_148_5 ?_
        refine z_iload2 gi_148_6 ?_
        refine z_icmp_gt gi_148_7 (by omega) zr_9 (fun h4 => ?_) (fun h4 => ?_)
        · refine z_pushJ gp_148_14 ?_
          refine z_bret0 gi_148_15 gr_148 ?_
          show zW _ _ _ _ _ _ _ _ _ _
          refine z_bret0 gi_161_67 gr_161 ?_
          first | exact ⟨rfl, rfl, rfl, rfl⟩ | (exfalso; omega)
        · refine z_pushJ gp_148_10 ?_
          refine z_goto gi_148_11 ?_
          refine z_bret1 gi_148_15 gr_148 ?_
          show zW _ _ _ _ _ _ _ _ _ _
          refine z_bret1 gi_161_67 gr_161 ?_
          first | exact ⟨rfl, rfl, rfl, rfl⟩ | (exfalso; omega)
    · have hxhq1 : w = 4 := hxhq1
      have q5 := zFit_at2 (w := w) (c := 4) (lo := 0) (hi := 9) rfl rfl (by omega)
      refine z_iload1 gi_161_68 ?_
      refine z_pushJ gp_161_69 ?_
      refine z_pushJ gp_161_70 ?_
      refine z_cS3 gi_161_72 (Nat.le_of_ble_eq_true rfl) gc_148_III ?_
      refine z_iload0 gi_148_0 ?_
      refine z_iload1 gi_148_1 ?_
      refine z_icmp_lt gi_148_2 (by omega) zr_0 (fun h6 => ?_) (fun h6 => ?_)
      · refine z_pushJ gp_148_14 ?_
        refine z_bret0 gi_148_15 gr_148 ?_
        show zW _ _ _ _ _ _ _ _ _ _
        refine z_bret0 gi_161_75 gr_161 ?_
        first | exact ⟨rfl, rfl, rfl, rfl⟩ | (exfalso; omega)
      · refine z_iload0 gi_148_5 ?_
        refine z_iload2 gi_148_6 ?_
        refine z_icmp_gt gi_148_7 (by omega) zr_9 (fun h7 => ?_) (fun h7 => ?_)
        · refine z_pushJ gp_148_14 ?_
          refine z_bret0 gi_148_15 gr_148 ?_
          show zW _ _ _ _ _ _ _ _ _ _
          refine z_bret0 gi_161_75 gr_161 ?_
          first | exact ⟨rfl, rfl, rfl, rfl⟩ | (exfalso; omega)
        · refine z_pushJ gp_148_10 ?_
          refine z_goto gi_148_11 ?_
          refine z_bret1 gi_148_15 gr_148 ?_
          show zW _ _ _ _ _ _ _ _ _ _
          refine z_bret1 gi_161_75 gr_161 ?_
          first | exact ⟨rfl, rfl, rfl, rfl⟩ | (exfalso; omega)
    · have hxhq1 : w = 5 := hxhq1
      have q8 := zFit_at2 (w := w) (c := 5) (lo := 0) (hi := 99) rfl rfl (by omega)
      refine z_iload1 gi_161_144 ?_
      refine z_pushJ gp_161_145 ?_
      refine z_pushJ gp_161_146 ?_
      refine z_cS3 gi_161_148 (Nat.le_of_ble_eq_true rfl) gc_148_III ?_
      refine z_iload0 gi_148_0 ?_
      refine z_iload1 gi_148_1 ?_
      refine z_icmp_lt gi_148_2 (by omega) zr_0 (fun h9 => ?_) (fun h9 => ?_)
      · refine z_pushJ gp_148_14 ?_
        refine z_bret0 gi_148_15 gr_148 ?_
        show zW _ _ _ _ _ _ _ _ _ _
        refine z_bret0 gi_161_151 gr_161 ?_
        first | exact ⟨rfl, rfl, rfl, rfl⟩ | (exfalso; omega)
      · refine z_iload0 gi_148_5 ?_
        refine z_iload2 gi_148_6 ?_
        refine z_icmp_gt gi_148_7 (by omega) zr_99 (fun h10 => ?_) (fun h10 => ?_)
        · refine z_pushJ gp_148_14 ?_
          refine z_bret0 gi_148_15 gr_148 ?_
          show zW _ _ _ _ _ _ _ _ _ _
          refine z_bret0 gi_161_151 gr_161 ?_
          first | exact ⟨rfl, rfl, rfl, rfl⟩ | (exfalso; omega)
        · refine z_pushJ gp_148_10 ?_
          refine z_goto gi_148_11 ?_
          refine z_bret1 gi_148_15 gr_148 ?_
          show zW _ _ _ _ _ _ _ _ _ _
          refine z_bret1 gi_161_151 gr_161 ?_
          first | exact ⟨rfl, rfl, rfl, rfl⟩ | (exfalso; omega)
    · have hxhq1 : w = 6 := hxhq1
      have q11 := zFit_at2 (w := w) (c := 6) (lo := 0) (hi := 999) rfl rfl (by omega)
      refine z_iload1 gi_161_76 ?_
      refine z_pushJ gp_161_77 ?_
      refine z_pushJ gp_161_78 ?_
      refine z_cS3 gi_161_81 (Nat.le_of_ble_eq_true rfl) gc_148_III ?_
      refine z_iload0 gi_148_0 ?_
      refine z_iload1 gi_148_1 ?_
      refine z_icmp_lt gi_148_2 (by omega) zr_0 (fun h12 => ?_) (fun h12 => ?_)
      · refine z_pushJ gp_148_14 ?_
        refine z_bret0 gi_148_15 gr_148 ?_
        show zW _ _ _ _ _ _ _ _ _ _
        refine z_bret0 gi_161_84 gr_161 ?_
        first | exact ⟨rfl, rfl, rfl, rfl⟩ | (exfalso; omega)
      · refine z_iload0 gi_148_5 ?_
        refine z_iload2 gi_148_6 ?_
        refine z_icmp_gt gi_148_7 (by omega) (by decide) (fun h13 => ?_) (fun h13 => ?_)
        · refine z_pushJ gp_148_14 ?_
          refine z_bret0 gi_148_15 gr_148 ?_
          show zW _ _ _ _ _ _ _ _ _ _
          refine z_bret0 gi_161_84 gr_161 ?_
          first | exact ⟨rfl, rfl, rfl, rfl⟩ | (exfalso; omega)
        · refine z_pushJ gp_148_10 ?_
          refine z_goto gi_148_11 ?_
          refine z_bret1 gi_148_15 gr_148 ?_
          show zW _ _ _ _ _ _ _ _ _ _
          refine z_bret1 gi_161_84 gr_161 ?_
          first | exact ⟨rfl, rfl, rfl, rfl⟩ | (exfalso; omega)
    · have hxhq1 : w = 7 := hxhq1
      have q14 := zFit_at2 (w := w) (c := 7) (lo := 1) (hi := 99) rfl rfl (by omega)
      refine z_iload1 gi_161_85 ?_
      refine z_pushJ gp_161_86 ?_
      refine z_pushJ gp_161_87 ?_
      refine z_cS3 gi_161_89 (Nat.le_of_ble_eq_true rfl) gc_148_III ?_
      refine z_iload0 gi_148_0 ?_
      refine z_iload1 gi_148_1 ?_
      refine z_icmp_lt gi_148_2 (by omega) zr_1 (fun h15 => ?_) (fun h15 => ?_)
      · refine z_pushJ gp_148_14 ?_
        refine z_bret0 gi_148_15 gr_148 ?_
        show zW _ _ _ _ _ _ _ _ _ _
        refine z_bret0 gi_161_92 gr_161 ?_
        first | exact ⟨rfl, rfl, rfl, rfl⟩ | (exfalso; omega)
      · refine z_iload0 gi_148_5 ?_
        refine z_iload2 gi_148_6 ?_
        refine z_icmp_gt gi_148_7 (by omega) zr_99 (fun h16 => ?_) (fun h16 => ?_)
        · refine z_pushJ gp_148_14 ?_
          refine z_bret0 gi_148_15 gr_148 ?_
          show zW _ _ _ _ _ _ _ _ _ _
          refine z_bret0 gi_161_92 gr_161 ?_
          first | exact ⟨rfl, rfl, rfl, rfl⟩ | (exfalso; omega)
        · refine z_pushJ gp_148_10 ?_
          refine z_goto gi_148_11 ?_
          refine z_bret1 gi_148_15 gr_148 ?_
          show zW _ _ _ _ _ _ _ _ _ _
          refine z_bret1 gi_161_92 gr_161 ?_
          first | exact ⟨rfl, rfl, rfl, rfl⟩ | (exfalso; omega)
    · have hxhq1 : w = 8 := hxhq1
      have q17 := zFit_at2 (w := w) (c := 8) (lo := 0) (hi := 9999) rfl rfl (by omega)
      refine z_iload1 gi_161_93 ?_
      refine z_pushJ gp_161_94 ?_
      refine z_pushJ gp_161_95 ?_
      refine z_cS3 gi_161_98 (Nat.le_of_ble_eq_true rfl) gc_148_III ?_
      refine z_iload0 gi_148_0 ?_
      refine z_iload1 gi_148_1 ?_
      refine z_icmp_lt gi_148_2 (by omega) zr_0 (fun h18 => ?_) (fun h18 => ?_)
      · refine z_pushJ gp_148_14 ?_
        refine z_bret0 gi_148_15 gr_148 ?_
        show zW _ _ _ _ _ _ _ _ _ _
        refine z_bret0 gi_161_101 gr_161 ?_
        first | exact ⟨rfl, rfl, rfl, rfl⟩ | (exfalso; omega)
      · refine z_iload0 gi_148_5 ?_
        refine z_iload2 gi_148_6 ?_
        refine z_icmp_gt gi_148_7 (by omega) (by decide) (fun h19 => ?_) (fun h19 => ?_)
        · refine z_pushJ gp_148_14 ?_
          refine z_bret0 gi_148_15 gr_148 ?_
          show zW _ _ _ _ _ _ _ _ _ _
          refine z_bret0 gi_161_101 gr_161 ?_
          first | exact ⟨rfl, rfl, rfl, rfl⟩ | (exfalso; omega)
        · refine z_pushJ gp_148_10 ?_
          refine z_goto gi_148_11 ?_
          refine z_bret1 gi_148_15 gr_148 ?_
          show zW _ _ _ _ _ _ _ _ _ _
          refine z_bret1 gi_161_101 gr_161 ?_
          first | exact ⟨rfl, rfl, rfl, rfl⟩ | (exfalso; omega)
    · have hxhq1 : w = 9 := hxhq1
      have q20 := zFit_at2 (w := w) (c := 9) (lo := 0) (hi := 9999) rfl rfl (by omega)
      refine z_iload1 gi_161_102 ?_
      refine z_pushJ gp_161_103 ?_
      refine z_pushJ gp_161_104 ?_
      refine z_cS3 gi_161_107 (Nat.le_of_ble_eq_true rfl) gc_148_III ?_
      refine z_iload0 gi_148_0 ?_
      refine z_iload1 gi_148_1 ?_
      refine z_icmp_lt gi_148_2 (by omega) zr_0 (fun h21 => ?_) (fun h21 => ?_)
      · refine z_pushJ gp_148_14 ?_
        refine z_bret0 gi_148_15 gr_148 ?_
        show zW _ _ _ _ _ _ _ _ _ _
        refine z_bret0 gi_161_110 gr_161 ?_
        first | exact ⟨rfl, rfl, rfl, rfl⟩ | (exfalso; omega)
      · refine z_iload0 gi_148_5 ?_
        refine z_iload2 gi_148_6 ?_
        refine z_icmp_gt gi_148_7 (by omega) (by decide) (fun h22 => ?_) (fun h22 => ?_)
        · refine z_pushJ gp_148_14 ?_
          refine z_bret0 gi_148_15 gr_148 ?_
          show zW _ _ _ _ _ _ _ _ _ _
          refine z_bret0 gi_161_110 gr_161 ?_
          first | exact ⟨rfl, rfl, rfl, rfl⟩ | (exfalso; omega)
        · refine z_pushJ gp_148_10 ?_
          refine z_goto gi_148_11 ?_
          refine z_bret1 gi_148_15 gr_148 ?_
          show zW _ _ _ _ _ _ _ _ _ _
          refine z_bret1 gi_161_110 gr_161 ?_
          first | exact ⟨rfl, rfl, rfl, rfl⟩ | (exfalso; omega)
    · have hxhq1 : w = 10 := hxhq1
      have q23 := zFit_at2 (w := w) (c := 10) (lo := 0) (hi := 12) rfl rfl (by omega)
      refine z_iload1 gi_161_111 ?_
      refine z_pushJ gp_161_112 ?_
      refine z_pushJ gp_161_113 ?_
      refine z_cS3 gi_161_115 (Nat.le_of_ble_eq_true rfl) gc_148_III ?_
      refine z_iload0 gi_148_0 ?_
      refine z_iload1 gi_148_1 ?_
      refine z_icmp_lt gi_148_2 (by omega) zr_0 (fun h24 => ?_) (fun h24 => ?_)
      · refine z_pushJ gp_148_14 ?_
        refine z_bret0 gi_148_15 gr_148 ?_
        show zW _ _ _ _ _ _ _ _ _ _
        refine z_bret0 gi_161_118 gr_161 ?_
        first | exact ⟨rfl, rfl, rfl, rfl⟩ | (exfalso; omega)
      · refine z_iload0 gi_148_5 ?_
        refine z_iload2 gi_148_6 ?_
        refine z_icmp_gt gi_148_7 (by omega) zr_12 (fun h25 => ?_) (fun h25 => ?_)
        · refine z_pushJ gp_148_14 ?_
          refine z_bret0 gi_148_15 gr_148 ?_
          show zW _ _ _ _ _ _ _ _ _ _
          refine z_bret0 gi_161_118 gr_161 ?_
          first | exact ⟨rfl, rfl, rfl, rfl⟩ | (exfalso; omega)
        · refine z_pushJ gp_148_10 ?_
          refine z_goto gi_148_11 ?_
          refine z_bret1 gi_148_15 gr_148 ?_
          show zW _ _ _ _ _ _ _ _ _ _
          refine z_bret1 gi_161_118 gr_161 ?_
          first | exact ⟨rfl, rfl, rfl, rfl⟩ | (exfalso; omega)
    · have hxhq1 : w = 11 := hxhq1
      have q26 := zFit_at2 (w := w) (c := 11) (lo := 0) (hi := 9999) rfl rfl (by omega)
      refine z_iload1 gi_161_119 ?_
      refine z_pushJ gp_161_120 ?_
      refine z_pushJ gp_161_121 ?_
      refine z_cS3 gi_161_124 (Nat.le_of_ble_eq_true rfl) gc_148_III ?_
      refine z_iload0 gi_148_0 ?_
      refine z_iload1 gi_148_1 ?_
      refine z_icmp_lt gi_148_2 (by omega) zr_0 (fun h27 => ?_) (fun h27 => ?_)
      · refine z_pushJ gp_148_14 ?_
        refine z_bret0 gi_148_15 gr_148 ?_
        show zW _ _ _ _ _ _ _ _ _ _
        refine z_bret0 gi_161_127 gr_161 ?_
        first | exact ⟨rfl, rfl, rfl, rfl⟩ | (exfalso; omega)
      · refine z_iload0 gi_148_5 ?_
        refine z_iload2 gi_148_6 ?_
        refine z_icmp_gt gi_148_7 (by omega) (by decide) (fun h28 => ?_) (fun h28 => ?_)
        · refine z_pushJ gp_148_14 ?_
          refine z_bret0 gi_148_15 gr_148 ?_
          show zW _ _ _ _ _ _ _ _ _ _
          refine z_bret0 gi_161_127 gr_161 ?_
          first | exact ⟨rfl, rfl, rfl, rfl⟩ | (exfalso; omega)
        · refine z_pushJ gp_148_10 ?_
          refine z_goto gi_148_11 ?_
          refine z_bret1 gi_148_15 gr_148 ?_
          show zW _ _ _ _ _ _ _ _ _ _
          refine z_bret1 gi_161_127 gr_161 ?_
          first | exact ⟨rfl, rfl, rfl, rfl⟩ | (exfalso; omega)
    · have hxhq1 : w = 12 := hxhq1
      have q29 := zFit_at2 (w := w) (c := 12) (lo := 1) (hi := 99) rfl rfl (by omega)
      refine z_iload1 gi_161_128 ?_
      refine z_pushJ gp_161_129 ?_
      refine z_pushJ gp_161_130 ?_
      refine z_cS3 gi_161_132 (Nat.le_of_ble_eq_true rfl) gc_148_III ?_
      refine z_iload0 gi_148_0 ?_
      refine z_iload1 gi_148_1 ?_
      refine z_icmp_lt gi_148_2 (by omega) zr_1 (fun h30 => ?_) (fun h30 => ?_)
      · refine z_pushJ gp_148_14 ?_
        refine z_bret0 gi_148_15 gr_148 ?_
        show zW _ _ _ _ _ _ _ _ _ _
        refine z_bret0 gi_161_135 gr_161 ?_
        first | exact ⟨rfl, rfl, rfl, rfl⟩ | (exfalso; omega)
      · refine z_iload0 gi_148_5 ?_
        refine z_iload2 gi_148_6 ?_
        refine z_icmp_gt gi_148_7 (by omega) zr_99 (fun h31 => ?_) (fun h31 => ?_)
        · refine z_pushJ gp_148_14 ?_
          refine z_bret0 gi_148_15 gr_148 ?_
          show zW _ _ _ _ _ _ _ _ _ _
          refine z_bret0 gi_161_135 gr_161 ?_
          first | exact ⟨rfl, rfl, rfl, rfl⟩ | (exfalso; omega)
        · refine z_pushJ gp_148_10 ?_
          refine z_goto gi_148_11 ?_
          refine z_bret1 gi_148_15 gr_148 ?_
          show zW _ _ _ _ _ _ _ _ _ _
          refine z_bret1 gi_161_135 gr_161 ?_
          first | exact ⟨rfl, rfl, rfl, rfl⟩ | (exfalso; omega)
    · have hxhq1 : w = 13 := hxhq1
      have q32 := zFit_at2 (w := w) (c := 13) (lo := 1) (hi := 99) rfl rfl (by omega)
      refine z_iload1 gi_161_136 ?_
      refine z_pushJ gp_161_137 ?_
      refine z_pushJ gp_161_138 ?_
      refine z_cS3 gi_161_140 (Nat.le_of_ble_eq_true rfl) gc_148_III ?_
      refine z_iload0 gi_148_0 ?_
      refine z_iload1 gi_148_1 ?_
      refine z_icmp_lt gi_148_2 (by omega) zr_1 (fun h33 => ?_) (fun h33 => ?_)
      · refine z_pushJ gp_148_14 ?_
        refine z_bret0 gi_148_15 gr_148 ?_
        show zW _ _ _ _ _ _ _ _ _ _
        refine z_bret0 gi_161_143 gr_161 ?_
        first | exact ⟨rfl, rfl, rfl, rfl⟩ | (exfalso; omega)
      · refine z_iload0 gi_148_5 ?_
        refine z_iload2 gi_148_6 ?_
        refine z_icmp_gt gi_148_7 (by omega) zr_99 (fun h34 => ?_) (fun h34 => ?_)
        · refine z_pushJ gp_148_14 ?_
          refine z_bret0 gi_148_15 gr_148 ?_
          show zW _ _ _ _ _ _ _ _ _ _
          refine z_bret0 gi_161_143 gr_161 ?_
          first | exact ⟨rfl, rfl, rfl, rfl⟩ | (exfalso; omega)
        · refine z_pushJ gp_148_10 ?_
          refine z_goto gi_148_11 ?_
          refine z_bret1 gi_148_15 gr_148 ?_
          show zW _ _ _ _ _ _ _ _ _ _
          refine z_bret1 gi_161_143 gr_161 ?_
          first | exact ⟨rfl, rfl, rfl, rfl⟩ | (exfalso; omega)
  · have hq1 : ∀ q ∈ [((3 : Int), 60), ((4 : Int), 68), ((5 : Int), 144), ((6 : Int), 76), ((7 : Int), 85), ((8 : Int), 93), ((9 : Int), 102), ((10 : Int), 111), ((11 : Int), 119), ((12 : Int), 128), ((13 : Int), 136)], ¬ w = q.1 := hq1
    have hq1_0 : ¬ w = 3 := hq1 (3, 60) (by simp)
    have hq1_1 : ¬ w = 4 := hq1 (4, 68) (by simp)
    have hq1_2 : ¬ w = 5 := hq1 (5, 144) (by simp)
    have hq1_3 : ¬ w = 6 := hq1 (6, 76) (by simp)
    have hq1_4 : ¬ w = 7 := hq1 (7, 85) (by simp)
    have hq1_5 : ¬ w = 8 := hq1 (8, 93) (by simp)
    have hq1_6 : ¬ w = 9 := hq1 (9, 102) (by simp)
    have hq1_7 : ¬ w = 10 := hq1 (10, 111) (by simp)
    have hq1_8 : ¬ w = 11 := hq1 (11, 119) (by simp)
    have hq1_9 : ¬ w = 12 := hq1 (12, 128) (by simp)
    have hq1_10 : ¬ w = 13 := hq1 (13, 136) (by simp)
    have q35 := zFit_d (w := w) (by omega)
    refine z_iload1 gi_161_144 ?_
    refine z_pushJ gp_161_145 ?_
    refine z_pushJ gp_161_146 ?_
    refine z_cS3 gi_161_148 (Nat.le_of_ble_eq_true rfl) gc_148_III ?_
    refine z_iload0 gi_148_0 ?_
    refine z_iload1 gi_148_1 ?_
    refine z_icmp_lt gi_148_2 (by omega) zr_0 (fun h36 => ?_) (fun h36 => ?_)
    · refine z_pushJ gp_148_14 ?_
      refine z_bret0 gi_148_15 gr_148 ?_
      show zW _ _ _ _ _ _ _ _ _ _
      refine z_bret0 gi_161_151 gr_161 ?_
      first | exact ⟨rfl, rfl, rfl, rfl⟩ | (exfalso; omega)
    · refine z_iload0 gi_148_5 ?_
      refine z_iload2 gi_148_6 ?_
      refine z_icmp_gt gi_148_7 (by omega) zr_99 (fun h37 => ?_) (fun h37 => ?_)
      · refine z_pushJ gp_148_14 ?_
        refine z_bret0 gi_148_15 gr_148 ?_
        show zW _ _ _ _ _ _ _ _ _ _
        refine z_bret0 gi_161_151 gr_161 ?_
        first | exact ⟨rfl, rfl, rfl, rfl⟩ | (exfalso; omega)
      · refine z_pushJ gp_148_10 ?_
        refine z_goto gi_148_11 ?_
        refine z_bret1 gi_148_15 gr_148 ?_
        show zW _ _ _ _ _ _ _ _ _ _
        refine z_bret1 gi_161_151 gr_161 ?_
        first | exact ⟨rfl, rfl, rfl, rfl⟩ | (exfalso; omega)
theorem mayBe_0 {X : Nat × (Nat → Int32)} {d : Nat} {J M : zA} {R : zR} {v w : Int} (hv : -2147483648 ≤ v ∧ v < 2147483648) (hw : -2147483648 ≤ w ∧ w < 2147483648) (hw2 : 0 ≤ w ∧ w < 14) (hf : ¬ (zT 2 w ≤ v ∧ v ≤ zT 3 w)) : zW X (d + 1) 161 0 (gEn 161 [(zi w), (zi v)]) [] J M R (zPu (0) J M R) := by
  show zW _ _ _ _ [some (zi w), some (zi v)] _ _ _ _ _
  refine z_iload0 gi_161_0 ?_
  refine z_sw (T := [((3 : Int), 60), ((4 : Int), 68), ((5 : Int), 144), ((6 : Int), 76), ((7 : Int), 85), ((8 : Int), 93), ((9 : Int), 102), ((10 : Int), 111), ((11 : Int), 119), ((12 : Int), 128), ((13 : Int), 136)]) gi_161_1 (by omega) rfl (fun q hq1 hxhq1 => ?_) (fun hq1 => ?_)
  · simp only [List.mem_cons, List.not_mem_nil, or_false] at hq1
    rcases hq1 with rfl | rfl | rfl | rfl | rfl | rfl | rfl | rfl | rfl | rfl | rfl
    · have hxhq1 : w = 3 := hxhq1
      have q2 := zFit_at2 (w := w) (c := 3) (lo := 0) (hi := 9) rfl rfl (by omega)
      refine z_iload1 gi_161_60 ?_
      refine z_pushJ gp_161_61 ?_
      refine z_pushJ gp_161_62 ?_
      refine z_cS3 gi_161_64 (Nat.le_of_ble_eq_true rfl) gc_148_III ?_
      refine z_iload0 gi_148_0 ?_
      refine z_iload1 gi_148_1 ?_
      refine z_icmp_lt gi_148_2 (by omega) zr_0 (fun h3 => ?_) (fun h3 => ?_)
      · refine z_pushJ gp_148_14 ?_
        refine z_bret0 gi_148_15 gr_148 ?_
        show zW _ _ _ _ _ _ _ _ _ _
        refine z_bret0 gi_161_67 gr_161 ?_
        first | exact ⟨rfl, rfl, rfl, rfl⟩ | (exfalso; omega)
      · refine z_iload0 gi_148_5 ?_
        refine z_iload2 gi_148_6 ?_
        refine z_icmp_gt gi_148_7 (by omega) zr_9 (fun h4 => ?_) (fun h4 => ?_)
        · refine z_pushJ gp_148_14 ?_
          refine z_bret0 gi_148_15 gr_148 ?_
          show zW _ _ _ _ _ _ _ _ _ _
          refine z_bret0 gi_161_67 gr_161 ?_
          first | exact ⟨rfl, rfl, rfl, rfl⟩ | (exfalso; omega)
        · refine z_pushJ gp_148_10 ?_
          refine z_goto gi_148_11 ?_
          refine z_bret1 gi_148_15 gr_148 ?_
          show zW _ _ _ _ _ _ _ _ _ _
          refine z_bret1 gi_161_67 gr_161 ?_
          first | exact ⟨rfl, rfl, rfl, rfl⟩ | (exfalso; omega)
    · have hxhq1 : w = 4 := hxhq1
      have q5 := zFit_at2 (w := w) (c := 4) (lo := 0) (hi := 9) rfl rfl (by omega)
      refine z_iload1 gi_161_68 ?_
      refine z_pushJ gp_161_69 ?_
      refine z_pushJ gp_161_70 ?_
      refine z_cS3 gi_161_72 (Nat.le_of_ble_eq_true rfl) gc_148_III ?_
      refine z_iload0 gi_148_0 ?_
      refine z_iload1 gi_148_1 ?_
      refine z_icmp_lt gi_148_2 (by omega) zr_0 (fun h6 => ?_) (fun h6 => ?_)
      · refine z_pushJ gp_148_14 ?_
        refine z_bret0 gi_148_15 gr_148 ?_
        show zW _ _ _ _ _ _ _ _ _ _
        refine z_bret0 gi_161_75 gr_161 ?_
        first | exact ⟨rfl, rfl, rfl, rfl⟩ | (exfalso; omega)
      · refine z_iload0 gi_148_5 ?_
        refine z_iload2 gi_148_6 ?_
        refine z_icmp_gt gi_148_7 (by omega) zr_9 (fun h7 => ?_) (fun h7 => ?_)
        · refine z_pushJ gp_148_14 ?_
          refine z_bret0 gi_148_15 gr_148 ?_
          show zW _ _ _ _ _ _ _ _ _ _
          refine z_bret0 gi_161_75 gr_161 ?_
          first | exact ⟨rfl, rfl, rfl, rfl⟩ | (exfalso; omega)
        · refine z_pushJ gp_148_10 ?_
          refine z_goto gi_148_11 ?_
          refine z_bret1 gi_148_15 gr_148 ?_
          show zW _ _ _ _ _ _ _ _ _ _
          refine z_bret1 gi_161_75 gr_161 ?_
          first | exact ⟨rfl, rfl, rfl, rfl⟩ | (exfalso; omega)
    · have hxhq1 : w = 5 := hxhq1
      have q8 := zFit_at2 (w := w) (c := 5) (lo := 0) (hi := 99) rfl rfl (by omega)
      refine z_iload1 gi_161_144 ?_
      refine z_pushJ gp_161_145 ?_
      refine z_pushJ gp_161_146 ?_
      refine z_cS3 gi_161_148 (Nat.le_of_ble_eq_true rfl) gc_148_III ?_
      refine z_iload0 gi_148_0 ?_
      refine z_iload1 gi_148_1 ?_
      refine z_icmp_lt gi_148_2 (by omega) zr_0 (fun h9 => ?_) (fun h9 => ?_)
      · refine z_pushJ gp_148_14 ?_
        refine z_bret0 gi_148_15 gr_148 ?_
        show zW _ _ _ _ _ _ _ _ _ _
        refine z_bret0 gi_161_151 gr_161 ?_
        first | exact ⟨rfl, rfl, rfl, rfl⟩ | (exfalso; omega)
      · refine z_iload0 gi_148_5 ?_
        refine z_iload2 gi_148_6 ?_
        refine z_icmp_gt gi_148_7 (by omega) zr_99 (fun h10 => ?_) (fun h10 => ?_)
        · refine z_pushJ gp_148_14 ?_
          refine z_bret0 gi_148_15 gr_148 ?_
          show zW _ _ _ _ _ _ _ _ _ _
          refine z_bret0 gi_161_151 gr_161 ?_
          first | exact ⟨rfl, rfl, rfl, rfl⟩ | (exfalso; omega)
        · refine z_pushJ gp_148_10 ?_
          refine z_goto gi_148_11 ?_
          refine z_bret1 gi_148_15 gr_148 ?_
          show zW _ _ _ _ _ _ _ _ _ _
          refine z_bret1 gi_161_151 gr_161 ?_
          first | exact ⟨rfl, rfl, rfl, rfl⟩ | (exfalso; omega)
    · have hxhq1 : w = 6 := hxhq1
      have q11 := zFit_at2 (w := w) (c := 6) (lo := 0) (hi := 999) rfl rfl (by omega)
      refine z_iload1 gi_161_76 ?_
      refine z_pushJ gp_161_77 ?_
      refine z_pushJ gp_161_78 ?_
      refine z_cS3 gi_161_81 (Nat.le_of_ble_eq_true rfl) gc_148_III ?_
      refine z_iload0 gi_148_0 ?_
      refine z_iload1 gi_148_1 ?_
      refine z_icmp_lt gi_148_2 (by omega) zr_0 (fun h12 => ?_) (fun h12 => ?_)
      · refine z_pushJ gp_148_14 ?_
        refine z_bret0 gi_148_15 gr_148 ?_
        show zW _ _ _ _ _ _ _ _ _ _
        refine z_bret0 gi_161_84 gr_161 ?_
        first | exact ⟨rfl, rfl, rfl, rfl⟩ | (exfalso; omega)
      · refine z_iload0 gi_148_5 ?_
        refine z_iload2 gi_148_6 ?_
        refine z_icmp_gt gi_148_7 (by omega) (by decide) (fun h13 => ?_) (fun h13 => ?_)
        · refine z_pushJ gp_148_14 ?_
          refine z_bret0 gi_148_15 gr_148 ?_
          show zW _ _ _ _ _ _ _ _ _ _
          refine z_bret0 gi_161_84 gr_161 ?_
          first | exact ⟨rfl, rfl, rfl, rfl⟩ | (exfalso; omega)
        · refine z_pushJ gp_148_10 ?_
          refine z_goto gi_148_11 ?_
          refine z_bret1 gi_148_15 gr_148 ?_
          show zW _ _ _ _ _ _ _ _ _ _
          refine z_bret1 gi_161_84 gr_161 ?_
          first | exact ⟨rfl, rfl, rfl, rfl⟩ | (exfalso; omega)
    · have hxhq1 : w = 7 := hxhq1
      have q14 := zFit_at2 (w := w) (c := 7) (lo := 1) (hi := 99) rfl rfl (by omega)
      refine z_iload1 gi_161_85 ?_
      refine z_pushJ gp_161_86 ?_
      refine z_pushJ gp_161_87 ?_
      refine z_cS3 gi_161_89 (Nat.le_of_ble_eq_true rfl) gc_148_III ?_
      refine z_iload0 gi_148_0 ?_
      refine z_iload1 gi_148_1 ?_
      refine z_icmp_lt gi_148_2 (by omega) zr_1 (fun h15 => ?_) (fun h15 => ?_)
      · refine z_pushJ gp_148_14 ?_
        refine z_bret0 gi_148_15 gr_148 ?_
        show zW _ _ _ _ _ _ _ _ _ _
        refine z_bret0 gi_161_92 gr_161 ?_
        first | exact ⟨rfl, rfl, rfl, rfl⟩ | (exfalso; omega)
      · refine z_iload0 gi_148_5 ?_
        refine z_iload2 gi_148_6 ?_
        refine z_icmp_gt gi_148_7 (by omega) zr_99 (fun h16 => ?_) (fun h16 => ?_)
        · refine z_pushJ gp_148_14 ?_
          refine z_bret0 gi_148_15 gr_148 ?_
          show zW _ _ _ _ _ _ _ _ _ _
          refine z_bret0 gi_161_92 gr_161 ?_
          first | exact ⟨rfl, rfl, rfl, rfl⟩ | (exfalso; omega)
        · refine z_pushJ gp_148_10 ?_
          refine z_goto gi_148_11 ?_
          refine z_bret1 gi_148_15 gr_148 ?_
          show zW _ _ _ _ _ _ _ _ _ _
          refine z_bret1 gi_161_92 gr_161 ?_
          first | exact ⟨rfl, rfl, rfl, rfl⟩ | (exfalso; omega)
    · have hxhq1 : w = 8 := hxhq1
      have q17 := zFit_at2 (w := w) (c := 8) (lo := 0) (hi := 9999) rfl rfl (by omega)
      refine z_iload1 gi_161_93 ?_
      refine z_pushJ gp_161_94 ?_
      refine z_pushJ gp_161_95 ?_
      refine z_cS3 gi_161_98 (Nat.le_of_ble_eq_true rfl) gc_148_III ?_
      refine z_iload0 gi_148_0 ?_
      refine z_iload1 gi_148_1 ?_
      refine z_icmp_lt gi_148_2 (by omega) zr_0 (fun h18 => ?_) (fun h18 => ?_)
      · refine z_pushJ gp_148_14 ?_
        refine z_bret0 gi_148_15 gr_148 ?_
        show zW _ _ _ _ _ _ _ _ _ _
        refine z_bret0 gi_161_101 gr_161 ?_
        first | exact ⟨rfl, rfl, rfl, rfl⟩ | (exfalso; omega)
      · refine z_iload0 gi_148_5 ?_
        refine z_iload2 gi_148_6 ?_
        refine z_icmp_gt gi_148_7 (by omega) (by decide) (fun h19 => ?_) (fun h19 => ?_)
        · refine z_pushJ gp_148_14 ?_
          refine z_bret0 gi_148_15 gr_148 ?_
          show zW _ _ _ _ _ _ _ _ _ _
          refine z_bret0 gi_161_101 gr_161 ?_
          first | exact ⟨rfl, rfl, rfl, rfl⟩ | (exfalso; omega)
        · refine z_pushJ gp_148_10 ?_
          refine z_goto gi_148_11 ?_
          refine z_bret1 gi_148_15 gr_148 ?_
          show zW _ _ _ _ _ _ _ _ _ _
          refine z_bret1 gi_161_101 gr_161 ?_
          first | exact ⟨rfl, rfl, rfl, rfl⟩ | (exfalso; omega)
    · have hxhq1 : w = 9 := hxhq1
      have q20 := zFit_at2 (w := w) (c := 9) (lo := 0) (hi := 9999) rfl rfl (by omega)
      refine z_iload1 gi_161_102 ?_
      refine z_pushJ gp_161_103 ?_
      refine z_pushJ gp_161_104 ?_
      refine z_cS3 gi_161_107 (Nat.le_of_ble_eq_true rfl) gc_148_III ?_
      refine z_iload0 gi_148_0 ?_
      refine z_iload1 gi_148_1 ?_
      refine z_icmp_lt gi_148_2 (by omega) zr_0 (fun h21 => ?_) (fun h21 => ?_)
      · refine z_pushJ gp_148_14 ?_
        refine z_bret0 gi_148_15 gr_148 ?_
        show zW _ _ _ _ _ _ _ _ _ _
        refine z_bret0 gi_161_110 gr_161 ?_
        first | exact ⟨rfl, rfl, rfl, rfl⟩ | (exfalso; omega)
      · refine z_iload0 gi_148_5 ?_
        refine z_iload2 gi_148_6 ?_
        refine z_icmp_gt gi_148_7 (by omega) (by decide) (fun h22 => ?_) (fun h22 => ?_)
        · refine z_pushJ gp_148_14 ?_
          refine z_bret0 gi_148_15 gr_148 ?_
          show zW _ _ _ _ _ _ _ _ _ _
          refine z_bret0 gi_161_110 gr_161 ?_
          first | exact ⟨rfl, rfl, rfl, rfl⟩ | (exfalso; omega)
        · refine z_pushJ gp_148_10 ?_
          refine z_goto gi_148_11 ?_
          refine z_bret1 gi_148_15 gr_148 ?_
          show zW _ _ _ _ _ _ _ _ _ _
          refine z_bret1 gi_161_110 gr_161 ?_
          first | exact ⟨rfl, rfl, rfl, rfl⟩ | (exfalso; omega)
    · have hxhq1 : w = 10 := hxhq1
      have q23 := zFit_at2 (w := w) (c := 10) (lo := 0) (hi := 12) rfl rfl (by omega)
      refine z_iload1 gi_161_111 ?_
      refine z_pushJ gp_161_112 ?_
      refine z_pushJ gp_161_113 ?_
      refine z_cS3 gi_161_115 (Nat.le_of_ble_eq_true rfl) gc_148_III ?_
      refine z_iload0 gi_148_0 ?_
      refine z_iload1 gi_148_1 ?_
      refine z_icmp_lt gi_148_2 (by omega) zr_0 (fun h24 => ?_) (fun h24 => ?_)
      · refine z_pushJ gp_148_14 ?_
        refine z_bret0 gi_148_15 gr_148 ?_
        show zW _ _ _ _ _ _ _ _ _ _
        refine z_bret0 gi_161_118 gr_161 ?_
        first | exact ⟨rfl, rfl, rfl, rfl⟩ | (exfalso; omega)
      · refine z_iload0 gi_148_5 ?_
        refine z_iload2 gi_148_6 ?_
        refine z_icmp_gt gi_148_7 (by omega) zr_12 (fun h25 => ?_) (fun h25 => ?_)
        · refine z_pushJ gp_148_14 ?_
          refine z_bret0 gi_148_15 gr_148 ?_
          show zW _ _ _ _ _ _ _ _ _ _
          refine z_bret0 gi_161_118 gr_161 ?_
          first | exact ⟨rfl, rfl, rfl, rfl⟩ | (exfalso; omega)
        · refine z_pushJ gp_148_10 ?_
          refine z_goto gi_148_11 ?_
          refine z_bret1 gi_148_15 gr_148 ?_
          show zW _ _ _ _ _ _ _ _ _ _
          refine z_bret1 gi_161_118 gr_161 ?_
          first | exact ⟨rfl, rfl, rfl, rfl⟩ | (exfalso; omega)
    · have hxhq1 : w = 11 := hxhq1
      have q26 := zFit_at2 (w := w) (c := 11) (lo := 0) (hi := 9999) rfl rfl (by omega)
      refine z_iload1 gi_161_119 ?_
      refine z_pushJ gp_161_120 ?_
      refine z_pushJ gp_161_121 ?_
      refine z_cS3 gi_161_124 (Nat.le_of_ble_eq_true rfl) gc_148_III ?_
      refine z_iload0 gi_148_0 ?_
      refine z_iload1 gi_148_1 ?_
      refine z_icmp_lt gi_148_2 (by omega) zr_0 (fun h27 => ?_) (fun h27 => ?_)
      · refine z_pushJ gp_148_14 ?_
        refine z_bret0 gi_148_15 gr_148 ?_
        show zW _ _ _ _ _ _ _ _ _ _
        refine z_bret0 gi_161_127 gr_161 ?_
        first | exact ⟨rfl, rfl, rfl, rfl⟩ | (exfalso; omega)
      · refine z_iload0 gi_148_5 ?_
        refine z_iload2 gi_148_6 ?_
        refine z_icmp_gt gi_148_7 (by omega) (by decide) (fun h28 => ?_) (fun h28 => ?_)
        · refine z_pushJ gp_148_14 ?_
          refine z_bret0 gi_148_15 gr_148 ?_
          show zW _ _ _ _ _ _ _ _ _ _
          refine z_bret0 gi_161_127 gr_161 ?_
          first | exact ⟨rfl, rfl, rfl, rfl⟩ | (exfalso; omega)
        · refine z_pushJ gp_148_10 ?_
          refine z_goto gi_148_11 ?_
          refine z_bret1 gi_148_15 gr_148 ?_
          show zW _ _ _ _ _ _ _ _ _ _
          refine z_bret1 gi_161_127 gr_161 ?_
          first | exact ⟨rfl, rfl, rfl, rfl⟩ | (exfalso; omega)
    · have hxhq1 : w = 12 := hxhq1
      have q29 := zFit_at2 (w := w) (c := 12) (lo := 1) (hi := 99) rfl rfl (by omega)
      refine z_iload1 gi_161_128 ?_
      refine z_pushJ gp_161_129 ?_
      refine z_pushJ gp_161_130 ?_
      refine z_cS3 gi_161_132 (Nat.le_of_ble_eq_true rfl) gc_148_III ?_
      refine z_iload0 gi_148_0 ?_
      refine z_iload1 gi_148_1 ?_
      refine z_icmp_lt gi_148_2 (by omega) zr_1 (fun h30 => ?_) (fun h30 => ?_)
      · refine z_pushJ gp_148_14 ?_
        refine z_bret0 gi_148_15 gr_148 ?_
        show zW _ _ _ _ _ _ _ _ _ _
        refine z_bret0 gi_161_135 gr_161 ?_
        first | exact ⟨rfl, rfl, rfl, rfl⟩ | (exfalso; omega)
      · refine z_iload0 gi_148_5 ?_
        refine z_iload2 gi_148_6 ?_
        refine z_icmp_gt gi_148_7 (by omega) zr_99 (fun h31 => ?_) (fun h31 => ?_)
        · refine z_pushJ gp_148_14 ?_
          refine z_bret0 gi_148_15 gr_148 ?_
          show zW _ _ _ _ _ _ _ _ _ _
          refine z_bret0 gi_161_135 gr_161 ?_
          first | exact ⟨rfl, rfl, rfl, rfl⟩ | (exfalso; omega)
        · refine z_pushJ gp_148_10 ?_
          refine z_goto gi_148_11 ?_
          refine z_bret1 gi_148_15 gr_148 ?_
          show zW _ _ _ _ _ _ _ _ _ _
          refine z_bret1 gi_161_135 gr_161 ?_
          first | exact ⟨rfl, rfl, rfl, rfl⟩ | (exfalso; omega)
    · have hxhq1 : w = 13 := hxhq1
      have q32 := zFit_at2 (w := w) (c := 13) (lo := 1) (hi := 99) rfl rfl (by omega)
      refine z_iload1 gi_161_136 ?_
      refine z_pushJ gp_161_137 ?_
      refine z_pushJ gp_161_138 ?_
      refine z_cS3 gi_161_140 (Nat.le_of_ble_eq_true rfl) gc_148_III ?_
      refine z_iload0 gi_148_0 ?_
      refine z_iload1 gi_148_1 ?_
      refine z_icmp_lt gi_148_2 (by omega) zr_1 (fun h33 => ?_) (fun h33 => ?_)
      · refine z_pushJ gp_148_14 ?_
        refine z_bret0 gi_148_15 gr_148 ?_
        show zW _ _ _ _ _ _ _ _ _ _
        refine z_bret0 gi_161_143 gr_161 ?_
        first | exact ⟨rfl, rfl, rfl, rfl⟩ | (exfalso; omega)
      · refine z_iload0 gi_148_5 ?_
        refine z_iload2 gi_148_6 ?_
        refine z_icmp_gt gi_148_7 (by omega) zr_99 (fun h34 => ?_) (fun h34 => ?_)
        · refine z_pushJ gp_148_14 ?_
          refine z_bret0 gi_148_15 gr_148 ?_
          show zW _ _ _ _ _ _ _ _ _ _
          refine z_bret0 gi_161_143 gr_161 ?_
          first | exact ⟨rfl, rfl, rfl, rfl⟩ | (exfalso; omega)
        · refine z_pushJ gp_148_10 ?_
          refine z_goto gi_148_11 ?_
          refine z_bret1 gi_148_15 gr_148 ?_
          show zW _ _ _ _ _ _ _ _ _ _
          refine z_bret1 gi_161_143 gr_161 ?_
          first | exact ⟨rfl, rfl, rfl, rfl⟩ | (exfalso; omega)
  · have hq1 : ∀ q ∈ [((3 : Int), 60), ((4 : Int), 68), ((5 : Int), 144), ((6 : Int), 76), ((7 : Int), 85), ((8 : Int), 93), ((9 : Int), 102), ((10 : Int), 111), ((11 : Int), 119), ((12 : Int), 128), ((13 : Int), 136)], ¬ w = q.1 := hq1
    have hq1_0 : ¬ w = 3 := hq1 (3, 60) (by simp)
    have hq1_1 : ¬ w = 4 := hq1 (4, 68) (by simp)
    have hq1_2 : ¬ w = 5 := hq1 (5, 144) (by simp)
    have hq1_3 : ¬ w = 6 := hq1 (6, 76) (by simp)
    have hq1_4 : ¬ w = 7 := hq1 (7, 85) (by simp)
    have hq1_5 : ¬ w = 8 := hq1 (8, 93) (by simp)
    have hq1_6 : ¬ w = 9 := hq1 (9, 102) (by simp)
    have hq1_7 : ¬ w = 10 := hq1 (10, 111) (by simp)
    have hq1_8 : ¬ w = 11 := hq1 (11, 119) (by simp)
    have hq1_9 : ¬ w = 12 := hq1 (12, 128) (by simp)
    have hq1_10 : ¬ w = 13 := hq1 (13, 136) (by simp)
    have q35 := zFit_d (w := w) (by omega)
    refine z_iload1 gi_161_144 ?_
    refine z_pushJ gp_161_145 ?_
    refine z_pushJ gp_161_146 ?_
    refine z_cS3 gi_161_148 (Nat.le_of_ble_eq_true rfl) gc_148_III ?_
    refine z_iload0 gi_148_0 ?_
    refine z_iload1 gi_148_1 ?_
    refine z_icmp_lt gi_148_2 (by omega) zr_0 (fun h36 => ?_) (fun h36 => ?_)
    · refine z_pushJ gp_148_14 ?_
      refine z_bret0 gi_148_15 gr_148 ?_
      show zW _ _ _ _ _ _ _ _ _ _
      refine z_bret0 gi_161_151 gr_161 ?_
      first | exact ⟨rfl, rfl, rfl, rfl⟩ | (exfalso; omega)
    · refine z_iload0 gi_148_5 ?_
      refine z_iload2 gi_148_6 ?_
      refine z_icmp_gt gi_148_7 (by omega) zr_99 (fun h37 => ?_) (fun h37 => ?_)
      · refine z_pushJ gp_148_14 ?_
        refine z_bret0 gi_148_15 gr_148 ?_
        show zW _ _ _ _ _ _ _ _ _ _
        refine z_bret0 gi_161_151 gr_161 ?_
        first | exact ⟨rfl, rfl, rfl, rfl⟩ | (exfalso; omega)
      · refine z_pushJ gp_148_10 ?_
        refine z_goto gi_148_11 ?_
        refine z_bret1 gi_148_15 gr_148 ?_
        show zW _ _ _ _ _ _ _ _ _ _
        refine z_bret1 gi_161_151 gr_161 ?_
        first | exact ⟨rfl, rfl, rfl, rfl⟩ | (exfalso; omega)
theorem rg_s {A J : zA} {N : Int → Int → Int} (h : zK kT A J) (hA : rN A = N) {w : Int} (hw : 5 ≤ w ∧ w < 14) : J 56 (w - 5) = N 0 w := (h 56 (w - 5) rfl).trans (by subst hA; exact (rN_g hw).symm)
theorem valueAt_s {X : Nat × (Nat → Int32)} {d : Nat} {J M : zA} {R : zR} {N : Int → Int → Int} {n : Int} (hR : zRoR R) (hA : rN J = N) (hz : J 50 1 = n) (hN : zNr n N) {p w : Int} (hp : -2147483648 ≤ p ∧ p < 2147483648) (hw : -2147483648 ≤ w ∧ w < 2147483648) (hV : zV n p w) : zW X (d + 1) 155 0 (gEn 155 [(.ref 50), (zi w), (zi p)]) [] J M R (zPu (N p w) J M R) := by
  have hJ : zK kT J J := zK_r
  have q0 := zNn hN
  show zW _ _ _ _ [some (.ref 50), some (zi w), some (zi p)] _ _ _ _ _
  refine z_iload1 rfl ?_
  refine z_sw (T := [((0 : Int), 36), ((1 : Int), 43), ((2 : Int), 50), ((3 : Int), 57), ((4 : Int), 64)]) rfl (by omega) rfl (fun q hq1 hxhq1 => ?_) (fun hq1 => ?_)
  · simp only [List.mem_cons, List.not_mem_nil, or_false] at hq1
    rcases hq1 with rfl | rfl | rfl | rfl | rfl
    · have hxhq1 : w = 0 := hxhq1
      refine z_aload0 rfl ?_
      refine z_getR (r := 51) rfl gk_50 (hR _ rm_50_2 (by decide)) ?_
      refine z_iload2 rfl ?_
      refine z_iald (v := N p 0) rfl gk_51 (by decide) (by omega) (rd_0 hJ hA hz (by omega)) ?_
      refine z_iret rfl gr_155 ?_
      rw [show w = 0 by omega]
      exact ⟨rfl, rfl, rfl, rfl⟩
    · have hxhq1 : w = 1 := hxhq1
      refine z_aload0 rfl ?_
      refine z_getR (r := 52) rfl gk_50 (hR _ rm_50_3 (by decide)) ?_
      refine z_iload2 rfl ?_
      refine z_iald (v := N p 1) rfl gk_52 (by decide) (by omega) (rd_1 hJ hA hz (by omega)) ?_
      refine z_iret rfl gr_155 ?_
      rw [show w = 1 by omega]
      exact ⟨rfl, rfl, rfl, rfl⟩
    · have hxhq1 : w = 2 := hxhq1
      refine z_aload0 rfl ?_
      refine z_getR (r := 53) rfl gk_50 (hR _ rm_50_4 (by decide)) ?_
      refine z_iload2 rfl ?_
      refine z_iald (v := N p 2) rfl gk_53 (by decide) (by omega) (rd_2 hJ hA hz (by omega)) ?_
      refine z_iret rfl gr_155 ?_
      rw [show w = 2 by omega]
      exact ⟨rfl, rfl, rfl, rfl⟩
    · have hxhq1 : w = 3 := hxhq1
      refine z_aload0 rfl ?_
      refine z_getR (r := 54) rfl gk_50 (hR _ rm_50_5 (by decide)) ?_
      refine z_iload2 rfl ?_
      refine z_iald (v := N p 3) rfl gk_54 (by decide) (by omega) (rd_3 hJ hA hz (by omega)) ?_
      refine z_iret rfl gr_155 ?_
      rw [show w = 3 by omega]
      exact ⟨rfl, rfl, rfl, rfl⟩
    · have hxhq1 : w = 4 := hxhq1
      refine z_aload0 rfl ?_
      refine z_getR (r := 55) rfl gk_50 (hR _ rm_50_6 (by decide)) ?_
      refine z_iload2 rfl ?_
      refine z_iald (v := N p 4) rfl gk_55 (by decide) (by omega) (rd_4 hJ hA hz (by omega)) ?_
      refine z_iret rfl gr_155 ?_
      rw [show w = 4 by omega]
      exact ⟨rfl, rfl, rfl, rfl⟩
  · have hq1 : ∀ q ∈ [((0 : Int), 36), ((1 : Int), 43), ((2 : Int), 50), ((3 : Int), 57), ((4 : Int), 64)], ¬ w = q.1 := hq1
    have hq1_0 : ¬ w = 0 := hq1 (0, 36) (by simp)
    have hq1_1 : ¬ w = 1 := hq1 (1, 43) (by simp)
    have hq1_2 : ¬ w = 2 := hq1 (2, 50) (by simp)
    have hq1_3 : ¬ w = 3 := hq1 (3, 57) (by simp)
    have hq1_4 : ¬ w = 4 := hq1 (4, 64) (by simp)
    refine z_aload0 rfl ?_
    refine z_getR (r := 56) rfl gk_50 (hR _ rm_50_7 (by decide)) ?_
    refine z_iload1 rfl ?_
    refine z_pushJ gp_155_76 ?_
    refine z_isub (e := w - 5) rfl rfl ?_
    refine z_iald (v := N 0 w) rfl gk_56 (by decide) (by omega) (rg_s hJ hA (by omega)) ?_
    refine z_iret rfl gr_155 ?_
    rw [show p = 0 by omega]
    exact ⟨rfl, rfl, rfl, rfl⟩
theorem lays_p {X : Nat × (Nat → Int32)} {d : Nat} {J M : zA} {R : zR} {n p w v : Int} (hR : zRoR R) (hz : J 50 1 = n) (hn : 0 ≤ n ∧ n ≤ 8) (hp : -2147483648 ≤ p ∧ p < 2147483648) (hw : -2147483648 ≤ w ∧ w < 2147483648) (hV : 0 ≤ w ∧ w < 5 ∧ 0 ≤ p ∧ p < n) : zW X (d + 1) 156 0 (gEn 156 [(.ref 50), (zi w), (zi p), (zi v)]) [] J M R (zPx none (zU J (51 + w.toNat) p v) M R) := by
  show zW _ _ _ _ [some (.ref 50), some (zi w), some (zi p), some (zi v)] _ _ _ _ _
  refine z_iload1 gi_156_0 ?_
  refine z_sw (T := [((0 : Int), 36), ((1 : Int), 46), ((2 : Int), 56), ((3 : Int), 66), ((4 : Int), 76)]) gi_156_1 (by omega) rfl (fun q hq1 hxhq1 => ?_) (fun hq1 => ?_)
  · simp only [List.mem_cons, List.not_mem_nil, or_false] at hq1
    rcases hq1 with rfl | rfl | rfl | rfl | rfl
    · have hxhq1 : w = 0 := hxhq1
      refine z_aload0 gi_156_36 ?_
      refine z_getR (r := 51) gi_156_37 gk_50 (hR _ rm_50_2 (by decide)) ?_
      refine z_iload2 gi_156_40 ?_
      refine z_iload3 gi_156_41 ?_
      refine z_iast (e := v) gi_156_42 gk_51 (by decide) (by omega) rfl ?_
      refine z_goto gi_156_43 ?_
      refine z_vret gi_156_95 gr_156 ?_
      rw [show w.toNat = 0 by omega]
      exact ⟨rfl, rfl, rfl, rfl⟩
    · have hxhq1 : w = 1 := hxhq1
      refine z_aload0 gi_156_46 ?_
      refine z_getR (r := 52) gi_156_47 gk_50 (hR _ rm_50_3 (by decide)) ?_
      refine z_iload2 gi_156_50 ?_
      refine z_iload3 gi_156_51 ?_
      refine z_iast (e := v) gi_156_52 gk_52 (by decide) (by omega) rfl ?_
      refine z_goto gi_156_53 ?_
      refine z_vret gi_156_95 gr_156 ?_
      rw [show w.toNat = 1 by omega]
      exact ⟨rfl, rfl, rfl, rfl⟩
    · have hxhq1 : w = 2 := hxhq1
      refine z_aload0 gi_156_56 ?_
      refine z_getR (r := 53) gi_156_57 gk_50 (hR _ rm_50_4 (by decide)) ?_
      refine z_iload2 gi_156_60 ?_
      refine z_iload3 gi_156_61 ?_
      refine z_iast (e := v) gi_156_62 gk_53 (by decide) (by omega) rfl ?_
      refine z_goto gi_156_63 ?_
      refine z_vret gi_156_95 gr_156 ?_
      rw [show w.toNat = 2 by omega]
      exact ⟨rfl, rfl, rfl, rfl⟩
    · have hxhq1 : w = 3 := hxhq1
      refine z_aload0 gi_156_66 ?_
      refine z_getR (r := 54) gi_156_67 gk_50 (hR _ rm_50_5 (by decide)) ?_
      refine z_iload2 gi_156_70 ?_
      refine z_iload3 gi_156_71 ?_
      refine z_iast (e := v) gi_156_72 gk_54 (by decide) (by omega) rfl ?_
      refine z_goto gi_156_73 ?_
      refine z_vret gi_156_95 gr_156 ?_
      rw [show w.toNat = 3 by omega]
      exact ⟨rfl, rfl, rfl, rfl⟩
    · have hxhq1 : w = 4 := hxhq1
      refine z_aload0 gi_156_76 ?_
      refine z_getR (r := 55) gi_156_77 gk_50 (hR _ rm_50_6 (by decide)) ?_
      refine z_iload2 gi_156_80 ?_
      refine z_iload3 gi_156_81 ?_
      refine z_iast (e := v) gi_156_82 gk_55 (by decide) (by omega) rfl ?_
      refine z_goto gi_156_83 ?_
      refine z_vret gi_156_95 gr_156 ?_
      rw [show w.toNat = 4 by omega]
      exact ⟨rfl, rfl, rfl, rfl⟩
  · have hq1 : ∀ q ∈ [((0 : Int), 36), ((1 : Int), 46), ((2 : Int), 56), ((3 : Int), 66), ((4 : Int), 76)], ¬ w = q.1 := hq1
    have hq1_0 : ¬ w = 0 := hq1 (0, 36) (by simp)
    have hq1_1 : ¬ w = 1 := hq1 (1, 46) (by simp)
    have hq1_2 : ¬ w = 2 := hq1 (2, 56) (by simp)
    have hq1_3 : ¬ w = 3 := hq1 (3, 66) (by simp)
    have hq1_4 : ¬ w = 4 := hq1 (4, 76) (by simp)
    refine z_aload0 gi_156_86 ?_
    refine z_getR (r := 56) gi_156_87 gk_50 (hR _ rm_50_7 (by decide)) ?_
    refine z_iload1 gi_156_90 ?_
    refine z_pushJ gp_156_91 ?_
    refine z_isub (e := w - 5) gi_156_92 rfl ?_
    refine z_iload3 gi_156_93 ?_
    refine z_iast (e := v) gi_156_94 gk_56 (by decide) (by omega) rfl ?_
    refine z_vret gi_156_95 gr_156 ?_
    exfalso
    omega
theorem lays_g {X : Nat × (Nat → Int32)} {d : Nat} {J M : zA} {R : zR} {n p w v : Int} (hR : zRoR R) (hz : J 50 1 = n) (hn : 0 ≤ n ∧ n ≤ 8) (hp : -2147483648 ≤ p ∧ p < 2147483648) (hw : -2147483648 ≤ w ∧ w < 2147483648) (hV : 5 ≤ w ∧ w < 14 ∧ p = 0) : zW X (d + 1) 156 0 (gEn 156 [(.ref 50), (zi w), (zi p), (zi v)]) [] J M R (zPx none (zU J 56 (w - 5) v) M R) := by
  show zW _ _ _ _ [some (.ref 50), some (zi w), some (zi p), some (zi v)] _ _ _ _ _
  refine z_iload1 gi_156_0 ?_
  refine z_sw (T := [((0 : Int), 36), ((1 : Int), 46), ((2 : Int), 56), ((3 : Int), 66), ((4 : Int), 76)]) gi_156_1 (by omega) rfl (fun q hq1 hxhq1 => ?_) (fun hq1 => ?_)
  · simp only [List.mem_cons, List.not_mem_nil, or_false] at hq1
    rcases hq1 with rfl | rfl | rfl | rfl | rfl
    · have hxhq1 : w = 0 := hxhq1
      refine z_aload0 gi_156_36 ?_
      refine z_getR (r := 51) gi_156_37 gk_50 (hR _ rm_50_2 (by decide)) ?_
      refine z_iload2 gi_156_40 ?_
      refine z_iload3 gi_156_41 ?_
      refine z_iast (e := v) gi_156_42 gk_51 (by decide) (by omega) rfl ?_
      refine z_goto gi_156_43 ?_
      refine z_vret gi_156_95 gr_156 ?_
      exfalso
      omega
    · have hxhq1 : w = 1 := hxhq1
      refine z_aload0 gi_156_46 ?_
      refine z_getR (r := 52) gi_156_47 gk_50 (hR _ rm_50_3 (by decide)) ?_
      refine z_iload2 gi_156_50 ?_
      refine z_iload3 gi_156_51 ?_
      refine z_iast (e := v) gi_156_52 gk_52 (by decide) (by omega) rfl ?_
      refine z_goto gi_156_53 ?_
      refine z_vret gi_156_95 gr_156 ?_
      exfalso
      omega
    · have hxhq1 : w = 2 := hxhq1
      refine z_aload0 gi_156_56 ?_
      refine z_getR (r := 53) gi_156_57 gk_50 (hR _ rm_50_4 (by decide)) ?_
      refine z_iload2 gi_156_60 ?_
      refine z_iload3 gi_156_61 ?_
      refine z_iast (e := v) gi_156_62 gk_53 (by decide) (by omega) rfl ?_
      refine z_goto gi_156_63 ?_
      refine z_vret gi_156_95 gr_156 ?_
      exfalso
      omega
    · have hxhq1 : w = 3 := hxhq1
      refine z_aload0 gi_156_66 ?_
      refine z_getR (r := 54) gi_156_67 gk_50 (hR _ rm_50_5 (by decide)) ?_
      refine z_iload2 gi_156_70 ?_
      refine z_iload3 gi_156_71 ?_
      refine z_iast (e := v) gi_156_72 gk_54 (by decide) (by omega) rfl ?_
      refine z_goto gi_156_73 ?_
      refine z_vret gi_156_95 gr_156 ?_
      exfalso
      omega
    · have hxhq1 : w = 4 := hxhq1
      refine z_aload0 gi_156_76 ?_
      refine z_getR (r := 55) gi_156_77 gk_50 (hR _ rm_50_6 (by decide)) ?_
      refine z_iload2 gi_156_80 ?_
      refine z_iload3 gi_156_81 ?_
      refine z_iast (e := v) gi_156_82 gk_55 (by decide) (by omega) rfl ?_
      refine z_goto gi_156_83 ?_
      refine z_vret gi_156_95 gr_156 ?_
      exfalso
      omega
  · have hq1 : ∀ q ∈ [((0 : Int), 36), ((1 : Int), 46), ((2 : Int), 56), ((3 : Int), 66), ((4 : Int), 76)], ¬ w = q.1 := hq1
    have hq1_0 : ¬ w = 0 := hq1 (0, 36) (by simp)
    have hq1_1 : ¬ w = 1 := hq1 (1, 46) (by simp)
    have hq1_2 : ¬ w = 2 := hq1 (2, 56) (by simp)
    have hq1_3 : ¬ w = 3 := hq1 (3, 66) (by simp)
    have hq1_4 : ¬ w = 4 := hq1 (4, 76) (by simp)
    refine z_aload0 gi_156_86 ?_
    refine z_getR (r := 56) gi_156_87 gk_50 (hR _ rm_50_7 (by decide)) ?_
    refine z_iload1 gi_156_90 ?_
    refine z_pushJ gp_156_91 ?_
    refine z_isub (e := w - 5) gi_156_92 rfl ?_
    refine z_iload3 gi_156_93 ?_
    refine z_iast (e := v) gi_156_94 gk_56 (by decide) (by omega) rfl ?_
    refine z_vret gi_156_95 gr_156 ?_
    exact ⟨rfl, rfl, rfl, rfl⟩
