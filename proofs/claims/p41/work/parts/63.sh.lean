theorem zb_r (x : Int) : -128 ≤ zb x ∧ zb x ≤ 127 := by
  have h : zb x = (Int32.ofInt x).toInt8.toInt := by unfold zb; exact Int8.toInt_toInt32 _
  rw [h]
  have a := Int8.le_toInt (Int32.ofInt x).toInt8
  have b := Int8.toInt_lt (Int32.ofInt x).toInt8
  omega
theorem zh_r (x : Int) : -32768 ≤ zh x ∧ zh x ≤ 32767 := by
  have h : zh x = (Int32.ofInt x).toInt16.toInt := by unfold zh; exact Int16.toInt_toInt32 _
  rw [h]
  have a := Int16.le_toInt (Int32.ofInt x).toInt16
  have b := Int16.toInt_lt (Int32.ofInt x).toInt16
  omega
theorem zn_r (x : Int) : -2147483648 ≤ zn x ∧ zn x < 2147483648 := ⟨Int32.le_toInt _, Int32.toInt_lt _⟩
theorem RelS_one {J J2 M M2 : zA} {c : Int} (hj : ∀ s, 0 ≤ s → s < 6 → s ≠ c → (∀ j, J2 (38 + 2 * s.toNat) j = J (38 + 2 * s.toNat) j) ∧ J2 83 s = J 83 s ∧ J2 84 s = J 84 s) (hm : ∀ s, 0 ≤ s → s < 6 → s ≠ c → (∀ j, M2 (39 + 2 * s.toNat) j = M (39 + 2 * s.toNat) j) ∧ ∀ j, 0 ≤ j → j < 60 → M2 85 (60 * s + j) = M 85 (60 * s + j)) (h34 : J2 34 1 = J 34 1) (hn : RelS1 J2 M2 c) (r : RelS J M) : RelS J2 M2 := by
  intro s s1 s2
  by_cases e : s = c
  · subst e; exact hn
  · obtain ⟨a1, a2, a3⟩ := hj s s1 s2 e
    obtain ⟨b1, b2⟩ := hm s s1 s2 e
    have r1 := r s s1 s2
    unfold RelS1 cH at r1 ⊢
    simp only [a1, a2, a3, b1, h34]
    obtain ⟨q1, q2, q3, q4, q5, q6⟩ := r1
    refine ⟨q1, q2, q3, q4, q5, fun hh => ⟨(q6 hh).1, fun i i1 i2 => ?_, (q6 hh).2.2⟩⟩
    rw [b2 i i1 (by omega)]
    exact (q6 hh).2.1 i i1 i2
theorem st_keep_n {X : Nat × (Nat → Int32)} {d : Nat} {J M : zA} {R : zR} {s b : Int} (hr : Rel X J M R) (hs : -2147483648 ≤ s ∧ s < 2147483648) (hb : -2147483648 ≤ b ∧ b < 2147483648) (hs6 : ¬ (0 ≤ s ∧ s < 6)) : zW X (d + 20) 136 0 (gEn 136 [(.ref 0), (zi s), (zi b)]) [] J M R (stP X (d + 20) 249 [(zi s), (zi b)]) := by
  have hr0 := hr
  obtain ⟨hR, hG, hY, hD, hP, hC, hAc, hS, hTp, hX, hW⟩ := hr0
  have hRr : zRoR R := zRoR_of hR
  have hA0 := hAc
  obtain ⟨a1, a2, a3, a4, a5, a6⟩ := hA0
  show zW _ _ _ _ [some (.ref 0), some (zi s), some (zi b)] _ _ _ _ _
  refine z_iload1 gi_136_0 ?_
  refine z_cS1 gi_136_1 (Nat.le_of_ble_eq_true rfl) gc_143_I ?_
  refine z_iload0 gi_143_0 ?_
  refine z_if_lt gi_143_1 (by omega) (fun h1 => ?_) (fun h1 => ?_)
  · refine z_pushJ gp_143_14 ?_
    refine z_bret0 gi_143_15 gr_143 ?_
    show zW _ _ _ _ _ _ _ _ _ _
    refine z_if_eqT gi_136_4 zr_0 (by decide) ?_
    refine z_pushJ gp_136_23 ?_
    refine z_iret gi_136_24 gr_136 ?_
    refine ⟨_, rfl, ?_⟩
    show zW _ _ _ _ [some (.ref 50), some (zi s), some (zi b)] _ _ _ _ _
    refine z_iload1 gi_249_0 ?_
    refine z_cS1 gi_249_1 (Nat.le_of_ble_eq_true rfl) gc_248_I ?_
    refine z_iload0 gi_248_0 ?_
    refine z_pushJ gp_248_1 ?_
    refine z_pushJ gp_248_2 ?_
    refine z_cS3 gi_248_3 (Nat.le_of_ble_eq_true rfl) gc_148_III ?_
    refine z_iload0 gi_148_0 ?_
    refine z_iload1 gi_148_1 ?_
    refine z_icmp_lt gi_148_2 (by omega) zr_0 (fun h2 => ?_) (fun h2 => ?_)
    · refine z_pushJ gp_148_14 ?_
      refine z_bret0 gi_148_15 gr_148 ?_
      show zW _ _ _ _ _ _ _ _ _ _
      refine z_bret0 gi_248_6 gr_248 ?_
      show zW _ _ _ _ _ _ _ _ _ _
      refine z_if_eqT gi_249_4 zr_0 (by decide) ?_
      refine z_pushJ gp_249_20 ?_
      refine z_iret gi_249_21 gr_249 ?_
      refine ⟨?_, ?_⟩
      · first | rfl | exact congrArg (fun v => some (zi v)) (by omega) | (exfalso; omega)
      · exact hr
    · refine z_iload0 gi_148_5 ?_
      refine z_iload2 gi_148_6 ?_
      refine z_icmp_gtT gi_148_7 (by omega) zr_5 (by omega) ?_
      refine z_pushJ gp_148_14 ?_
      refine z_bret0 gi_148_15 gr_148 ?_
      show zW _ _ _ _ _ _ _ _ _ _
      refine z_bret0 gi_248_6 gr_248 ?_
      show zW _ _ _ _ _ _ _ _ _ _
      refine z_if_eqT gi_249_4 zr_0 (by decide) ?_
      refine z_pushJ gp_249_20 ?_
      refine z_iret gi_249_21 gr_249 ?_
      refine ⟨?_, ?_⟩
      · first | rfl | exact congrArg (fun v => some (zi v)) (by omega) | (exfalso; omega)
      · exact hr
  · refine z_iload0 gi_143_4 ?_
    refine z_pushJ gp_143_5 ?_
    refine z_icmp_geT gi_143_7 (by omega) zr_6 (by omega) ?_
    refine z_pushJ gp_143_14 ?_
    refine z_bret0 gi_143_15 gr_143 ?_
    show zW _ _ _ _ _ _ _ _ _ _
    refine z_if_eqT gi_136_4 zr_0 (by decide) ?_
    refine z_pushJ gp_136_23 ?_
    refine z_iret gi_136_24 gr_136 ?_
    refine ⟨_, rfl, ?_⟩
    show zW _ _ _ _ [some (.ref 50), some (zi s), some (zi b)] _ _ _ _ _
    refine z_iload1 gi_249_0 ?_
    refine z_cS1 gi_249_1 (Nat.le_of_ble_eq_true rfl) gc_248_I ?_
    refine z_iload0 gi_248_0 ?_
    refine z_pushJ gp_248_1 ?_
    refine z_pushJ gp_248_2 ?_
    refine z_cS3 gi_248_3 (Nat.le_of_ble_eq_true rfl) gc_148_III ?_
    refine z_iload0 gi_148_0 ?_
    refine z_iload1 gi_148_1 ?_
    refine z_icmp_lt gi_148_2 (by omega) zr_0 (fun h2 => ?_) (fun h2 => ?_)
    · refine z_pushJ gp_148_14 ?_
      refine z_bret0 gi_148_15 gr_148 ?_
      show zW _ _ _ _ _ _ _ _ _ _
      refine z_bret0 gi_248_6 gr_248 ?_
      show zW _ _ _ _ _ _ _ _ _ _
      refine z_if_eqT gi_249_4 zr_0 (by decide) ?_
      refine z_pushJ gp_249_20 ?_
      refine z_iret gi_249_21 gr_249 ?_
      refine ⟨?_, ?_⟩
      · first | rfl | exact congrArg (fun v => some (zi v)) (by omega) | (exfalso; omega)
      · exact hr
    · refine z_iload0 gi_148_5 ?_
      refine z_iload2 gi_148_6 ?_
      refine z_icmp_gtT gi_148_7 (by omega) zr_5 (by omega) ?_
      refine z_pushJ gp_148_14 ?_
      refine z_bret0 gi_148_15 gr_148 ?_
      show zW _ _ _ _ _ _ _ _ _ _
      refine z_bret0 gi_248_6 gr_248 ?_
      show zW _ _ _ _ _ _ _ _ _ _
      refine z_if_eqT gi_249_4 zr_0 (by decide) ?_
      refine z_pushJ gp_249_20 ?_
      refine z_iret gi_249_21 gr_249 ?_
      refine ⟨?_, ?_⟩
      · first | rfl | exact congrArg (fun v => some (zi v)) (by omega) | (exfalso; omega)
      · exact hr
theorem st_keep_0 {X : Nat × (Nat → Int32)} {d : Nat} {J M : zA} {R : zR} {b : Int} (hr : Rel X J M R) (hb : -2147483648 ≤ b ∧ b < 2147483648)  : zW X (d + 20) 136 0 (gEn 136 [(.ref 0), (zi 0), (zi b)]) [] J M R (stP X (d + 20) 249 [(zi 0), (zi b)]) := by
  have hr0 := hr
  obtain ⟨hR, hG, hY, hD, hP, hC, hAc, hS, hTp, hX, hW⟩ := hr0
  have hRr : zRoR R := zRoR_of hR
  have hA0 := hAc
  obtain ⟨a1, a2, a3, a4, a5, a6⟩ := hA0
  show zW _ _ _ _ [some (.ref 0), some (zi 0), some (zi b)] _ _ _ _ _
  refine z_iload1 gi_136_0 ?_
  refine z_cS1 gi_136_1 (Nat.le_of_ble_eq_true rfl) gc_143_I ?_
  refine z_iload0 gi_143_0 ?_
  refine z_if_ltF gi_143_1 zr_0 (by decide) ?_
  refine z_iload0 gi_143_4 ?_
  refine z_pushJ gp_143_5 ?_
  refine z_icmp_geF gi_143_7 zr_0 zr_6 (by decide) ?_
  refine z_pushJ gp_143_10 ?_
  refine z_goto gi_143_11 ?_
  refine z_bret1 gi_143_15 gr_143 ?_
  show zW _ _ _ _ _ _ _ _ _ _
  refine z_if_eqF gi_136_4 zr_1 (by decide) ?_
  refine z_iload2 gi_136_7 ?_
  refine z_pushJ gp_136_8 ?_
  refine z_icmp_eq gi_136_9 (by omega) zrn_1 (fun h1 => ?_) (fun h1 => ?_)
  · refine z_iload2 gi_136_25 ?_
    refine z_pushJ gp_136_26 ?_
    refine z_icmp_ne gi_136_27 (by omega) zrn_1 (fun h2 => ?_) (fun h2 => ?_)
    · refine z_aload0 gi_136_42 ?_
      refine z_getR (r := 37) gi_136_43 gk_0 (hR _ rm_0_11) ?_
      refine z_iload1 gi_136_46 ?_
      refine z_aald (r := 38) gi_136_47 rfl (by decide) (by decide) (hR _ rm_37_0) ?_
      refine z_iload2 gi_136_48 ?_
      refine z_cV1 gi_136_49 gk_38 go_67 (Nat.le_of_ble_eq_true rfl) gc_67_RI ?_
      refine z_aload0 gi_67_0 ?_
      refine z_pushJ gp_67_1 ?_
      refine z_putI (y := 0) gi_67_2 rfl gk_38 ?_
      refine z_aload0 gi_67_5 ?_
      refine z_iload1 gi_67_6 ?_
      refine z_putI (y := 1) gi_67_7 rfl gk_38 ?_
      refine z_aload0 gi_67_10 ?_
      refine z_pushJ gp_67_11 ?_
      refine z_putI (y := 3) gi_67_12 rfl gk_38 ?_
      refine z_vret gi_67_15 gr_67 ?_
      show zW _ _ _ _ _ _ _ _ _ _
      refine z_pushJ gp_136_52 ?_
      refine z_iret gi_136_53 gr_136 ?_
      refine ⟨_, rfl, ?_⟩
      show zW _ _ _ _ [some (.ref 50), some (zi 0), some (zi b)] _ _ _ _ _
      refine z_iload1 gi_249_0 ?_
      refine z_cS1 gi_249_1 (Nat.le_of_ble_eq_true rfl) gc_248_I ?_
      refine z_iload0 gi_248_0 ?_
      refine z_pushJ gp_248_1 ?_
      refine z_pushJ gp_248_2 ?_
      refine z_cS3 gi_248_3 (Nat.le_of_ble_eq_true rfl) gc_148_III ?_
      refine z_iload0 gi_148_0 ?_
      refine z_iload1 gi_148_1 ?_
      refine z_icmp_ltF gi_148_2 zr_0 zr_0 (by decide) ?_
      refine z_iload0 gi_148_5 ?_
      refine z_iload2 gi_148_6 ?_
      refine z_icmp_gtF gi_148_7 zr_0 zr_5 (by decide) ?_
      refine z_pushJ gp_148_10 ?_
      refine z_goto gi_148_11 ?_
      refine z_bret1 gi_148_15 gr_148 ?_
      show zW _ _ _ _ _ _ _ _ _ _
      refine z_bret1 gi_248_6 gr_248 ?_
      show zW _ _ _ _ _ _ _ _ _ _
      refine z_if_eqF gi_249_4 zr_1 (by decide) ?_
      refine z_iload2 gi_249_7 ?_
      refine z_pushJ gp_249_8 ?_
      refine z_icmp_eq gi_249_9 (by omega) zrn_1 (fun h3 => ?_) (fun h3 => ?_)
      · refine z_aload0 gi_249_22 ?_
        refine z_getR (r := 83) gi_249_23 gk_50 (hRr _ rm_50_58 (by decide)) ?_
        refine z_iload1 gi_249_26 ?_
        refine z_iload2 gi_249_27 ?_
        refine z_iast (e := b) gi_249_28 gk_83 (by decide) (by decide) rfl ?_
        refine z_pushJ gp_249_29 ?_
        refine z_iret gi_249_30 gr_249 ?_
        refine ⟨?_, ?_⟩
        · first | rfl | exact congrArg (fun v => some (zi v)) (by omega) | (exfalso; omega)
        · have hk := (zK_x (a := 83) (x := 0) (v := b) (zK_x (a := 38) (x := 3) (v := 0) (zK_x (a := 38) (x := 1) (v := b) (zK_x (a := 38) (x := 0) (v := 1) (zK_r (k := (kL [] [(38, 0), (38, 1), (38, 3), (83, 0)])) (A := J)) rfl) rfl) rfl) rfl)
          exact ⟨hR, hG, RelY_k hk (by repeat' constructor) (fun p => by repeat' constructor) hY, RelD_k hk (by repeat' constructor) (fun p => by repeat' constructor) hD, RelP_k hk (by repeat' constructor) (fun p => by repeat' constructor) hP, RelC_k hk (by repeat' constructor) (fun p => by repeat' constructor) hC, RelA_k hk (by repeat' constructor) (fun p => by repeat' constructor) hAc, (RelS_one (J := J) (M := M) (c := 0) (fun t t1 t2 te => by have q : t = 0 ∨ t = 1 ∨ t = 2 ∨ t = 3 ∨ t = 4 ∨ t = 5 := (by omega); rcases q with rfl | rfl | rfl | rfl | rfl | rfl <;> first | exact absurd rfl te | exact ⟨fun j => rfl, rfl, rfl⟩) (fun t t1 t2 te => ⟨fun j => rfl, fun j j1 j2 => rfl⟩) rfl (show RelS1 _ _ _ from ⟨rfl, (show (0 : Int) ≤ 1 ∧ (1 : Int) ≤ 2 from by decide), (hS 0 (by decide) (by decide)).2.2.1, (show (0 : Int) ≤ 0 ∧ (0 : Int) ≤ 60 from by decide), fun _ => (show 0 ≤ b ∧ b < J 34 1 from by omega), fun h => absurd (show (1 : Int) = 2 from h) (by decide)⟩) hS), RelT_k hk (by repeat' constructor) (fun p => by repeat' constructor) hTp, RelX_k hk (by repeat' constructor) (fun p => by repeat' constructor) hX, RelW_k hk ⟨rfl, rfl⟩ trivial hW⟩
      · refine z_aload0 gi_249_12 ?_
        refine z_iload2 gi_249_13 ?_
        refine z_cV1 gi_249_14 gk_50 go_230 (Nat.le_of_ble_eq_true rfl) gc_230_RI ?_
        refine z_iload1 gi_230_0 ?_
        refine z_pushJ gp_230_1 ?_
        refine z_aload0 gi_230_2 ?_
        refine z_getI (v := J 50 54) gi_230_3 gk_50 ((zU_n (by decide)).trans ((zU_n (by decide)).trans ((zU_n (by decide)).trans (rfl)))) ?_
        refine z_pushJ gp_230_6 ?_
        refine z_isub (e := (J 50 54) - 1) gi_230_7 rfl ?_
        refine z_cS3 gi_230_8 (Nat.le_of_ble_eq_true rfl) gc_148_III ?_
        refine z_iload0 gi_148_0 ?_
        refine z_iload1 gi_148_1 ?_
        refine z_icmp_lt gi_148_2 (by omega) zr_0 (fun h4 => ?_) (fun h4 => ?_)
        · refine z_pushJ gp_148_14 ?_
          refine z_bret0 gi_148_15 gr_148 ?_
          show zW _ _ _ _ _ _ _ _ _ _
          refine z_bret0 gi_230_11 gr_230 ?_
          show zW _ _ _ _ _ _ _ _ _ _
          refine z_if_neF gi_249_17 zr_0 (by decide) ?_
          refine z_pushJ gp_249_20 ?_
          refine z_iret gi_249_21 gr_249 ?_
          refine ⟨?_, ?_⟩
          · first | rfl | exact congrArg (fun v => some (zi v)) (by omega) | (exfalso; omega)
          · exfalso
            omega
        · refine z_iload0 gi_148_5 ?_
          refine z_iload2 gi_148_6 ?_
          refine z_icmp_gt gi_148_7 (by omega) (by omega) (fun h5 => ?_) (fun h5 => ?_)
          · refine z_pushJ gp_148_14 ?_
            refine z_bret0 gi_148_15 gr_148 ?_
            show zW _ _ _ _ _ _ _ _ _ _
            refine z_bret0 gi_230_11 gr_230 ?_
            show zW _ _ _ _ _ _ _ _ _ _
            refine z_if_neF gi_249_17 zr_0 (by decide) ?_
            refine z_pushJ gp_249_20 ?_
            refine z_iret gi_249_21 gr_249 ?_
            refine ⟨?_, ?_⟩
            · first | rfl | exact congrArg (fun v => some (zi v)) (by omega) | (exfalso; omega)
            · exfalso
              omega
          · refine z_pushJ gp_148_10 ?_
            refine z_goto gi_148_11 ?_
            refine z_bret1 gi_148_15 gr_148 ?_
            show zW _ _ _ _ _ _ _ _ _ _
            refine z_bret1 gi_230_11 gr_230 ?_
            show zW _ _ _ _ _ _ _ _ _ _
            refine z_if_neT gi_249_17 zr_1 (by decide) ?_
            refine z_aload0 gi_249_22 ?_
            refine z_getR (r := 83) gi_249_23 gk_50 (hRr _ rm_50_58 (by decide)) ?_
            refine z_iload1 gi_249_26 ?_
            refine z_iload2 gi_249_27 ?_
            refine z_iast (e := b) gi_249_28 gk_83 (by decide) (by decide) rfl ?_
            refine z_pushJ gp_249_29 ?_
            refine z_iret gi_249_30 gr_249 ?_
            refine ⟨?_, ?_⟩
            · first | rfl | exact congrArg (fun v => some (zi v)) (by omega) | (exfalso; omega)
            · have hk := (zK_x (a := 83) (x := 0) (v := b) (zK_x (a := 38) (x := 3) (v := 0) (zK_x (a := 38) (x := 1) (v := b) (zK_x (a := 38) (x := 0) (v := 1) (zK_r (k := (kL [] [(38, 0), (38, 1), (38, 3), (83, 0)])) (A := J)) rfl) rfl) rfl) rfl)
              exact ⟨hR, hG, RelY_k hk (by repeat' constructor) (fun p => by repeat' constructor) hY, RelD_k hk (by repeat' constructor) (fun p => by repeat' constructor) hD, RelP_k hk (by repeat' constructor) (fun p => by repeat' constructor) hP, RelC_k hk (by repeat' constructor) (fun p => by repeat' constructor) hC, RelA_k hk (by repeat' constructor) (fun p => by repeat' constructor) hAc, (RelS_one (J := J) (M := M) (c := 0) (fun t t1 t2 te => by have q : t = 0 ∨ t = 1 ∨ t = 2 ∨ t = 3 ∨ t = 4 ∨ t = 5 := (by omega); rcases q with rfl | rfl | rfl | rfl | rfl | rfl <;> first | exact absurd rfl te | exact ⟨fun j => rfl, rfl, rfl⟩) (fun t t1 t2 te => ⟨fun j => rfl, fun j j1 j2 => rfl⟩) rfl (show RelS1 _ _ _ from ⟨rfl, (show (0 : Int) ≤ 1 ∧ (1 : Int) ≤ 2 from by decide), (hS 0 (by decide) (by decide)).2.2.1, (show (0 : Int) ≤ 0 ∧ (0 : Int) ≤ 60 from by decide), fun _ => (show 0 ≤ b ∧ b < J 34 1 from by omega), fun h => absurd (show (1 : Int) = 2 from h) (by decide)⟩) hS), RelT_k hk (by repeat' constructor) (fun p => by repeat' constructor) hTp, RelX_k hk (by repeat' constructor) (fun p => by repeat' constructor) hX, RelW_k hk ⟨rfl, rfl⟩ trivial hW⟩
    · refine z_aload0 gi_136_30 ?_
      refine z_getR (r := 37) gi_136_31 gk_0 (hR _ rm_0_11) ?_
      refine z_iload1 gi_136_34 ?_
      refine z_aald (r := 38) gi_136_35 rfl (by decide) (by decide) (hR _ rm_37_0) ?_
      refine z_cV0 gi_136_36 gk_38 go_66 (Nat.le_of_ble_eq_true rfl) gc_66_R ?_
      refine z_aload0 gi_66_0 ?_
      refine z_pushJ gp_66_1 ?_
      refine z_putI (y := 0) gi_66_2 rfl gk_38 ?_
      refine z_aload0 gi_66_5 ?_
      refine z_pushJ gp_66_6 ?_
      refine z_putI (y := 3) gi_66_7 rfl gk_38 ?_
      refine z_vret gi_66_10 gr_66 ?_
      show zW _ _ _ _ _ _ _ _ _ _
      refine z_goto gi_136_39 ?_
      refine z_pushJ gp_136_52 ?_
      refine z_iret gi_136_53 gr_136 ?_
      refine ⟨_, rfl, ?_⟩
      show zW _ _ _ _ [some (.ref 50), some (zi 0), some (zi b)] _ _ _ _ _
      refine z_iload1 gi_249_0 ?_
      refine z_cS1 gi_249_1 (Nat.le_of_ble_eq_true rfl) gc_248_I ?_
      refine z_iload0 gi_248_0 ?_
      refine z_pushJ gp_248_1 ?_
      refine z_pushJ gp_248_2 ?_
      refine z_cS3 gi_248_3 (Nat.le_of_ble_eq_true rfl) gc_148_III ?_
      refine z_iload0 gi_148_0 ?_
      refine z_iload1 gi_148_1 ?_
      refine z_icmp_ltF gi_148_2 zr_0 zr_0 (by decide) ?_
      refine z_iload0 gi_148_5 ?_
      refine z_iload2 gi_148_6 ?_
      refine z_icmp_gtF gi_148_7 zr_0 zr_5 (by decide) ?_
      refine z_pushJ gp_148_10 ?_
      refine z_goto gi_148_11 ?_
      refine z_bret1 gi_148_15 gr_148 ?_
      show zW _ _ _ _ _ _ _ _ _ _
      refine z_bret1 gi_248_6 gr_248 ?_
      show zW _ _ _ _ _ _ _ _ _ _
      refine z_if_eqF gi_249_4 zr_1 (by decide) ?_
      refine z_iload2 gi_249_7 ?_
      refine z_pushJ gp_249_8 ?_
      refine z_icmp_eq gi_249_9 (by omega) zrn_1 (fun h3 => ?_) (fun h3 => ?_)
      · refine z_aload0 gi_249_22 ?_
        refine z_getR (r := 83) gi_249_23 gk_50 (hRr _ rm_50_58 (by decide)) ?_
        refine z_iload1 gi_249_26 ?_
        refine z_iload2 gi_249_27 ?_
        refine z_iast (e := b) gi_249_28 gk_83 (by decide) (by decide) rfl ?_
        refine z_pushJ gp_249_29 ?_
        refine z_iret gi_249_30 gr_249 ?_
        refine ⟨?_, ?_⟩
        · first | rfl | exact congrArg (fun v => some (zi v)) (by omega) | (exfalso; omega)
        · have hk := (zK_x (a := 83) (x := 0) (v := b) (zK_x (a := 38) (x := 3) (v := 0) (zK_x (a := 38) (x := 0) (v := 0) (zK_r (k := (kL [] [(38, 0), (38, 3), (83, 0)])) (A := J)) rfl) rfl) rfl)
          exact ⟨hR, hG, RelY_k hk (by repeat' constructor) (fun p => by repeat' constructor) hY, RelD_k hk (by repeat' constructor) (fun p => by repeat' constructor) hD, RelP_k hk (by repeat' constructor) (fun p => by repeat' constructor) hP, RelC_k hk (by repeat' constructor) (fun p => by repeat' constructor) hC, RelA_k hk (by repeat' constructor) (fun p => by repeat' constructor) hAc, (RelS_one (J := J) (M := M) (c := 0) (fun t t1 t2 te => by have q : t = 0 ∨ t = 1 ∨ t = 2 ∨ t = 3 ∨ t = 4 ∨ t = 5 := (by omega); rcases q with rfl | rfl | rfl | rfl | rfl | rfl <;> first | exact absurd rfl te | exact ⟨fun j => rfl, rfl, rfl⟩) (fun t t1 t2 te => ⟨fun j => rfl, fun j j1 j2 => rfl⟩) rfl (show RelS1 _ _ _ from ⟨(show (-1 : Int) = b from by omega), (show (0 : Int) ≤ 0 ∧ (0 : Int) ≤ 2 from by decide), (hS 0 (by decide) (by decide)).2.2.1, (show (0 : Int) ≤ 0 ∧ (0 : Int) ≤ 60 from by decide), fun h => absurd (show (0 : Int) = 1 from h) (by decide), fun h => absurd (show (0 : Int) = 2 from h) (by decide)⟩) hS), RelT_k hk (by repeat' constructor) (fun p => by repeat' constructor) hTp, RelX_k hk (by repeat' constructor) (fun p => by repeat' constructor) hX, RelW_k hk ⟨rfl, rfl⟩ trivial hW⟩
      · refine z_aload0 gi_249_12 ?_
        refine z_iload2 gi_249_13 ?_
        refine z_cV1 gi_249_14 gk_50 go_230 (Nat.le_of_ble_eq_true rfl) gc_230_RI ?_
        refine z_iload1 gi_230_0 ?_
        refine z_pushJ gp_230_1 ?_
        refine z_aload0 gi_230_2 ?_
        refine z_getI (v := J 50 54) gi_230_3 gk_50 ((zU_n (by decide)).trans ((zU_n (by decide)).trans (rfl))) ?_
        refine z_pushJ gp_230_6 ?_
        refine z_isub (e := (J 50 54) - 1) gi_230_7 rfl ?_
        refine z_cS3 gi_230_8 (Nat.le_of_ble_eq_true rfl) gc_148_III ?_
        refine z_iload0 gi_148_0 ?_
        refine z_iload1 gi_148_1 ?_
        refine z_icmp_lt gi_148_2 (by omega) zr_0 (fun h4 => ?_) (fun h4 => ?_)
        · refine z_pushJ gp_148_14 ?_
          refine z_bret0 gi_148_15 gr_148 ?_
          show zW _ _ _ _ _ _ _ _ _ _
          refine z_bret0 gi_230_11 gr_230 ?_
          show zW _ _ _ _ _ _ _ _ _ _
          refine z_if_neF gi_249_17 zr_0 (by decide) ?_
          refine z_pushJ gp_249_20 ?_
          refine z_iret gi_249_21 gr_249 ?_
          refine ⟨?_, ?_⟩
          · first | rfl | exact congrArg (fun v => some (zi v)) (by omega) | (exfalso; omega)
          · exfalso
            omega
        · refine z_iload0 gi_148_5 ?_
          refine z_iload2 gi_148_6 ?_
          refine z_icmp_gt gi_148_7 (by omega) (by omega) (fun h5 => ?_) (fun h5 => ?_)
          · refine z_pushJ gp_148_14 ?_
            refine z_bret0 gi_148_15 gr_148 ?_
            show zW _ _ _ _ _ _ _ _ _ _
            refine z_bret0 gi_230_11 gr_230 ?_
            show zW _ _ _ _ _ _ _ _ _ _
            refine z_if_neF gi_249_17 zr_0 (by decide) ?_
            refine z_pushJ gp_249_20 ?_
            refine z_iret gi_249_21 gr_249 ?_
            refine ⟨?_, ?_⟩
            · first | rfl | exact congrArg (fun v => some (zi v)) (by omega) | (exfalso; omega)
            · exfalso
              omega
          · refine z_pushJ gp_148_10 ?_
            refine z_goto gi_148_11 ?_
            refine z_bret1 gi_148_15 gr_148 ?_
            show zW _ _ _ _ _ _ _ _ _ _
            refine z_bret1 gi_230_11 gr_230 ?_
            show zW _ _ _ _ _ _ _ _ _ _
            refine z_if_neT gi_249_17 zr_1 (by decide) ?_
            refine z_aload0 gi_249_22 ?_
            refine z_getR (r := 83) gi_249_23 gk_50 (hRr _ rm_50_58 (by decide)) ?_
            refine z_iload1 gi_249_26 ?_
            refine z_iload2 gi_249_27 ?_
            refine z_iast (e := b) gi_249_28 gk_83 (by decide) (by decide) rfl ?_
            refine z_pushJ gp_249_29 ?_
            refine z_iret gi_249_30 gr_249 ?_
            refine ⟨?_, ?_⟩
            · first | rfl | exact congrArg (fun v => some (zi v)) (by omega) | (exfalso; omega)
            · have hk := (zK_x (a := 83) (x := 0) (v := b) (zK_x (a := 38) (x := 3) (v := 0) (zK_x (a := 38) (x := 0) (v := 0) (zK_r (k := (kL [] [(38, 0), (38, 3), (83, 0)])) (A := J)) rfl) rfl) rfl)
              exact ⟨hR, hG, RelY_k hk (by repeat' constructor) (fun p => by repeat' constructor) hY, RelD_k hk (by repeat' constructor) (fun p => by repeat' constructor) hD, RelP_k hk (by repeat' constructor) (fun p => by repeat' constructor) hP, RelC_k hk (by repeat' constructor) (fun p => by repeat' constructor) hC, RelA_k hk (by repeat' constructor) (fun p => by repeat' constructor) hAc, (RelS_one (J := J) (M := M) (c := 0) (fun t t1 t2 te => by have q : t = 0 ∨ t = 1 ∨ t = 2 ∨ t = 3 ∨ t = 4 ∨ t = 5 := (by omega); rcases q with rfl | rfl | rfl | rfl | rfl | rfl <;> first | exact absurd rfl te | exact ⟨fun j => rfl, rfl, rfl⟩) (fun t t1 t2 te => ⟨fun j => rfl, fun j j1 j2 => rfl⟩) rfl (show RelS1 _ _ _ from ⟨(show (-1 : Int) = b from by omega), (show (0 : Int) ≤ 0 ∧ (0 : Int) ≤ 2 from by decide), (hS 0 (by decide) (by decide)).2.2.1, (show (0 : Int) ≤ 0 ∧ (0 : Int) ≤ 60 from by decide), fun h => absurd (show (0 : Int) = 1 from h) (by decide), fun h => absurd (show (0 : Int) = 2 from h) (by decide)⟩) hS), RelT_k hk (by repeat' constructor) (fun p => by repeat' constructor) hTp, RelX_k hk (by repeat' constructor) (fun p => by repeat' constructor) hX, RelW_k hk ⟨rfl, rfl⟩ trivial hW⟩
  · refine z_aload0 gi_136_12 ?_
    refine z_getR (r := 34) gi_136_13 gk_0 (hR _ rm_0_10) ?_
    refine z_iload2 gi_136_16 ?_
    refine z_cV1 gi_136_17 gk_34 go_3 (Nat.le_of_ble_eq_true rfl) gc_3_RI ?_
    refine z_iload1 gi_3_0 ?_
    refine z_if_lt gi_3_1 (by omega) (fun h3 => ?_) (fun h3 => ?_)
    · refine z_pushJ gp_3_16 ?_
      refine z_bret0 gi_3_17 gr_3 ?_
      show zW _ _ _ _ _ _ _ _ _ _
      refine z_if_neF gi_136_20 zr_0 (by decide) ?_
      refine z_pushJ gp_136_23 ?_
      refine z_iret gi_136_24 gr_136 ?_
      refine ⟨_, rfl, ?_⟩
      show zW _ _ _ _ [some (.ref 50), some (zi 0), some (zi b)] _ _ _ _ _
      refine z_iload1 gi_249_0 ?_
      refine z_cS1 gi_249_1 (Nat.le_of_ble_eq_true rfl) gc_248_I ?_
      refine z_iload0 gi_248_0 ?_
      refine z_pushJ gp_248_1 ?_
      refine z_pushJ gp_248_2 ?_
      refine z_cS3 gi_248_3 (Nat.le_of_ble_eq_true rfl) gc_148_III ?_
      refine z_iload0 gi_148_0 ?_
      refine z_iload1 gi_148_1 ?_
      refine z_icmp_ltF gi_148_2 zr_0 zr_0 (by decide) ?_
      refine z_iload0 gi_148_5 ?_
      refine z_iload2 gi_148_6 ?_
      refine z_icmp_gtF gi_148_7 zr_0 zr_5 (by decide) ?_
      refine z_pushJ gp_148_10 ?_
      refine z_goto gi_148_11 ?_
      refine z_bret1 gi_148_15 gr_148 ?_
      show zW _ _ _ _ _ _ _ _ _ _
      refine z_bret1 gi_248_6 gr_248 ?_
      show zW _ _ _ _ _ _ _ _ _ _
      refine z_if_eqF gi_249_4 zr_1 (by decide) ?_
      refine z_iload2 gi_249_7 ?_
      refine z_pushJ gp_249_8 ?_
      refine z_icmp_eq gi_249_9 (by omega) zrn_1 (fun h4 => ?_) (fun h4 => ?_)
      · refine z_aload0 gi_249_22 ?_
        refine z_getR (r := 83) gi_249_23 gk_50 (hRr _ rm_50_58 (by decide)) ?_
        refine z_iload1 gi_249_26 ?_
        refine z_iload2 gi_249_27 ?_
        refine z_iast (e := b) gi_249_28 gk_83 (by decide) (by decide) rfl ?_
        refine z_pushJ gp_249_29 ?_
        refine z_iret gi_249_30 gr_249 ?_
        refine ⟨?_, ?_⟩
        · first | rfl | exact congrArg (fun v => some (zi v)) (by omega) | (exfalso; omega)
        · exfalso
          omega
      · refine z_aload0 gi_249_12 ?_
        refine z_iload2 gi_249_13 ?_
        refine z_cV1 gi_249_14 gk_50 go_230 (Nat.le_of_ble_eq_true rfl) gc_230_RI ?_
        refine z_iload1 gi_230_0 ?_
        refine z_pushJ gp_230_1 ?_
        refine z_aload0 gi_230_2 ?_
        refine z_getI (v := J 50 54) gi_230_3 gk_50 (rfl) ?_
        refine z_pushJ gp_230_6 ?_
        refine z_isub (e := (J 50 54) - 1) gi_230_7 rfl ?_
        refine z_cS3 gi_230_8 (Nat.le_of_ble_eq_true rfl) gc_148_III ?_
        refine z_iload0 gi_148_0 ?_
        refine z_iload1 gi_148_1 ?_
        refine z_icmp_lt gi_148_2 (by omega) zr_0 (fun h5 => ?_) (fun h5 => ?_)
        · refine z_pushJ gp_148_14 ?_
          refine z_bret0 gi_148_15 gr_148 ?_
          show zW _ _ _ _ _ _ _ _ _ _
          refine z_bret0 gi_230_11 gr_230 ?_
          show zW _ _ _ _ _ _ _ _ _ _
          refine z_if_neF gi_249_17 zr_0 (by decide) ?_
          refine z_pushJ gp_249_20 ?_
          refine z_iret gi_249_21 gr_249 ?_
          refine ⟨?_, ?_⟩
          · first | rfl | exact congrArg (fun v => some (zi v)) (by omega) | (exfalso; omega)
          · exact hr
        · refine z_iload0 gi_148_5 ?_
          refine z_iload2 gi_148_6 ?_
          refine z_icmp_gt gi_148_7 (by omega) (by omega) (fun h6 => ?_) (fun h6 => ?_)
          · refine z_pushJ gp_148_14 ?_
            refine z_bret0 gi_148_15 gr_148 ?_
            show zW _ _ _ _ _ _ _ _ _ _
            refine z_bret0 gi_230_11 gr_230 ?_
            show zW _ _ _ _ _ _ _ _ _ _
            refine z_if_neF gi_249_17 zr_0 (by decide) ?_
            refine z_pushJ gp_249_20 ?_
            refine z_iret gi_249_21 gr_249 ?_
            refine ⟨?_, ?_⟩
            · first | rfl | exact congrArg (fun v => some (zi v)) (by omega) | (exfalso; omega)
            · exact hr
          · refine z_pushJ gp_148_10 ?_
            refine z_goto gi_148_11 ?_
            refine z_bret1 gi_148_15 gr_148 ?_
            show zW _ _ _ _ _ _ _ _ _ _
            refine z_bret1 gi_230_11 gr_230 ?_
            show zW _ _ _ _ _ _ _ _ _ _
            refine z_if_neT gi_249_17 zr_1 (by decide) ?_
            refine z_aload0 gi_249_22 ?_
            refine z_getR (r := 83) gi_249_23 gk_50 (hRr _ rm_50_58 (by decide)) ?_
            refine z_iload1 gi_249_26 ?_
            refine z_iload2 gi_249_27 ?_
            refine z_iast (e := b) gi_249_28 gk_83 (by decide) (by decide) rfl ?_
            refine z_pushJ gp_249_29 ?_
            refine z_iret gi_249_30 gr_249 ?_
            refine ⟨?_, ?_⟩
            · first | rfl | exact congrArg (fun v => some (zi v)) (by omega) | (exfalso; omega)
            · exfalso
              omega
    · refine z_iload1 gi_3_4 ?_
      refine z_aload0 gi_3_5 ?_
      refine z_getI (v := J 34 1) gi_3_6 gk_34 (rfl) ?_
      refine z_icmp_ge gi_3_9 (by omega) (by omega) (fun h4 => ?_) (fun h4 => ?_)
      · refine z_pushJ gp_3_16 ?_
        refine z_bret0 gi_3_17 gr_3 ?_
        show zW _ _ _ _ _ _ _ _ _ _
        refine z_if_neF gi_136_20 zr_0 (by decide) ?_
        refine z_pushJ gp_136_23 ?_
        refine z_iret gi_136_24 gr_136 ?_
        refine ⟨_, rfl, ?_⟩
        show zW _ _ _ _ [some (.ref 50), some (zi 0), some (zi b)] _ _ _ _ _
        refine z_iload1 gi_249_0 ?_
        refine z_cS1 gi_249_1 (Nat.le_of_ble_eq_true rfl) gc_248_I ?_
        refine z_iload0 gi_248_0 ?_
        refine z_pushJ gp_248_1 ?_
        refine z_pushJ gp_248_2 ?_
        refine z_cS3 gi_248_3 (Nat.le_of_ble_eq_true rfl) gc_148_III ?_
        refine z_iload0 gi_148_0 ?_
        refine z_iload1 gi_148_1 ?_
        refine z_icmp_ltF gi_148_2 zr_0 zr_0 (by decide) ?_
        refine z_iload0 gi_148_5 ?_
        refine z_iload2 gi_148_6 ?_
        refine z_icmp_gtF gi_148_7 zr_0 zr_5 (by decide) ?_
        refine z_pushJ gp_148_10 ?_
        refine z_goto gi_148_11 ?_
        refine z_bret1 gi_148_15 gr_148 ?_
        show zW _ _ _ _ _ _ _ _ _ _
        refine z_bret1 gi_248_6 gr_248 ?_
        show zW _ _ _ _ _ _ _ _ _ _
        refine z_if_eqF gi_249_4 zr_1 (by decide) ?_
        refine z_iload2 gi_249_7 ?_
        refine z_pushJ gp_249_8 ?_
        refine z_icmp_eq gi_249_9 (by omega) zrn_1 (fun h5 => ?_) (fun h5 => ?_)
        · refine z_aload0 gi_249_22 ?_
          refine z_getR (r := 83) gi_249_23 gk_50 (hRr _ rm_50_58 (by decide)) ?_
          refine z_iload1 gi_249_26 ?_
          refine z_iload2 gi_249_27 ?_
          refine z_iast (e := b) gi_249_28 gk_83 (by decide) (by decide) rfl ?_
          refine z_pushJ gp_249_29 ?_
          refine z_iret gi_249_30 gr_249 ?_
          refine ⟨?_, ?_⟩
          · first | rfl | exact congrArg (fun v => some (zi v)) (by omega) | (exfalso; omega)
          · exfalso
            omega
        · refine z_aload0 gi_249_12 ?_
          refine z_iload2 gi_249_13 ?_
          refine z_cV1 gi_249_14 gk_50 go_230 (Nat.le_of_ble_eq_true rfl) gc_230_RI ?_
          refine z_iload1 gi_230_0 ?_
          refine z_pushJ gp_230_1 ?_
          refine z_aload0 gi_230_2 ?_
          refine z_getI (v := J 50 54) gi_230_3 gk_50 (rfl) ?_
          refine z_pushJ gp_230_6 ?_
          refine z_isub (e := (J 50 54) - 1) gi_230_7 rfl ?_
          refine z_cS3 gi_230_8 (Nat.le_of_ble_eq_true rfl) gc_148_III ?_
          refine z_iload0 gi_148_0 ?_
          refine z_iload1 gi_148_1 ?_
          refine z_icmp_lt gi_148_2 (by omega) zr_0 (fun h6 => ?_) (fun h6 => ?_)
          · refine z_pushJ gp_148_14 ?_
            refine z_bret0 gi_148_15 gr_148 ?_
            show zW _ _ _ _ _ _ _ _ _ _
            refine z_bret0 gi_230_11 gr_230 ?_
            show zW _ _ _ _ _ _ _ _ _ _
            refine z_if_neF gi_249_17 zr_0 (by decide) ?_
            refine z_pushJ gp_249_20 ?_
            refine z_iret gi_249_21 gr_249 ?_
            refine ⟨?_, ?_⟩
            · first | rfl | exact congrArg (fun v => some (zi v)) (by omega) | (exfalso; omega)
            · exact hr
          · refine z_iload0 gi_148_5 ?_
            refine z_iload2 gi_148_6 ?_
            refine z_icmp_gt gi_148_7 (by omega) (by omega) (fun h7 => ?_) (fun h7 => ?_)
            · refine z_pushJ gp_148_14 ?_
              refine z_bret0 gi_148_15 gr_148 ?_
              show zW _ _ _ _ _ _ _ _ _ _
              refine z_bret0 gi_230_11 gr_230 ?_
              show zW _ _ _ _ _ _ _ _ _ _
              refine z_if_neF gi_249_17 zr_0 (by decide) ?_
              refine z_pushJ gp_249_20 ?_
              refine z_iret gi_249_21 gr_249 ?_
              refine ⟨?_, ?_⟩
              · first | rfl | exact congrArg (fun v => some (zi v)) (by omega) | (exfalso; omega)
              · exact hr
            · refine z_pushJ gp_148_10 ?_
              refine z_goto gi_148_11 ?_
              refine z_bret1 gi_148_15 gr_148 ?_
              show zW _ _ _ _ _ _ _ _ _ _
              refine z_bret1 gi_230_11 gr_230 ?_
              show zW _ _ _ _ _ _ _ _ _ _
              refine z_if_neT gi_249_17 zr_1 (by decide) ?_
              refine z_aload0 gi_249_22 ?_
              refine z_getR (r := 83) gi_249_23 gk_50 (hRr _ rm_50_58 (by decide)) ?_
              refine z_iload1 gi_249_26 ?_
              refine z_iload2 gi_249_27 ?_
              refine z_iast (e := b) gi_249_28 gk_83 (by decide) (by decide) rfl ?_
              refine z_pushJ gp_249_29 ?_
              refine z_iret gi_249_30 gr_249 ?_
              refine ⟨?_, ?_⟩
              · first | rfl | exact congrArg (fun v => some (zi v)) (by omega) | (exfalso; omega)
              · exfalso
                omega
      · refine z_pushJ gp_3_12 ?_
        refine z_goto gi_3_13 ?_
        refine z_bret1 gi_3_17 gr_3 ?_
        show zW _ _ _ _ _ _ _ _ _ _
        refine z_if_neT gi_136_20 zr_1 (by decide) ?_
        refine z_iload2 gi_136_25 ?_
        refine z_pushJ gp_136_26 ?_
        refine z_icmp_ne gi_136_27 (by omega) zrn_1 (fun h5 => ?_) (fun h5 => ?_)
        · refine z_aload0 gi_136_42 ?_
          refine z_getR (r := 37) gi_136_43 gk_0 (hR _ rm_0_11) ?_
          refine z_iload1 gi_136_46 ?_
          refine z_aald (r := 38) gi_136_47 rfl (by decide) (by decide) (hR _ rm_37_0) ?_
          refine z_iload2 gi_136_48 ?_
          refine z_cV1 gi_136_49 gk_38 go_67 (Nat.le_of_ble_eq_true rfl) gc_67_RI ?_
          refine z_aload0 gi_67_0 ?_
          refine z_pushJ gp_67_1 ?_
          refine z_putI (y := 0) gi_67_2 rfl gk_38 ?_
          refine z_aload0 gi_67_5 ?_
          refine z_iload1 gi_67_6 ?_
          refine z_putI (y := 1) gi_67_7 rfl gk_38 ?_
          refine z_aload0 gi_67_10 ?_
          refine z_pushJ gp_67_11 ?_
          refine z_putI (y := 3) gi_67_12 rfl gk_38 ?_
          refine z_vret gi_67_15 gr_67 ?_
          show zW _ _ _ _ _ _ _ _ _ _
          refine z_pushJ gp_136_52 ?_
          refine z_iret gi_136_53 gr_136 ?_
          refine ⟨_, rfl, ?_⟩
          show zW _ _ _ _ [some (.ref 50), some (zi 0), some (zi b)] _ _ _ _ _
          refine z_iload1 gi_249_0 ?_
          refine z_cS1 gi_249_1 (Nat.le_of_ble_eq_true rfl) gc_248_I ?_
          refine z_iload0 gi_248_0 ?_
          refine z_pushJ gp_248_1 ?_
          refine z_pushJ gp_248_2 ?_
          refine z_cS3 gi_248_3 (Nat.le_of_ble_eq_true rfl) gc_148_III ?_
          refine z_iload0 gi_148_0 ?_
          refine z_iload1 gi_148_1 ?_
          refine z_icmp_ltF gi_148_2 zr_0 zr_0 (by decide) ?_
          refine z_iload0 gi_148_5 ?_
          refine z_iload2 gi_148_6 ?_
          refine z_icmp_gtF gi_148_7 zr_0 zr_5 (by decide) ?_
          refine z_pushJ gp_148_10 ?_
          refine z_goto gi_148_11 ?_
          refine z_bret1 gi_148_15 gr_148 ?_
          show zW _ _ _ _ _ _ _ _ _ _
          refine z_bret1 gi_248_6 gr_248 ?_
          show zW _ _ _ _ _ _ _ _ _ _
          refine z_if_eqF gi_249_4 zr_1 (by decide) ?_
          refine z_iload2 gi_249_7 ?_
          refine z_pushJ gp_249_8 ?_
          refine z_icmp_eq gi_249_9 (by omega) zrn_1 (fun h6 => ?_) (fun h6 => ?_)
          · refine z_aload0 gi_249_22 ?_
            refine z_getR (r := 83) gi_249_23 gk_50 (hRr _ rm_50_58 (by decide)) ?_
            refine z_iload1 gi_249_26 ?_
            refine z_iload2 gi_249_27 ?_
            refine z_iast (e := b) gi_249_28 gk_83 (by decide) (by decide) rfl ?_
            refine z_pushJ gp_249_29 ?_
            refine z_iret gi_249_30 gr_249 ?_
            refine ⟨?_, ?_⟩
            · first | rfl | exact congrArg (fun v => some (zi v)) (by omega) | (exfalso; omega)
            · have hk := (zK_x (a := 83) (x := 0) (v := b) (zK_x (a := 38) (x := 3) (v := 0) (zK_x (a := 38) (x := 1) (v := b) (zK_x (a := 38) (x := 0) (v := 1) (zK_r (k := (kL [] [(38, 0), (38, 1), (38, 3), (83, 0)])) (A := J)) rfl) rfl) rfl) rfl)
              exact ⟨hR, hG, RelY_k hk (by repeat' constructor) (fun p => by repeat' constructor) hY, RelD_k hk (by repeat' constructor) (fun p => by repeat' constructor) hD, RelP_k hk (by repeat' constructor) (fun p => by repeat' constructor) hP, RelC_k hk (by repeat' constructor) (fun p => by repeat' constructor) hC, RelA_k hk (by repeat' constructor) (fun p => by repeat' constructor) hAc, (RelS_one (J := J) (M := M) (c := 0) (fun t t1 t2 te => by have q : t = 0 ∨ t = 1 ∨ t = 2 ∨ t = 3 ∨ t = 4 ∨ t = 5 := (by omega); rcases q with rfl | rfl | rfl | rfl | rfl | rfl <;> first | exact absurd rfl te | exact ⟨fun j => rfl, rfl, rfl⟩) (fun t t1 t2 te => ⟨fun j => rfl, fun j j1 j2 => rfl⟩) rfl (show RelS1 _ _ _ from ⟨rfl, (show (0 : Int) ≤ 1 ∧ (1 : Int) ≤ 2 from by decide), (hS 0 (by decide) (by decide)).2.2.1, (show (0 : Int) ≤ 0 ∧ (0 : Int) ≤ 60 from by decide), fun _ => (show 0 ≤ b ∧ b < J 34 1 from by omega), fun h => absurd (show (1 : Int) = 2 from h) (by decide)⟩) hS), RelT_k hk (by repeat' constructor) (fun p => by repeat' constructor) hTp, RelX_k hk (by repeat' constructor) (fun p => by repeat' constructor) hX, RelW_k hk ⟨rfl, rfl⟩ trivial hW⟩
          · refine z_aload0 gi_249_12 ?_
            refine z_iload2 gi_249_13 ?_
            refine z_cV1 gi_249_14 gk_50 go_230 (Nat.le_of_ble_eq_true rfl) gc_230_RI ?_
            refine z_iload1 gi_230_0 ?_
            refine z_pushJ gp_230_1 ?_
            refine z_aload0 gi_230_2 ?_
            refine z_getI (v := J 50 54) gi_230_3 gk_50 ((zU_n (by decide)).trans ((zU_n (by decide)).trans ((zU_n (by decide)).trans (rfl)))) ?_
            refine z_pushJ gp_230_6 ?_
            refine z_isub (e := (J 50 54) - 1) gi_230_7 rfl ?_
            refine z_cS3 gi_230_8 (Nat.le_of_ble_eq_true rfl) gc_148_III ?_
            refine z_iload0 gi_148_0 ?_
            refine z_iload1 gi_148_1 ?_
            refine z_icmp_lt gi_148_2 (by omega) zr_0 (fun h7 => ?_) (fun h7 => ?_)
            · refine z_pushJ gp_148_14 ?_
              refine z_bret0 gi_148_15 gr_148 ?_
              show zW _ _ _ _ _ _ _ _ _ _
              refine z_bret0 gi_230_11 gr_230 ?_
              show zW _ _ _ _ _ _ _ _ _ _
              refine z_if_neF gi_249_17 zr_0 (by decide) ?_
              refine z_pushJ gp_249_20 ?_
              refine z_iret gi_249_21 gr_249 ?_
              refine ⟨?_, ?_⟩
              · first | rfl | exact congrArg (fun v => some (zi v)) (by omega) | (exfalso; omega)
              · exfalso
                omega
            · refine z_iload0 gi_148_5 ?_
              refine z_iload2 gi_148_6 ?_
              refine z_icmp_gt gi_148_7 (by omega) (by omega) (fun h8 => ?_) (fun h8 => ?_)
              · refine z_pushJ gp_148_14 ?_
                refine z_bret0 gi_148_15 gr_148 ?_
                show zW _ _ _ _ _ _ _ _ _ _
                refine z_bret0 gi_230_11 gr_230 ?_
                show zW _ _ _ _ _ _ _ _ _ _
                refine z_if_neF gi_249_17 zr_0 (by decide) ?_
                refine z_pushJ gp_249_20 ?_
                refine z_iret gi_249_21 gr_249 ?_
                refine ⟨?_, ?_⟩
                · first | rfl | exact congrArg (fun v => some (zi v)) (by omega) | (exfalso; omega)
                · exfalso
                  omega
              · refine z_pushJ gp_148_10 ?_
                refine z_goto gi_148_11 ?_
                refine z_bret1 gi_148_15 gr_148 ?_
                show zW _ _ _ _ _ _ _ _ _ _
                refine z_bret1 gi_230_11 gr_230 ?_
                show zW _ _ _ _ _ _ _ _ _ _
                refine z_if_neT gi_249_17 zr_1 (by decide) ?_
                refine z_aload0 gi_249_22 ?_
                refine z_getR (r := 83) gi_249_23 gk_50 (hRr _ rm_50_58 (by decide)) ?_
                refine z_iload1 gi_249_26 ?_
                refine z_iload2 gi_249_27 ?_
                refine z_iast (e := b) gi_249_28 gk_83 (by decide) (by decide) rfl ?_
                refine z_pushJ gp_249_29 ?_
                refine z_iret gi_249_30 gr_249 ?_
                refine ⟨?_, ?_⟩
                · first | rfl | exact congrArg (fun v => some (zi v)) (by omega) | (exfalso; omega)
                · have hk := (zK_x (a := 83) (x := 0) (v := b) (zK_x (a := 38) (x := 3) (v := 0) (zK_x (a := 38) (x := 1) (v := b) (zK_x (a := 38) (x := 0) (v := 1) (zK_r (k := (kL [] [(38, 0), (38, 1), (38, 3), (83, 0)])) (A := J)) rfl) rfl) rfl) rfl)
                  exact ⟨hR, hG, RelY_k hk (by repeat' constructor) (fun p => by repeat' constructor) hY, RelD_k hk (by repeat' constructor) (fun p => by repeat' constructor) hD, RelP_k hk (by repeat' constructor) (fun p => by repeat' constructor) hP, RelC_k hk (by repeat' constructor) (fun p => by repeat' constructor) hC, RelA_k hk (by repeat' constructor) (fun p => by repeat' constructor) hAc, (RelS_one (J := J) (M := M) (c := 0) (fun t t1 t2 te => by have q : t = 0 ∨ t = 1 ∨ t = 2 ∨ t = 3 ∨ t = 4 ∨ t = 5 := (by omega); rcases q with rfl | rfl | rfl | rfl | rfl | rfl <;> first | exact absurd rfl te | exact ⟨fun j => rfl, rfl, rfl⟩) (fun t t1 t2 te => ⟨fun j => rfl, fun j j1 j2 => rfl⟩) rfl (show RelS1 _ _ _ from ⟨rfl, (show (0 : Int) ≤ 1 ∧ (1 : Int) ≤ 2 from by decide), (hS 0 (by decide) (by decide)).2.2.1, (show (0 : Int) ≤ 0 ∧ (0 : Int) ≤ 60 from by decide), fun _ => (show 0 ≤ b ∧ b < J 34 1 from by omega), fun h => absurd (show (1 : Int) = 2 from h) (by decide)⟩) hS), RelT_k hk (by repeat' constructor) (fun p => by repeat' constructor) hTp, RelX_k hk (by repeat' constructor) (fun p => by repeat' constructor) hX, RelW_k hk ⟨rfl, rfl⟩ trivial hW⟩
        · refine z_aload0 gi_136_30 ?_
          refine z_getR (r := 37) gi_136_31 gk_0 (hR _ rm_0_11) ?_
          refine z_iload1 gi_136_34 ?_
          refine z_aald (r := 38) gi_136_35 rfl (by decide) (by decide) (hR _ rm_37_0) ?_
          refine z_cV0 gi_136_36 gk_38 go_66 (Nat.le_of_ble_eq_true rfl) gc_66_R ?_
          refine z_aload0 gi_66_0 ?_
          refine z_pushJ gp_66_1 ?_
          refine z_putI (y := 0) gi_66_2 rfl gk_38 ?_
          refine z_aload0 gi_66_5 ?_
          refine z_pushJ gp_66_6 ?_
          refine z_putI (y := 3) gi_66_7 rfl gk_38 ?_
          refine z_vret gi_66_10 gr_66 ?_
          show zW _ _ _ _ _ _ _ _ _ _
          refine z_goto gi_136_39 ?_
          refine z_pushJ gp_136_52 ?_
          refine z_iret gi_136_53 gr_136 ?_
          refine ⟨_, rfl, ?_⟩
          show zW _ _ _ _ [some (.ref 50), some (zi 0), some (zi b)] _ _ _ _ _
          refine z_iload1 gi_249_0 ?_
          refine z_cS1 gi_249_1 (Nat.le_of_ble_eq_true rfl) gc_248_I ?_
          refine z_iload0 gi_248_0 ?_
          refine z_pushJ gp_248_1 ?_
          refine z_pushJ gp_248_2 ?_
          refine z_cS3 gi_248_3 (Nat.le_of_ble_eq_true rfl) gc_148_III ?_
          refine z_iload0 gi_148_0 ?_
          refine z_iload1 gi_148_1 ?_
          refine z_icmp_ltF gi_148_2 zr_0 zr_0 (by decide) ?_
          refine z_iload0 gi_148_5 ?_
          refine z_iload2 gi_148_6 ?_
          refine z_icmp_gtF gi_148_7 zr_0 zr_5 (by decide) ?_
          refine z_pushJ gp_148_10 ?_
          refine z_goto gi_148_11 ?_
          refine z_bret1 gi_148_15 gr_148 ?_
          show zW _ _ _ _ _ _ _ _ _ _
          refine z_bret1 gi_248_6 gr_248 ?_
          show zW _ _ _ _ _ _ _ _ _ _
          refine z_if_eqF gi_249_4 zr_1 (by decide) ?_
          refine z_iload2 gi_249_7 ?_
          refine z_pushJ gp_249_8 ?_
          refine z_icmp_eq gi_249_9 (by omega) zrn_1 (fun h6 => ?_) (fun h6 => ?_)
          · refine z_aload0 gi_249_22 ?_
            refine z_getR (r := 83) gi_249_23 gk_50 (hRr _ rm_50_58 (by decide)) ?_
            refine z_iload1 gi_249_26 ?_
            refine z_iload2 gi_249_27 ?_
            refine z_iast (e := b) gi_249_28 gk_83 (by decide) (by decide) rfl ?_
            refine z_pushJ gp_249_29 ?_
            refine z_iret gi_249_30 gr_249 ?_
            refine ⟨?_, ?_⟩
            · first | rfl | exact congrArg (fun v => some (zi v)) (by omega) | (exfalso; omega)
            · have hk := (zK_x (a := 83) (x := 0) (v := b) (zK_x (a := 38) (x := 3) (v := 0) (zK_x (a := 38) (x := 0) (v := 0) (zK_r (k := (kL [] [(38, 0), (38, 3), (83, 0)])) (A := J)) rfl) rfl) rfl)
              exact ⟨hR, hG, RelY_k hk (by repeat' constructor) (fun p => by repeat' constructor) hY, RelD_k hk (by repeat' constructor) (fun p => by repeat' constructor) hD, RelP_k hk (by repeat' constructor) (fun p => by repeat' constructor) hP, RelC_k hk (by repeat' constructor) (fun p => by repeat' constructor) hC, RelA_k hk (by repeat' constructor) (fun p => by repeat' constructor) hAc, (RelS_one (J := J) (M := M) (c := 0) (fun t t1 t2 te => by have q : t = 0 ∨ t = 1 ∨ t = 2 ∨ t = 3 ∨ t = 4 ∨ t = 5 := (by omega); rcases q with rfl | rfl | rfl | rfl | rfl | rfl <;> first | exact absurd rfl te | exact ⟨fun j => rfl, rfl, rfl⟩) (fun t t1 t2 te => ⟨fun j => rfl, fun j j1 j2 => rfl⟩) rfl (show RelS1 _ _ _ from ⟨(show (-1 : Int) = b from by omega), (show (0 : Int) ≤ 0 ∧ (0 : Int) ≤ 2 from by decide), (hS 0 (by decide) (by decide)).2.2.1, (show (0 : Int) ≤ 0 ∧ (0 : Int) ≤ 60 from by decide), fun h => absurd (show (0 : Int) = 1 from h) (by decide), fun h => absurd (show (0 : Int) = 2 from h) (by decide)⟩) hS), RelT_k hk (by repeat' constructor) (fun p => by repeat' constructor) hTp, RelX_k hk (by repeat' constructor) (fun p => by repeat' constructor) hX, RelW_k hk ⟨rfl, rfl⟩ trivial hW⟩
          · refine z_aload0 gi_249_12 ?_
            refine z_iload2 gi_249_13 ?_
            refine z_cV1 gi_249_14 gk_50 go_230 (Nat.le_of_ble_eq_true rfl) gc_230_RI ?_
            refine z_iload1 gi_230_0 ?_
            refine z_pushJ gp_230_1 ?_
            refine z_aload0 gi_230_2 ?_
            refine z_getI (v := J 50 54) gi_230_3 gk_50 ((zU_n (by decide)).trans ((zU_n (by decide)).trans (rfl))) ?_
            refine z_pushJ gp_230_6 ?_
            refine z_isub (e := (J 50 54) - 1) gi_230_7 rfl ?_
            refine z_cS3 gi_230_8 (Nat.le_of_ble_eq_true rfl) gc_148_III ?_
            refine z_iload0 gi_148_0 ?_
            refine z_iload1 gi_148_1 ?_
            refine z_icmp_lt gi_148_2 (by omega) zr_0 (fun h7 => ?_) (fun h7 => ?_)
            · refine z_pushJ gp_148_14 ?_
              refine z_bret0 gi_148_15 gr_148 ?_
              show zW _ _ _ _ _ _ _ _ _ _
              refine z_bret0 gi_230_11 gr_230 ?_
              show zW _ _ _ _ _ _ _ _ _ _
              refine z_if_neF gi_249_17 zr_0 (by decide) ?_
              refine z_pushJ gp_249_20 ?_
              refine z_iret gi_249_21 gr_249 ?_
              refine ⟨?_, ?_⟩
              · first | rfl | exact congrArg (fun v => some (zi v)) (by omega) | (exfalso; omega)
              · exfalso
                omega
            · refine z_iload0 gi_148_5 ?_
              refine z_iload2 gi_148_6 ?_
              refine z_icmp_gt gi_148_7 (by omega) (by omega) (fun h8 => ?_) (fun h8 => ?_)
              · refine z_pushJ gp_148_14 ?_
                refine z_bret0 gi_148_15 gr_148 ?_
                show zW _ _ _ _ _ _ _ _ _ _
                refine z_bret0 gi_230_11 gr_230 ?_
                show zW _ _ _ _ _ _ _ _ _ _
                refine z_if_neF gi_249_17 zr_0 (by decide) ?_
                refine z_pushJ gp_249_20 ?_
                refine z_iret gi_249_21 gr_249 ?_
                refine ⟨?_, ?_⟩
                · first | rfl | exact congrArg (fun v => some (zi v)) (by omega) | (exfalso; omega)
                · exfalso
                  omega
              · refine z_pushJ gp_148_10 ?_
                refine z_goto gi_148_11 ?_
                refine z_bret1 gi_148_15 gr_148 ?_
                show zW _ _ _ _ _ _ _ _ _ _
                refine z_bret1 gi_230_11 gr_230 ?_
                show zW _ _ _ _ _ _ _ _ _ _
                refine z_if_neT gi_249_17 zr_1 (by decide) ?_
                refine z_aload0 gi_249_22 ?_
                refine z_getR (r := 83) gi_249_23 gk_50 (hRr _ rm_50_58 (by decide)) ?_
                refine z_iload1 gi_249_26 ?_
                refine z_iload2 gi_249_27 ?_
                refine z_iast (e := b) gi_249_28 gk_83 (by decide) (by decide) rfl ?_
                refine z_pushJ gp_249_29 ?_
                refine z_iret gi_249_30 gr_249 ?_
                refine ⟨?_, ?_⟩
                · first | rfl | exact congrArg (fun v => some (zi v)) (by omega) | (exfalso; omega)
                · have hk := (zK_x (a := 83) (x := 0) (v := b) (zK_x (a := 38) (x := 3) (v := 0) (zK_x (a := 38) (x := 0) (v := 0) (zK_r (k := (kL [] [(38, 0), (38, 3), (83, 0)])) (A := J)) rfl) rfl) rfl)
                  exact ⟨hR, hG, RelY_k hk (by repeat' constructor) (fun p => by repeat' constructor) hY, RelD_k hk (by repeat' constructor) (fun p => by repeat' constructor) hD, RelP_k hk (by repeat' constructor) (fun p => by repeat' constructor) hP, RelC_k hk (by repeat' constructor) (fun p => by repeat' constructor) hC, RelA_k hk (by repeat' constructor) (fun p => by repeat' constructor) hAc, (RelS_one (J := J) (M := M) (c := 0) (fun t t1 t2 te => by have q : t = 0 ∨ t = 1 ∨ t = 2 ∨ t = 3 ∨ t = 4 ∨ t = 5 := (by omega); rcases q with rfl | rfl | rfl | rfl | rfl | rfl <;> first | exact absurd rfl te | exact ⟨fun j => rfl, rfl, rfl⟩) (fun t t1 t2 te => ⟨fun j => rfl, fun j j1 j2 => rfl⟩) rfl (show RelS1 _ _ _ from ⟨(show (-1 : Int) = b from by omega), (show (0 : Int) ≤ 0 ∧ (0 : Int) ≤ 2 from by decide), (hS 0 (by decide) (by decide)).2.2.1, (show (0 : Int) ≤ 0 ∧ (0 : Int) ≤ 60 from by decide), fun h => absurd (show (0 : Int) = 1 from h) (by decide), fun h => absurd (show (0 : Int) = 2 from h) (by decide)⟩) hS), RelT_k hk (by repeat' constructor) (fun p => by repeat' constructor) hTp, RelX_k hk (by repeat' constructor) (fun p => by repeat' constructor) hX, RelW_k hk ⟨rfl, rfl⟩ trivial hW⟩
theorem st_keep_1 {X : Nat × (Nat → Int32)} {d : Nat} {J M : zA} {R : zR} {b : Int} (hr : Rel X J M R) (hb : -2147483648 ≤ b ∧ b < 2147483648)  : zW X (d + 20) 136 0 (gEn 136 [(.ref 0), (zi 1), (zi b)]) [] J M R (stP X (d + 20) 249 [(zi 1), (zi b)]) := by
  have hr0 := hr
  obtain ⟨hR, hG, hY, hD, hP, hC, hAc, hS, hTp, hX, hW⟩ := hr0
  have hRr : zRoR R := zRoR_of hR
  have hA0 := hAc
  obtain ⟨a1, a2, a3, a4, a5, a6⟩ := hA0
  show zW _ _ _ _ [some (.ref 0), some (zi 1), some (zi b)] _ _ _ _ _
  refine z_iload1 gi_136_0 ?_
  refine z_cS1 gi_136_1 (Nat.le_of_ble_eq_true rfl) gc_143_I ?_
  refine z_iload0 gi_143_0 ?_
  refine z_if_ltF gi_143_1 zr_1 (by decide) ?_
  refine z_iload0 gi_143_4 ?_
  refine z_pushJ gp_143_5 ?_
  refine z_icmp_geF gi_143_7 zr_1 zr_6 (by decide) ?_
  refine z_pushJ gp_143_10 ?_
  refine z_goto gi_143_11 ?_
  refine z_bret1 gi_143_15 gr_143 ?_
  show zW _ _ _ _ _ _ _ _ _ _
  refine z_if_eqF gi_136_4 zr_1 (by decide) ?_
  refine z_iload2 gi_136_7 ?_
  refine z_pushJ gp_136_8 ?_
  refine z_icmp_eq gi_136_9 (by omega) zrn_1 (fun h1 => ?_) (fun h1 => ?_)
  · refine z_iload2 gi_136_25 ?_
    refine z_pushJ gp_136_26 ?_
    refine z_icmp_ne gi_136_27 (by omega) zrn_1 (fun h2 => ?_) (fun h2 => ?_)
    · refine z_aload0 gi_136_42 ?_
      refine z_getR (r := 37) gi_136_43 gk_0 (hR _ rm_0_11) ?_
      refine z_iload1 gi_136_46 ?_
      refine z_aald (r := 40) gi_136_47 rfl (by decide) (by decide) (hR _ rm_37_1) ?_
      refine z_iload2 gi_136_48 ?_
      refine z_cV1 gi_136_49 gk_40 go_67 (Nat.le_of_ble_eq_true rfl) gc_67_RI ?_
      refine z_aload0 gi_67_0 ?_
      refine z_pushJ gp_67_1 ?_
      refine z_putI (y := 0) gi_67_2 rfl gk_40 ?_
      refine z_aload0 gi_67_5 ?_
      refine z_iload1 gi_67_6 ?_
      refine z_putI (y := 1) gi_67_7 rfl gk_40 ?_
      refine z_aload0 gi_67_10 ?_
      refine z_pushJ gp_67_11 ?_
      refine z_putI (y := 3) gi_67_12 rfl gk_40 ?_
      refine z_vret gi_67_15 gr_67 ?_
      show zW _ _ _ _ _ _ _ _ _ _
      refine z_pushJ gp_136_52 ?_
      refine z_iret gi_136_53 gr_136 ?_
      refine ⟨_, rfl, ?_⟩
      show zW _ _ _ _ [some (.ref 50), some (zi 1), some (zi b)] _ _ _ _ _
      refine z_iload1 gi_249_0 ?_
      refine z_cS1 gi_249_1 (Nat.le_of_ble_eq_true rfl) gc_248_I ?_
      refine z_iload0 gi_248_0 ?_
      refine z_pushJ gp_248_1 ?_
      refine z_pushJ gp_248_2 ?_
      refine z_cS3 gi_248_3 (Nat.le_of_ble_eq_true rfl) gc_148_III ?_
      refine z_iload0 gi_148_0 ?_
      refine z_iload1 gi_148_1 ?_
      refine z_icmp_ltF gi_148_2 zr_1 zr_0 (by decide) ?_
      refine z_iload0 gi_148_5 ?_
      refine z_iload2 gi_148_6 ?_
      refine z_icmp_gtF gi_148_7 zr_1 zr_5 (by decide) ?_
      refine z_pushJ gp_148_10 ?_
      refine z_goto gi_148_11 ?_
      refine z_bret1 gi_148_15 gr_148 ?_
      show zW _ _ _ _ _ _ _ _ _ _
      refine z_bret1 gi_248_6 gr_248 ?_
      show zW _ _ _ _ _ _ _ _ _ _
      refine z_if_eqF gi_249_4 zr_1 (by decide) ?_
      refine z_iload2 gi_249_7 ?_
      refine z_pushJ gp_249_8 ?_
      refine z_icmp_eq gi_249_9 (by omega) zrn_1 (fun h3 => ?_) (fun h3 => ?_)
      · refine z_aload0 gi_249_22 ?_
        refine z_getR (r := 83) gi_249_23 gk_50 (hRr _ rm_50_58 (by decide)) ?_
        refine z_iload1 gi_249_26 ?_
        refine z_iload2 gi_249_27 ?_
        refine z_iast (e := b) gi_249_28 gk_83 (by decide) (by decide) rfl ?_
        refine z_pushJ gp_249_29 ?_
        refine z_iret gi_249_30 gr_249 ?_
        refine ⟨?_, ?_⟩
        · first | rfl | exact congrArg (fun v => some (zi v)) (by omega) | (exfalso; omega)
        · have hk := (zK_x (a := 83) (x := 1) (v := b) (zK_x (a := 40) (x := 3) (v := 0) (zK_x (a := 40) (x := 1) (v := b) (zK_x (a := 40) (x := 0) (v := 1) (zK_r (k := (kL [] [(40, 0), (40, 1), (40, 3), (83, 1)])) (A := J)) rfl) rfl) rfl) rfl)
          exact ⟨hR, hG, RelY_k hk (by repeat' constructor) (fun p => by repeat' constructor) hY, RelD_k hk (by repeat' constructor) (fun p => by repeat' constructor) hD, RelP_k hk (by repeat' constructor) (fun p => by repeat' constructor) hP, RelC_k hk (by repeat' constructor) (fun p => by repeat' constructor) hC, RelA_k hk (by repeat' constructor) (fun p => by repeat' constructor) hAc, (RelS_one (J := J) (M := M) (c := 1) (fun t t1 t2 te => by have q : t = 0 ∨ t = 1 ∨ t = 2 ∨ t = 3 ∨ t = 4 ∨ t = 5 := (by omega); rcases q with rfl | rfl | rfl | rfl | rfl | rfl <;> first | exact absurd rfl te | exact ⟨fun j => rfl, rfl, rfl⟩) (fun t t1 t2 te => ⟨fun j => rfl, fun j j1 j2 => rfl⟩) rfl (show RelS1 _ _ _ from ⟨rfl, (show (0 : Int) ≤ 1 ∧ (1 : Int) ≤ 2 from by decide), (hS 1 (by decide) (by decide)).2.2.1, (show (0 : Int) ≤ 0 ∧ (0 : Int) ≤ 60 from by decide), fun _ => (show 0 ≤ b ∧ b < J 34 1 from by omega), fun h => absurd (show (1 : Int) = 2 from h) (by decide)⟩) hS), RelT_k hk (by repeat' constructor) (fun p => by repeat' constructor) hTp, RelX_k hk (by repeat' constructor) (fun p => by repeat' constructor) hX, RelW_k hk ⟨rfl, rfl⟩ trivial hW⟩
      · refine z_aload0 gi_249_12 ?_
        refine z_iload2 gi_249_13 ?_
        refine z_cV1 gi_249_14 gk_50 go_230 (Nat.le_of_ble_eq_true rfl) gc_230_RI ?_
        refine z_iload1 gi_230_0 ?_
        refine z_pushJ gp_230_1 ?_
        refine z_aload0 gi_230_2 ?_
        refine z_getI (v := J 50 54) gi_230_3 gk_50 ((zU_n (by decide)).trans ((zU_n (by decide)).trans ((zU_n (by decide)).trans (rfl)))) ?_
        refine z_pushJ gp_230_6 ?_
        refine z_isub (e := (J 50 54) - 1) gi_230_7 rfl ?_
        refine z_cS3 gi_230_8 (Nat.le_of_ble_eq_true rfl) gc_148_III ?_
        refine z_iload0 gi_148_0 ?_
        refine z_iload1 gi_148_1 ?_
        refine z_icmp_lt gi_148_2 (by omega) zr_0 (fun h4 => ?_) (fun h4 => ?_)
        · refine z_pushJ gp_148_14 ?_
          refine z_bret0 gi_148_15 gr_148 ?_
          show zW _ _ _ _ _ _ _ _ _ _
          refine z_bret0 gi_230_11 gr_230 ?_
          show zW _ _ _ _ _ _ _ _ _ _
          refine z_if_neF gi_249_17 zr_0 (by decide) ?_
          refine z_pushJ gp_249_20 ?_
          refine z_iret gi_249_21 gr_249 ?_
          refine ⟨?_, ?_⟩
          · first | rfl | exact congrArg (fun v => some (zi v)) (by omega) | (exfalso; omega)
          · exfalso
            omega
        · refine z_iload0 gi_148_5 ?_
          refine z_iload2 gi_148_6 ?_
          refine z_icmp_gt gi_148_7 (by omega) (by omega) (fun h5 => ?_) (fun h5 => ?_)
          · refine z_pushJ gp_148_14 ?_
            refine z_bret0 gi_148_15 gr_148 ?_
            show zW _ _ _ _ _ _ _ _ _ _
            refine z_bret0 gi_230_11 gr_230 ?_
            show zW _ _ _ _ _ _ _ _ _ _
            refine z_if_neF gi_249_17 zr_0 (by decide) ?_
            refine z_pushJ gp_249_20 ?_
            refine z_iret gi_249_21 gr_249 ?_
            refine ⟨?_, ?_⟩
            · first | rfl | exact congrArg (fun v => some (zi v)) (by omega) | (exfalso; omega)
            · exfalso
              omega
          · refine z_pushJ gp_148_10 ?_
            refine z_goto gi_148_11 ?_
            refine z_bret1 gi_148_15 gr_148 ?_
            show zW _ _ _ _ _ _ _ _ _ _
            refine z_bret1 gi_230_11 gr_230 ?_
            show zW _ _ _ _ _ _ _ _ _ _
            refine z_if_neT gi_249_17 zr_1 (by decide) ?_
            refine z_aload0 gi_249_22 ?_
            refine z_getR (r := 83) gi_249_23 gk_50 (hRr _ rm_50_58 (by decide)) ?_
            refine z_iload1 gi_249_26 ?_
            refine z_iload2 gi_249_27 ?_
            refine z_iast (e := b) gi_249_28 gk_83 (by decide) (by decide) rfl ?_
            refine z_pushJ gp_249_29 ?_
            refine z_iret gi_249_30 gr_249 ?_
            refine ⟨?_, ?_⟩
            · first | rfl | exact congrArg (fun v => some (zi v)) (by omega) | (exfalso; omega)
            · have hk := (zK_x (a := 83) (x := 1) (v := b) (zK_x (a := 40) (x := 3) (v := 0) (zK_x (a := 40) (x := 1) (v := b) (zK_x (a := 40) (x := 0) (v := 1) (zK_r (k := (kL [] [(40, 0), (40, 1), (40, 3), (83, 1)])) (A := J)) rfl) rfl) rfl) rfl)
              exact ⟨hR, hG, RelY_k hk (by repeat' constructor) (fun p => by repeat' constructor) hY, RelD_k hk (by repeat' constructor) (fun p => by repeat' constructor) hD, RelP_k hk (by repeat' constructor) (fun p => by repeat' constructor) hP, RelC_k hk (by repeat' constructor) (fun p => by repeat' constructor) hC, RelA_k hk (by repeat' constructor) (fun p => by repeat' constructor) hAc, (RelS_one (J := J) (M := M) (c := 1) (fun t t1 t2 te => by have q : t = 0 ∨ t = 1 ∨ t = 2 ∨ t = 3 ∨ t = 4 ∨ t = 5 := (by omega); rcases q with rfl | rfl | rfl | rfl | rfl | rfl <;> first | exact absurd rfl te | exact ⟨fun j => rfl, rfl, rfl⟩) (fun t t1 t2 te => ⟨fun j => rfl, fun j j1 j2 => rfl⟩) rfl (show RelS1 _ _ _ from ⟨rfl, (show (0 : Int) ≤ 1 ∧ (1 : Int) ≤ 2 from by decide), (hS 1 (by decide) (by decide)).2.2.1, (show (0 : Int) ≤ 0 ∧ (0 : Int) ≤ 60 from by decide), fun _ => (show 0 ≤ b ∧ b < J 34 1 from by omega), fun h => absurd (show (1 : Int) = 2 from h) (by decide)⟩) hS), RelT_k hk (by repeat' constructor) (fun p => by repeat' constructor) hTp, RelX_k hk (by repeat' constructor) (fun p => by repeat' constructor) hX, RelW_k hk ⟨rfl, rfl⟩ trivial hW⟩
    · refine z_aload0 gi_136_30 ?_
      refine z_getR (r := 37) gi_136_31 gk_0 (hR _ rm_0_11) ?_
      refine z_iload1 gi_136_34 ?_
      refine z_aald (r := 40) gi_136_35 rfl (by decide) (by decide) (hR _ rm_37_1) ?_
      refine z_cV0 gi_136_36 gk_40 go_66 (Nat.le_of_ble_eq_true rfl) gc_66_R ?_
      refine z_aload0 gi_66_0 ?_
      refine z_pushJ gp_66_1 ?_
      refine z_putI (y := 0) gi_66_2 rfl gk_40 ?_
      refine z_aload0 gi_66_5 ?_
      refine z_pushJ gp_66_6 ?_
      refine z_putI (y := 3) gi_66_7 rfl gk_40 ?_
      refine z_vret gi_66_10 gr_66 ?_
      show zW _ _ _ _ _ _ _ _ _ _
      refine z_goto gi_136_39 ?_
      refine z_pushJ gp_136_52 ?_
      refine z_iret gi_136_53 gr_136 ?_
      refine ⟨_, rfl, ?_⟩
      show zW _ _ _ _ [some (.ref 50), some (zi 1), some (zi b)] _ _ _ _ _
      refine z_iload1 gi_249_0 ?_
      refine z_cS1 gi_249_1 (Nat.le_of_ble_eq_true rfl) gc_248_I ?_
      refine z_iload0 gi_248_0 ?_
      refine z_pushJ gp_248_1 ?_
      refine z_pushJ gp_248_2 ?_
      refine z_cS3 gi_248_3 (Nat.le_of_ble_eq_true rfl) gc_148_III ?_
      refine z_iload0 gi_148_0 ?_
      refine z_iload1 gi_148_1 ?_
      refine z_icmp_ltF gi_148_2 zr_1 zr_0 (by decide) ?_
      refine z_iload0 gi_148_5 ?_
      refine z_iload2 gi_148_6 ?_
      refine z_icmp_gtF gi_148_7 zr_1 zr_5 (by decide) ?_
      refine z_pushJ gp_148_10 ?_
      refine z_goto gi_148_11 ?_
      refine z_bret1 gi_148_15 gr_148 ?_
      show zW _ _ _ _ _ _ _ _ _ _
      refine z_bret1 gi_248_6 gr_248 ?_
      show zW _ _ _ _ _ _ _ _ _ _
      refine z_if_eqF gi_249_4 zr_1 (by decide) ?_
      refine z_iload2 gi_249_7 ?_
      refine z_pushJ gp_249_8 ?_
      refine z_icmp_eq gi_249_9 (by omega) zrn_1 (fun h3 => ?_) (fun h3 => ?_)
      · refine z_aload0 gi_249_22 ?_
        refine z_getR (r := 83) gi_249_23 gk_50 (hRr _ rm_50_58 (by decide)) ?_
        refine z_iload1 gi_249_26 ?_
        refine z_iload2 gi_249_27 ?_
        refine z_iast (e := b) gi_249_28 gk_83 (by decide) (by decide) rfl ?_
        refine z_pushJ gp_249_29 ?_
        refine z_iret gi_249_30 gr_249 ?_
        refine ⟨?_, ?_⟩
        · first | rfl | exact congrArg (fun v => some (zi v)) (by omega) | (exfalso; omega)
        · have hk := (zK_x (a := 83) (x := 1) (v := b) (zK_x (a := 40) (x := 3) (v := 0) (zK_x (a := 40) (x := 0) (v := 0) (zK_r (k := (kL [] [(40, 0), (40, 3), (83, 1)])) (A := J)) rfl) rfl) rfl)
          exact ⟨hR, hG, RelY_k hk (by repeat' constructor) (fun p => by repeat' constructor) hY, RelD_k hk (by repeat' constructor) (fun p => by repeat' constructor) hD, RelP_k hk (by repeat' constructor) (fun p => by repeat' constructor) hP, RelC_k hk (by repeat' constructor) (fun p => by repeat' constructor) hC, RelA_k hk (by repeat' constructor) (fun p => by repeat' constructor) hAc, (RelS_one (J := J) (M := M) (c := 1) (fun t t1 t2 te => by have q : t = 0 ∨ t = 1 ∨ t = 2 ∨ t = 3 ∨ t = 4 ∨ t = 5 := (by omega); rcases q with rfl | rfl | rfl | rfl | rfl | rfl <;> first | exact absurd rfl te | exact ⟨fun j => rfl, rfl, rfl⟩) (fun t t1 t2 te => ⟨fun j => rfl, fun j j1 j2 => rfl⟩) rfl (show RelS1 _ _ _ from ⟨(show (-1 : Int) = b from by omega), (show (0 : Int) ≤ 0 ∧ (0 : Int) ≤ 2 from by decide), (hS 1 (by decide) (by decide)).2.2.1, (show (0 : Int) ≤ 0 ∧ (0 : Int) ≤ 60 from by decide), fun h => absurd (show (0 : Int) = 1 from h) (by decide), fun h => absurd (show (0 : Int) = 2 from h) (by decide)⟩) hS), RelT_k hk (by repeat' constructor) (fun p => by repeat' constructor) hTp, RelX_k hk (by repeat' constructor) (fun p => by repeat' constructor) hX, RelW_k hk ⟨rfl, rfl⟩ trivial hW⟩
      · refine z_aload0 gi_249_12 ?_
        refine z_iload2 gi_249_13 ?_
        refine z_cV1 gi_249_14 gk_50 go_230 (Nat.le_of_ble_eq_true rfl) gc_230_RI ?_
        refine z_iload1 gi_230_0 ?_
        refine z_pushJ gp_230_1 ?_
        refine z_aload0 gi_230_2 ?_
        refine z_getI (v := J 50 54) gi_230_3 gk_50 ((zU_n (by decide)).trans ((zU_n (by decide)).trans (rfl))) ?_
        refine z_pushJ gp_230_6 ?_
        refine z_isub (e := (J 50 54) - 1) gi_230_7 rfl ?_
        refine z_cS3 gi_230_8 (Nat.le_of_ble_eq_true rfl) gc_148_III ?_
        refine z_iload0 gi_148_0 ?_
        refine z_iload1 gi_148_1 ?_
        refine z_icmp_lt gi_148_2 (by omega) zr_0 (fun h4 => ?_) (fun h4 => ?_)
        · refine z_pushJ gp_148_14 ?_
          refine z_bret0 gi_148_15 gr_148 ?_
          show zW _ _ _ _ _ _ _ _ _ _
          refine z_bret0 gi_230_11 gr_230 ?_
          show zW _ _ _ _ _ _ _ _ _ _
          refine z_if_neF gi_249_17 zr_0 (by decide) ?_
          refine z_pushJ gp_249_20 ?_
          refine z_iret gi_249_21 gr_249 ?_
          refine ⟨?_, ?_⟩
          · first | rfl | exact congrArg (fun v => some (zi v)) (by omega) | (exfalso; omega)
          · exfalso
            omega
        · refine z_iload0 gi_148_5 ?_
          refine z_iload2 gi_148_6 ?_
          refine z_icmp_gt gi_148_7 (by omega) (by omega) (fun h5 => ?_) (fun h5 => ?_)
          · refine z_pushJ gp_148_14 ?_
            refine z_bret0 gi_148_15 gr_148 ?_
            show zW _ _ _ _ _ _ _ _ _ _
            refine z_bret0 gi_230_11 gr_230 ?_
            show zW _ _ _ _ _ _ _ _ _ _
            refine z_if_neF gi_249_17 zr_0 (by decide) ?_
            refine z_pushJ gp_249_20 ?_
            refine z_iret gi_249_21 gr_249 ?_
            refine ⟨?_, ?_⟩
            · first | rfl | exact congrArg (fun v => some (zi v)) (by omega) | (exfalso; omega)
            · exfalso
              omega
          · refine z_pushJ gp_148_10 ?_
            refine z_goto gi_148_11 ?_
            refine z_bret1 gi_148_15 gr_148 ?_
            show zW _ _ _ _ _ _ _ _ _ _
            refine z_bret1 gi_230_11 gr_230 ?_
            show zW _ _ _ _ _ _ _ _ _ _
            refine z_if_neT gi_249_17 zr_1 (by decide) ?_
            refine z_aload0 gi_249_22 ?_
            refine z_getR (r := 83) gi_249_23 gk_50 (hRr _ rm_50_58 (by decide)) ?_
            refine z_iload1 gi_249_26 ?_
            refine z_iload2 gi_249_27 ?_
            refine z_iast (e := b) gi_249_28 gk_83 (by decide) (by decide) rfl ?_
            refine z_pushJ gp_249_29 ?_
            refine z_iret gi_249_30 gr_249 ?_
            refine ⟨?_, ?_⟩
            · first | rfl | exact congrArg (fun v => some (zi v)) (by omega) | (exfalso; omega)
            · have hk := (zK_x (a := 83) (x := 1) (v := b) (zK_x (a := 40) (x := 3) (v := 0) (zK_x (a := 40) (x := 0) (v := 0) (zK_r (k := (kL [] [(40, 0), (40, 3), (83, 1)])) (A := J)) rfl) rfl) rfl)
              exact ⟨hR, hG, RelY_k hk (by repeat' constructor) (fun p => by repeat' constructor) hY, RelD_k hk (by repeat' constructor) (fun p => by repeat' constructor) hD, RelP_k hk (by repeat' constructor) (fun p => by repeat' constructor) hP, RelC_k hk (by repeat' constructor) (fun p => by repeat' constructor) hC, RelA_k hk (by repeat' constructor) (fun p => by repeat' constructor) hAc, (RelS_one (J := J) (M := M) (c := 1) (fun t t1 t2 te => by have q : t = 0 ∨ t = 1 ∨ t = 2 ∨ t = 3 ∨ t = 4 ∨ t = 5 := (by omega); rcases q with rfl | rfl | rfl | rfl | rfl | rfl <;> first | exact absurd rfl te | exact ⟨fun j => rfl, rfl, rfl⟩) (fun t t1 t2 te => ⟨fun j => rfl, fun j j1 j2 => rfl⟩) rfl (show RelS1 _ _ _ from ⟨(show (-1 : Int) = b from by omega), (show (0 : Int) ≤ 0 ∧ (0 : Int) ≤ 2 from by decide), (hS 1 (by decide) (by decide)).2.2.1, (show (0 : Int) ≤ 0 ∧ (0 : Int) ≤ 60 from by decide), fun h => absurd (show (0 : Int) = 1 from h) (by decide), fun h => absurd (show (0 : Int) = 2 from h) (by decide)⟩) hS), RelT_k hk (by repeat' constructor) (fun p => by repeat' constructor) hTp, RelX_k hk (by repeat' constructor) (fun p => by repeat' constructor) hX, RelW_k hk ⟨rfl, rfl⟩ trivial hW⟩
  · refine z_aload0 gi_136_12 ?_
    refine z_getR (r := 34) gi_136_13 gk_0 (hR _ rm_0_10) ?_
    refine z_iload2 gi_136_16 ?_
    refine z_cV1 gi_136_17 gk_34 go_3 (Nat.le_of_ble_eq_true rfl) gc_3_RI ?_
    refine z_iload1 gi_3_0 ?_
    refine z_if_lt gi_3_1 (by omega) (fun h3 => ?_) (fun h3 => ?_)
    · refine z_pushJ gp_3_16 ?_
      refine z_bret0 gi_3_17 gr_3 ?_
      show zW _ _ _ _ _ _ _ _ _ _
      refine z_if_neF gi_136_20 zr_0 (by decide) ?_
      refine z_pushJ gp_136_23 ?_
      refine z_iret gi_136_24 gr_136 ?_
      refine ⟨_, rfl, ?_⟩
      show zW _ _ _ _ [some (.ref 50), some (zi 1), some (zi b)] _ _ _ _ _
      refine z_iload1 gi_249_0 ?_
      refine z_cS1 gi_249_1 (Nat.le_of_ble_eq_true rfl) gc_248_I ?_
      refine z_iload0 gi_248_0 ?_
      refine z_pushJ gp_248_1 ?_
      refine z_pushJ gp_248_2 ?_
      refine z_cS3 gi_248_3 (Nat.le_of_ble_eq_true rfl) gc_148_III ?_
      refine z_iload0 gi_148_0 ?_
      refine z_iload1 gi_148_1 ?_
      refine z_icmp_ltF gi_148_2 zr_1 zr_0 (by decide) ?_
      refine z_iload0 gi_148_5 ?_
      refine z_iload2 gi_148_6 ?_
      refine z_icmp_gtF gi_148_7 zr_1 zr_5 (by decide) ?_
      refine z_pushJ gp_148_10 ?_
      refine z_goto gi_148_11 ?_
      refine z_bret1 gi_148_15 gr_148 ?_
      show zW _ _ _ _ _ _ _ _ _ _
      refine z_bret1 gi_248_6 gr_248 ?_
      show zW _ _ _ _ _ _ _ _ _ _
      refine z_if_eqF gi_249_4 zr_1 (by decide) ?_
      refine z_iload2 gi_249_7 ?_
      refine z_pushJ gp_249_8 ?_
      refine z_icmp_eq gi_249_9 (by omega) zrn_1 (fun h4 => ?_) (fun h4 => ?_)
      · refine z_aload0 gi_249_22 ?_
        refine z_getR (r := 83) gi_249_23 gk_50 (hRr _ rm_50_58 (by decide)) ?_
        refine z_iload1 gi_249_26 ?_
        refine z_iload2 gi_249_27 ?_
        refine z_iast (e := b) gi_249_28 gk_83 (by decide) (by decide) rfl ?_
        refine z_pushJ gp_249_29 ?_
        refine z_iret gi_249_30 gr_249 ?_
        refine ⟨?_, ?_⟩
        · first | rfl | exact congrArg (fun v => some (zi v)) (by omega) | (exfalso; omega)
        · exfalso
          omega
      · refine z_aload0 gi_249_12 ?_
        refine z_iload2 gi_249_13 ?_
        refine z_cV1 gi_249_14 gk_50 go_230 (Nat.le_of_ble_eq_true rfl) gc_230_RI ?_
        refine z_iload1 gi_230_0 ?_
        refine z_pushJ gp_230_1 ?_
        refine z_aload0 gi_230_2 ?_
        refine z_getI (v := J 50 54) gi_230_3 gk_50 (rfl) ?_
        refine z_pushJ gp_230_6 ?_
        refine z_isub (e := (J 50 54) - 1) gi_230_7 rfl ?_
        refine z_cS3 gi_230_8 (Nat.le_of_ble_eq_true rfl) gc_148_III ?_
        refine z_iload0 gi_148_0 ?_
        refine z_iload1 gi_148_1 ?_
        refine z_icmp_lt gi_148_2 (by omega) zr_0 (fun h5 => ?_) (fun h5 => ?_)
        · refine z_pushJ gp_148_14 ?_
          refine z_bret0 gi_148_15 gr_148 ?_
          show zW _ _ _ _ _ _ _ _ _ _
          refine z_bret0 gi_230_11 gr_230 ?_
          show zW _ _ _ _ _ _ _ _ _ _
          refine z_if_neF gi_249_17 zr_0 (by decide) ?_
          refine z_pushJ gp_249_20 ?_
          refine z_iret gi_249_21 gr_249 ?_
          refine ⟨?_, ?_⟩
          · first | rfl | exact congrArg (fun v => some (zi v)) (by omega) | (exfalso; omega)
          · exact hr
        · refine z_iload0 gi_148_5 ?_
          refine z_iload2 gi_148_6 ?_
          refine z_icmp_gt gi_148_7 (by omega) (by omega) (fun h6 => ?_) (fun h6 => ?_)
          · refine z_pushJ gp_148_14 ?_
            refine z_bret0 gi_148_15 gr_148 ?_
            show zW _ _ _ _ _ _ _ _ _ _
            refine z_bret0 gi_230_11 gr_230 ?_
            show zW _ _ _ _ _ _ _ _ _ _
            refine z_if_neF gi_249_17 zr_0 (by decide) ?_
            refine z_pushJ gp_249_20 ?_
            refine z_iret gi_249_21 gr_249 ?_
            refine ⟨?_, ?_⟩
            · first | rfl | exact congrArg (fun v => some (zi v)) (by omega) | (exfalso; omega)
            · exact hr
          · refine z_pushJ gp_148_10 ?_
            refine z_goto gi_148_11 ?_
            refine z_bret1 gi_148_15 gr_148 ?_
            show zW _ _ _ _ _ _ _ _ _ _
            refine z_bret1 gi_230_11 gr_230 ?_
            show zW _ _ _ _ _ _ _ _ _ _
            refine z_if_neT gi_249_17 zr_1 (by decide) ?_
            refine z_aload0 gi_249_22 ?_
            refine z_getR (r := 83) gi_249_23 gk_50 (hRr _ rm_50_58 (by decide)) ?_
            refine z_iload1 gi_249_26 ?_
            refine z_iload2 gi_249_27 ?_
            refine z_iast (e := b) gi_249_28 gk_83 (by decide) (by decide) rfl ?_
            refine z_pushJ gp_249_29 ?_
            refine z_iret gi_249_30 gr_249 ?_
            refine ⟨?_, ?_⟩
            · first | rfl | exact congrArg (fun v => some (zi v)) (by omega) | (exfalso; omega)
            · exfalso
              omega
    · refine z_iload1 gi_3_4 ?_
      refine z_aload0 gi_3_5 ?_
      refine z_getI (v := J 34 1) gi_3_6 gk_34 (rfl) ?_
      refine z_icmp_ge gi_3_9 (by omega) (by omega) (fun h4 => ?_) (fun h4 => ?_)
      · refine z_pushJ gp_3_16 ?_
        refine z_bret0 gi_3_17 gr_3 ?_
        show zW _ _ _ _ _ _ _ _ _ _
        refine z_if_neF gi_136_20 zr_0 (by decide) ?_
        refine z_pushJ gp_136_23 ?_
        refine z_iret gi_136_24 gr_136 ?_
        refine ⟨_, rfl, ?_⟩
        show zW _ _ _ _ [some (.ref 50), some (zi 1), some (zi b)] _ _ _ _ _
        refine z_iload1 gi_249_0 ?_
        refine z_cS1 gi_249_1 (Nat.le_of_ble_eq_true rfl) gc_248_I ?_
        refine z_iload0 gi_248_0 ?_
        refine z_pushJ gp_248_1 ?_
        refine z_pushJ gp_248_2 ?_
        refine z_cS3 gi_248_3 (Nat.le_of_ble_eq_true rfl) gc_148_III ?_
        refine z_iload0 gi_148_0 ?_
        refine z_iload1 gi_148_1 ?_
        refine z_icmp_ltF gi_148_2 zr_1 zr_0 (by decide) ?_
        refine z_iload0 gi_148_5 ?_
        refine z_iload2 gi_148_6 ?_
        refine z_icmp_gtF gi_148_7 zr_1 zr_5 (by decide) ?_
        refine z_pushJ gp_148_10 ?_
        refine z_goto gi_148_11 ?_
        refine z_bret1 gi_148_15 gr_148 ?_
        show zW _ _ _ _ _ _ _ _ _ _
        refine z_bret1 gi_248_6 gr_248 ?_
        show zW _ _ _ _ _ _ _ _ _ _
        refine z_if_eqF gi_249_4 zr_1 (by decide) ?_
        refine z_iload2 gi_249_7 ?_
        refine z_pushJ gp_249_8 ?_
        refine z_icmp_eq gi_249_9 (by omega) zrn_1 (fun h5 => ?_) (fun h5 => ?_)
        · refine z_aload0 gi_249_22 ?_
          refine z_getR (r := 83) gi_249_23 gk_50 (hRr _ rm_50_58 (by decide)) ?_
          refine z_iload1 gi_249_26 ?_
          refine z_iload2 gi_249_27 ?_
          refine z_iast (e := b) gi_249_28 gk_83 (by decide) (by decide) rfl ?_
          refine z_pushJ gp_249_29 ?_
          refine z_iret gi_249_30 gr_249 ?_
          refine ⟨?_, ?_⟩
          · first | rfl | exact congrArg (fun v => some (zi v)) (by omega) | (exfalso; omega)
          · exfalso
            omega
        · refine z_aload0 gi_249_12 ?_
          refine z_iload2 gi_249_13 ?_
          refine z_cV1 gi_249_14 gk_50 go_230 (Nat.le_of_ble_eq_true rfl) gc_230_RI ?_
          refine z_iload1 gi_230_0 ?_
          refine z_pushJ gp_230_1 ?_
          refine z_aload0 gi_230_2 ?_
          refine z_getI (v := J 50 54) gi_230_3 gk_50 (rfl) ?_
          refine z_pushJ gp_230_6 ?_
          refine z_isub (e := (J 50 54) - 1) gi_230_7 rfl ?_
          refine z_cS3 gi_230_8 (Nat.le_of_ble_eq_true rfl) gc_148_III ?_
          refine z_iload0 gi_148_0 ?_
          refine z_iload1 gi_148_1 ?_
          refine z_icmp_lt gi_148_2 (by omega) zr_0 (fun h6 => ?_) (fun h6 => ?_)
          · refine z_pushJ gp_148_14 ?_
            refine z_bret0 gi_148_15 gr_148 ?_
            show zW _ _ _ _ _ _ _ _ _ _
            refine z_bret0 gi_230_11 gr_230 ?_
            show zW _ _ _ _ _ _ _ _ _ _
            refine z_if_neF gi_249_17 zr_0 (by decide) ?_
            refine z_pushJ gp_249_20 ?_
            refine z_iret gi_249_21 gr_249 ?_
            refine ⟨?_, ?_⟩
            · first | rfl | exact congrArg (fun v => some (zi v)) (by omega) | (exfalso; omega)
            · exact hr
          · refine z_iload0 gi_148_5 ?_
            refine z_iload2 gi_148_6 ?_
            refine z_icmp_gt gi_148_7 (by omega) (by omega) (fun h7 => ?_) (fun h7 => ?_)
            · refine z_pushJ gp_148_14 ?_
              refine z_bret0 gi_148_15 gr_148 ?_
              show zW _ _ _ _ _ _ _ _ _ _
              refine z_bret0 gi_230_11 gr_230 ?_
              show zW _ _ _ _ _ _ _ _ _ _
              refine z_if_neF gi_249_17 zr_0 (by decide) ?_
              refine z_pushJ gp_249_20 ?_
              refine z_iret gi_249_21 gr_249 ?_
              refine ⟨?_, ?_⟩
              · first | rfl | exact congrArg (fun v => some (zi v)) (by omega) | (exfalso; omega)
              · exact hr
            · refine z_pushJ gp_148_10 ?_
              refine z_goto gi_148_11 ?_
              refine z_bret1 gi_148_15 gr_148 ?_
              show zW _ _ _ _ _ _ _ _ _ _
              refine z_bret1 gi_230_11 gr_230 ?_
              show zW _ _ _ _ _ _ _ _ _ _
              refine z_if_neT gi_249_17 zr_1 (by decide) ?_
              refine z_aload0 gi_249_22 ?_
              refine z_getR (r := 83) gi_249_23 gk_50 (hRr _ rm_50_58 (by decide)) ?_
              refine z_iload1 gi_249_26 ?_
              refine z_iload2 gi_249_27 ?_
              refine z_iast (e := b) gi_249_28 gk_83 (by decide) (by decide) rfl ?_
              refine z_pushJ gp_249_29 ?_
              refine z_iret gi_249_30 gr_249 ?_
              refine ⟨?_, ?_⟩
              · first | rfl | exact congrArg (fun v => some (zi v)) (by omega) | (exfalso; omega)
              · exfalso
                omega
      · refine z_pushJ gp_3_12 ?_
        refine z_goto gi_3_13 ?_
        refine z_bret1 gi_3_17 gr_3 ?_
        show zW _ _ _ _ _ _ _ _ _ _
        refine z_if_neT gi_136_20 zr_1 (by decide) ?_
        refine z_iload2 gi_136_25 ?_
        refine z_pushJ gp_136_26 ?_
        refine z_icmp_ne gi_136_27 (by omega) zrn_1 (fun h5 => ?_) (fun h5 => ?_)
        · refine z_aload0 gi_136_42 ?_
          refine z_getR (r := 37) gi_136_43 gk_0 (hR _ rm_0_11) ?_
          refine z_iload1 gi_136_46 ?_
          refine z_aald (r := 40) gi_136_47 rfl (by decide) (by decide) (hR _ rm_37_1) ?_
          refine z_iload2 gi_136_48 ?_
          refine z_cV1 gi_136_49 gk_40 go_67 (Nat.le_of_ble_eq_true rfl) gc_67_RI ?_
          refine z_aload0 gi_67_0 ?_
          refine z_pushJ gp_67_1 ?_
          refine z_putI (y := 0) gi_67_2 rfl gk_40 ?_
          refine z_aload0 gi_67_5 ?_
          refine z_iload1 gi_67_6 ?_
          refine z_putI (y := 1) gi_67_7 rfl gk_40 ?_
          refine z_aload0 gi_67_10 ?_
          refine z_pushJ gp_67_11 ?_
          refine z_putI (y := 3) gi_67_12 rfl gk_40 ?_
          refine z_vret gi_67_15 gr_67 ?_
          show zW _ _ _ _ _ _ _ _ _ _
          refine z_pushJ gp_136_52 ?_
          refine z_iret gi_136_53 gr_136 ?_
          refine ⟨_, rfl, ?_⟩
          show zW _ _ _ _ [some (.ref 50), some (zi 1), some (zi b)] _ _ _ _ _
          refine z_iload1 gi_249_0 ?_
          refine z_cS1 gi_249_1 (Nat.le_of_ble_eq_true rfl) gc_248_I ?_
          refine z_iload0 gi_248_0 ?_
          refine z_pushJ gp_248_1 ?_
          refine z_pushJ gp_248_2 ?_
          refine z_cS3 gi_248_3 (Nat.le_of_ble_eq_true rfl) gc_148_III ?_
          refine z_iload0 gi_148_0 ?_
          refine z_iload1 gi_148_1 ?_
          refine z_icmp_ltF gi_148_2 zr_1 zr_0 (by decide) ?_
          refine z_iload0 gi_148_5 ?_
          refine z_iload2 gi_148_6 ?_
          refine z_icmp_gtF gi_148_7 zr_1 zr_5 (by decide) ?_
          refine z_pushJ gp_148_10 ?_
          refine z_goto gi_148_11 ?_
          refine z_bret1 gi_148_15 gr_148 ?_
          show zW _ _ _ _ _ _ _ _ _ _
          refine z_bret1 gi_248_6 gr_248 ?_
          show zW _ _ _ _ _ _ _ _ _ _
          refine z_if_eqF gi_249_4 zr_1 (by decide) ?_
          refine z_iload2 gi_249_7 ?_
          refine z_pushJ gp_249_8 ?_
          refine z_icmp_eq gi_249_9 (by omega) zrn_1 (fun h6 => ?_) (fun h6 => ?_)
          · refine z_aload0 gi_249_22 ?_
            refine z_getR (r := 83) gi_249_23 gk_50 (hRr _ rm_50_58 (by decide)) ?_
            refine z_iload1 gi_249_26 ?_
            refine z_iload2 gi_249_27 ?_
            refine z_iast (e := b) gi_249_28 gk_83 (by decide) (by decide) rfl ?_
            refine z_pushJ gp_249_29 ?_
            refine z_iret gi_249_30 gr_249 ?_
            refine ⟨?_, ?_⟩
            · first | rfl | exact congrArg (fun v => some (zi v)) (by omega) | (exfalso; omega)
            · have hk := (zK_x (a := 83) (x := 1) (v := b) (zK_x (a := 40) (x := 3) (v := 0) (zK_x (a := 40) (x := 1) (v := b) (zK_x (a := 40) (x := 0) (v := 1) (zK_r (k := (kL [] [(40, 0), (40, 1), (40, 3), (83, 1)])) (A := J)) rfl) rfl) rfl) rfl)
              exact ⟨hR, hG, RelY_k hk (by repeat' constructor) (fun p => by repeat' constructor) hY, RelD_k hk (by repeat' constructor) (fun p => by repeat' constructor) hD, RelP_k hk (by repeat' constructor) (fun p => by repeat' constructor) hP, RelC_k hk (by repeat' constructor) (fun p => by repeat' constructor) hC, RelA_k hk (by repeat' constructor) (fun p => by repeat' constructor) hAc, (RelS_one (J := J) (M := M) (c := 1) (fun t t1 t2 te => by have q : t = 0 ∨ t = 1 ∨ t = 2 ∨ t = 3 ∨ t = 4 ∨ t = 5 := (by omega); rcases q with rfl | rfl | rfl | rfl | rfl | rfl <;> first | exact absurd rfl te | exact ⟨fun j => rfl, rfl, rfl⟩) (fun t t1 t2 te => ⟨fun j => rfl, fun j j1 j2 => rfl⟩) rfl (show RelS1 _ _ _ from ⟨rfl, (show (0 : Int) ≤ 1 ∧ (1 : Int) ≤ 2 from by decide), (hS 1 (by decide) (by decide)).2.2.1, (show (0 : Int) ≤ 0 ∧ (0 : Int) ≤ 60 from by decide), fun _ => (show 0 ≤ b ∧ b < J 34 1 from by omega), fun h => absurd (show (1 : Int) = 2 from h) (by decide)⟩) hS), RelT_k hk (by repeat' constructor) (fun p => by repeat' constructor) hTp, RelX_k hk (by repeat' constructor) (fun p => by repeat' constructor) hX, RelW_k hk ⟨rfl, rfl⟩ trivial hW⟩
          · refine z_aload0 gi_249_12 ?_
            refine z_iload2 gi_249_13 ?_
            refine z_cV1 gi_249_14 gk_50 go_230 (Nat.le_of_ble_eq_true rfl) gc_230_RI ?_
            refine z_iload1 gi_230_0 ?_
            refine z_pushJ gp_230_1 ?_
            refine z_aload0 gi_230_2 ?_
            refine z_getI (v := J 50 54) gi_230_3 gk_50 ((zU_n (by decide)).trans ((zU_n (by decide)).trans ((zU_n (by decide)).trans (rfl)))) ?_
            refine z_pushJ gp_230_6 ?_
            refine z_isub (e := (J 50 54) - 1) gi_230_7 rfl ?_
            refine z_cS3 gi_230_8 (Nat.le_of_ble_eq_true rfl) gc_148_III ?_
            refine z_iload0 gi_148_0 ?_
            refine z_iload1 gi_148_1 ?_
            refine z_icmp_lt gi_148_2 (by omega) zr_0 (fun h7 => ?_) (fun h7 => ?_)
            · refine z_pushJ gp_148_14 ?_
              refine z_bret0 gi_148_15 gr_148 ?_
              show zW _ _ _ _ _ _ _ _ _ _
              refine z_bret0 gi_230_11 gr_230 ?_
              show zW _ _ _ _ _ _ _ _ _ _
              refine z_if_neF gi_249_17 zr_0 (by decide) ?_
              refine z_pushJ gp_249_20 ?_
              refine z_iret gi_249_21 gr_249 ?_
              refine ⟨?_, ?_⟩
              · first | rfl | exact congrArg (fun v => some (zi v)) (by omega) | (exfalso; omega)
              · exfalso
                omega
            · refine z_iload0 gi_148_5 ?_
              refine z_iload2 gi_148_6 ?_
              refine z_icmp_gt gi_148_7 (by omega) (by omega) (fun h8 => ?_) (fun h8 => ?_)
              · refine z_pushJ gp_148_14 ?_
                refine z_bret0 gi_148_15 gr_148 ?_
                show zW _ _ _ _ _ _ _ _ _ _
                refine z_bret0 gi_230_11 gr_230 ?_
                show zW _ _ _ _ _ _ _ _ _ _
                refine z_if_neF gi_249_17 zr_0 (by decide) ?_
                refine z_pushJ gp_249_20 ?_
                refine z_iret gi_249_21 gr_249 ?_
                refine ⟨?_, ?_⟩
                · first | rfl | exact congrArg (fun v => some (zi v)) (by omega) | (exfalso; omega)
                · exfalso
                  omega
              · refine z_pushJ gp_148_10 ?_
                refine z_goto gi_148_11 ?_
                refine z_bret1 gi_148_15 gr_148 ?_
                show zW _ _ _ _ _ _ _ _ _ _
                refine z_bret1 gi_230_11 gr_230 ?_
                show zW _ _ _ _ _ _ _ _ _ _
                refine z_if_neT gi_249_17 zr_1 (by decide) ?_
                refine z_aload0 gi_249_22 ?_
                refine z_getR (r := 83) gi_249_23 gk_50 (hRr _ rm_50_58 (by decide)) ?_
                refine z_iload1 gi_249_26 ?_
                refine z_iload2 gi_249_27 ?_
                refine z_iast (e := b) gi_249_28 gk_83 (by decide) (by decide) rfl ?_
                refine z_pushJ gp_249_29 ?_
                refine z_iret gi_249_30 gr_249 ?_
                refine ⟨?_, ?_⟩
                · first | rfl | exact congrArg (fun v => some (zi v)) (by omega) | (exfalso; omega)
                · have hk := (zK_x (a := 83) (x := 1) (v := b) (zK_x (a := 40) (x := 3) (v := 0) (zK_x (a := 40) (x := 1) (v := b) (zK_x (a := 40) (x := 0) (v := 1) (zK_r (k := (kL [] [(40, 0), (40, 1), (40, 3), (83, 1)])) (A := J)) rfl) rfl) rfl) rfl)
                  exact ⟨hR, hG, RelY_k hk (by repeat' constructor) (fun p => by repeat' constructor) hY, RelD_k hk (by repeat' constructor) (fun p => by repeat' constructor) hD, RelP_k hk (by repeat' constructor) (fun p => by repeat' constructor) hP, RelC_k hk (by repeat' constructor) (fun p => by repeat' constructor) hC, RelA_k hk (by repeat' constructor) (fun p => by repeat' constructor) hAc, (RelS_one (J := J) (M := M) (c := 1) (fun t t1 t2 te => by have q : t = 0 ∨ t = 1 ∨ t = 2 ∨ t = 3 ∨ t = 4 ∨ t = 5 := (by omega); rcases q with rfl | rfl | rfl | rfl | rfl | rfl <;> first | exact absurd rfl te | exact ⟨fun j => rfl, rfl, rfl⟩) (fun t t1 t2 te => ⟨fun j => rfl, fun j j1 j2 => rfl⟩) rfl (show RelS1 _ _ _ from ⟨rfl, (show (0 : Int) ≤ 1 ∧ (1 : Int) ≤ 2 from by decide), (hS 1 (by decide) (by decide)).2.2.1, (show (0 : Int) ≤ 0 ∧ (0 : Int) ≤ 60 from by decide), fun _ => (show 0 ≤ b ∧ b < J 34 1 from by omega), fun h => absurd (show (1 : Int) = 2 from h) (by decide)⟩) hS), RelT_k hk (by repeat' constructor) (fun p => by repeat' constructor) hTp, RelX_k hk (by repeat' constructor) (fun p => by repeat' constructor) hX, RelW_k hk ⟨rfl, rfl⟩ trivial hW⟩
        · refine z_aload0 gi_136_30 ?_
          refine z_getR (r := 37) gi_136_31 gk_0 (hR _ rm_0_11) ?_
          refine z_iload1 gi_136_34 ?_
          refine z_aald (r := 40) gi_136_35 rfl (by decide) (by decide) (hR _ rm_37_1) ?_
          refine z_cV0 gi_136_36 gk_40 go_66 (Nat.le_of_ble_eq_true rfl) gc_66_R ?_
          refine z_aload0 gi_66_0 ?_
          refine z_pushJ gp_66_1 ?_
          refine z_putI (y := 0) gi_66_2 rfl gk_40 ?_
          refine z_aload0 gi_66_5 ?_
          refine z_pushJ gp_66_6 ?_
          refine z_putI (y := 3) gi_66_7 rfl gk_40 ?_
          refine z_vret gi_66_10 gr_66 ?_
          show zW _ _ _ _ _ _ _ _ _ _
          refine z_goto gi_136_39 ?_
          refine z_pushJ gp_136_52 ?_
          refine z_iret gi_136_53 gr_136 ?_
          refine ⟨_, rfl, ?_⟩
          show zW _ _ _ _ [some (.ref 50), some (zi 1), some (zi b)] _ _ _ _ _
          refine z_iload1 gi_249_0 ?_
          refine z_cS1 gi_249_1 (Nat.le_of_ble_eq_true rfl) gc_248_I ?_
          refine z_iload0 gi_248_0 ?_
          refine z_pushJ gp_248_1 ?_
          refine z_pushJ gp_248_2 ?_
          refine z_cS3 gi_248_3 (Nat.le_of_ble_eq_true rfl) gc_148_III ?_
          refine z_iload0 gi_148_0 ?_
          refine z_iload1 gi_148_1 ?_
          refine z_icmp_ltF gi_148_2 zr_1 zr_0 (by decide) ?_
          refine z_iload0 gi_148_5 ?_
          refine z_iload2 gi_148_6 ?_
          refine z_icmp_gtF gi_148_7 zr_1 zr_5 (by decide) ?_
          refine z_pushJ gp_148_10 ?_
          refine z_goto gi_148_11 ?_
          refine z_bret1 gi_148_15 gr_148 ?_
          show zW _ _ _ _ _ _ _ _ _ _
          refine z_bret1 gi_248_6 gr_248 ?_
          show zW _ _ _ _ _ _ _ _ _ _
          refine z_if_eqF gi_249_4 zr_1 (by decide) ?_
          refine z_iload2 gi_249_7 ?_
          refine z_pushJ gp_249_8 ?_
          refine z_icmp_eq gi_249_9 (by omega) zrn_1 (fun h6 => ?_) (fun h6 => ?_)
          · refine z_aload0 gi_249_22 ?_
            refine z_getR (r := 83) gi_249_23 gk_50 (hRr _ rm_50_58 (by decide)) ?_
            refine z_iload1 gi_249_26 ?_
            refine z_iload2 gi_249_27 ?_
            refine z_iast (e := b) gi_249_28 gk_83 (by decide) (by decide) rfl ?_
            refine z_pushJ gp_249_29 ?_
            refine z_iret gi_249_30 gr_249 ?_
            refine ⟨?_, ?_⟩
            · first | rfl | exact congrArg (fun v => some (zi v)) (by omega) | (exfalso; omega)
            · have hk := (zK_x (a := 83) (x := 1) (v := b) (zK_x (a := 40) (x := 3) (v := 0) (zK_x (a := 40) (x := 0) (v := 0) (zK_r (k := (kL [] [(40, 0), (40, 3), (83, 1)])) (A := J)) rfl) rfl) rfl)
              exact ⟨hR, hG, RelY_k hk (by repeat' constructor) (fun p => by repeat' constructor) hY, RelD_k hk (by repeat' constructor) (fun p => by repeat' constructor) hD, RelP_k hk (by repeat' constructor) (fun p => by repeat' constructor) hP, RelC_k hk (by repeat' constructor) (fun p => by repeat' constructor) hC, RelA_k hk (by repeat' constructor) (fun p => by repeat' constructor) hAc, (RelS_one (J := J) (M := M) (c := 1) (fun t t1 t2 te => by have q : t = 0 ∨ t = 1 ∨ t = 2 ∨ t = 3 ∨ t = 4 ∨ t = 5 := (by omega); rcases q with rfl | rfl | rfl | rfl | rfl | rfl <;> first | exact absurd rfl te | exact ⟨fun j => rfl, rfl, rfl⟩) (fun t t1 t2 te => ⟨fun j => rfl, fun j j1 j2 => rfl⟩) rfl (show RelS1 _ _ _ from ⟨(show (-1 : Int) = b from by omega), (show (0 : Int) ≤ 0 ∧ (0 : Int) ≤ 2 from by decide), (hS 1 (by decide) (by decide)).2.2.1, (show (0 : Int) ≤ 0 ∧ (0 : Int) ≤ 60 from by decide), fun h => absurd (show (0 : Int) = 1 from h) (by decide), fun h => absurd (show (0 : Int) = 2 from h) (by decide)⟩) hS), RelT_k hk (by repeat' constructor) (fun p => by repeat' constructor) hTp, RelX_k hk (by repeat' constructor) (fun p => by repeat' constructor) hX, RelW_k hk ⟨rfl, rfl⟩ trivial hW⟩
          · refine z_aload0 gi_249_12 ?_
            refine z_iload2 gi_249_13 ?_
            refine z_cV1 gi_249_14 gk_50 go_230 (Nat.le_of_ble_eq_true rfl) gc_230_RI ?_
            refine z_iload1 gi_230_0 ?_
            refine z_pushJ gp_230_1 ?_
            refine z_aload0 gi_230_2 ?_
            refine z_getI (v := J 50 54) gi_230_3 gk_50 ((zU_n (by decide)).trans ((zU_n (by decide)).trans (rfl))) ?_
            refine z_pushJ gp_230_6 ?_
            refine z_isub (e := (J 50 54) - 1) gi_230_7 rfl ?_
            refine z_cS3 gi_230_8 (Nat.le_of_ble_eq_true rfl) gc_148_III ?_
            refine z_iload0 gi_148_0 ?_
            refine z_iload1 gi_148_1 ?_
            refine z_icmp_lt gi_148_2 (by omega) zr_0 (fun h7 => ?_) (fun h7 => ?_)
            · refine z_pushJ gp_148_14 ?_
              refine z_bret0 gi_148_15 gr_148 ?_
              show zW _ _ _ _ _ _ _ _ _ _
              refine z_bret0 gi_230_11 gr_230 ?_
              show zW _ _ _ _ _ _ _ _ _ _
              refine z_if_neF gi_249_17 zr_0 (by decide) ?_
              refine z_pushJ gp_249_20 ?_
              refine z_iret gi_249_21 gr_249 ?_
              refine ⟨?_, ?_⟩
              · first | rfl | exact congrArg (fun v => some (zi v)) (by omega) | (exfalso; omega)
              · exfalso
                omega
            · refine z_iload0 gi_148_5 ?_
              refine z_iload2 gi_148_6 ?_
              refine z_icmp_gt gi_148_7 (by omega) (by omega) (fun h8 => ?_) (fun h8 => ?_)
              · refine z_pushJ gp_148_14 ?_
                refine z_bret0 gi_148_15 gr_148 ?_
                show zW _ _ _ _ _ _ _ _ _ _
                refine z_bret0 gi_230_11 gr_230 ?_
                show zW _ _ _ _ _ _ _ _ _ _
                refine z_if_neF gi_249_17 zr_0 (by decide) ?_
                refine z_pushJ gp_249_20 ?_
                refine z_iret gi_249_21 gr_249 ?_
                refine ⟨?_, ?_⟩
                · first | rfl | exact congrArg (fun v => some (zi v)) (by omega) | (exfalso; omega)
                · exfalso
                  omega
              · refine z_pushJ gp_148_10 ?_
                refine z_goto gi_148_11 ?_
                refine z_bret1 gi_148_15 gr_148 ?_
                show zW _ _ _ _ _ _ _ _ _ _
                refine z_bret1 gi_230_11 gr_230 ?_
                show zW _ _ _ _ _ _ _ _ _ _
                refine z_if_neT gi_249_17 zr_1 (by decide) ?_
                refine z_aload0 gi_249_22 ?_
                refine z_getR (r := 83) gi_249_23 gk_50 (hRr _ rm_50_58 (by decide)) ?_
                refine z_iload1 gi_249_26 ?_
                refine z_iload2 gi_249_27 ?_
                refine z_iast (e := b) gi_249_28 gk_83 (by decide) (by decide) rfl ?_
                refine z_pushJ gp_249_29 ?_
                refine z_iret gi_249_30 gr_249 ?_
                refine ⟨?_, ?_⟩
                · first | rfl | exact congrArg (fun v => some (zi v)) (by omega) | (exfalso; omega)
                · have hk := (zK_x (a := 83) (x := 1) (v := b) (zK_x (a := 40) (x := 3) (v := 0) (zK_x (a := 40) (x := 0) (v := 0) (zK_r (k := (kL [] [(40, 0), (40, 3), (83, 1)])) (A := J)) rfl) rfl) rfl)
                  exact ⟨hR, hG, RelY_k hk (by repeat' constructor) (fun p => by repeat' constructor) hY, RelD_k hk (by repeat' constructor) (fun p => by repeat' constructor) hD, RelP_k hk (by repeat' constructor) (fun p => by repeat' constructor) hP, RelC_k hk (by repeat' constructor) (fun p => by repeat' constructor) hC, RelA_k hk (by repeat' constructor) (fun p => by repeat' constructor) hAc, (RelS_one (J := J) (M := M) (c := 1) (fun t t1 t2 te => by have q : t = 0 ∨ t = 1 ∨ t = 2 ∨ t = 3 ∨ t = 4 ∨ t = 5 := (by omega); rcases q with rfl | rfl | rfl | rfl | rfl | rfl <;> first | exact absurd rfl te | exact ⟨fun j => rfl, rfl, rfl⟩) (fun t t1 t2 te => ⟨fun j => rfl, fun j j1 j2 => rfl⟩) rfl (show RelS1 _ _ _ from ⟨(show (-1 : Int) = b from by omega), (show (0 : Int) ≤ 0 ∧ (0 : Int) ≤ 2 from by decide), (hS 1 (by decide) (by decide)).2.2.1, (show (0 : Int) ≤ 0 ∧ (0 : Int) ≤ 60 from by decide), fun h => absurd (show (0 : Int) = 1 from h) (by decide), fun h => absurd (show (0 : Int) = 2 from h) (by decide)⟩) hS), RelT_k hk (by repeat' constructor) (fun p => by repeat' constructor) hTp, RelX_k hk (by repeat' constructor) (fun p => by repeat' constructor) hX, RelW_k hk ⟨rfl, rfl⟩ trivial hW⟩
theorem st_keep_2 {X : Nat × (Nat → Int32)} {d : Nat} {J M : zA} {R : zR} {b : Int} (hr : Rel X J M R) (hb : -2147483648 ≤ b ∧ b < 2147483648)  : zW X (d + 20) 136 0 (gEn 136 [(.ref 0), (zi 2), (zi b)]) [] J M R (stP X (d + 20) 249 [(zi 2), (zi b)]) := by
  have hr0 := hr
  obtain ⟨hR, hG, hY, hD, hP, hC, hAc, hS, hTp, hX, hW⟩ := hr0
  have hRr : zRoR R := zRoR_of hR
  have hA0 := hAc
  obtain ⟨a1, a2, a3, a4, a5, a6⟩ := hA0
  show zW _ _ _ _ [some (.ref 0), some (zi 2), some (zi b)] _ _ _ _ _
  refine z_iload1 gi_136_0 ?_
  refine z_cS1 gi_136_1 (Nat.le_of_ble_eq_true rfl) gc_143_I ?_
  refine z_iload0 gi_143_0 ?_
  refine z_if_ltF gi_143_1 zr_2 (by decide) ?_
  refine z_iload0 gi_143_4 ?_
  refine z_pushJ gp_143_5 ?_
  refine z_icmp_geF gi_143_7 zr_2 zr_6 (by decide) ?_
  refine z_pushJ gp_143_10 ?_
  refine z_goto gi_143_11 ?_
  refine z_bret1 gi_143_15 gr_143 ?_
  show zW _ _ _ _ _ _ _ _ _ _
  refine z_if_eqF gi_136_4 zr_1 (by decide) ?_
  refine z_iload2 gi_136_7 ?_
  refine z_pushJ gp_136_8 ?_
  refine z_icmp_eq gi_136_9 (by omega) zrn_1 (fun h1 => ?_) (fun h1 => ?_)
  · refine z_iload2 gi_136_25 ?_
    refine z_pushJ gp_136_26 ?_
    refine z_icmp_ne gi_136_27 (by omega) zrn_1 (fun h2 => ?_) (fun h2 => ?_)
    · refine z_aload0 gi_136_42 ?_
      refine z_getR (r := 37) gi_136_43 gk_0 (hR _ rm_0_11) ?_
      refine z_iload1 gi_136_46 ?_
      refine z_aald (r := 42) gi_136_47 rfl (by decide) (by decide) (hR _ rm_37_2) ?_
      refine z_iload2 gi_136_48 ?_
      refine z_cV1 gi_136_49 gk_42 go_67 (Nat.le_of_ble_eq_true rfl) gc_67_RI ?_
      refine z_aload0 gi_67_0 ?_
      refine z_pushJ gp_67_1 ?_
      refine z_putI (y := 0) gi_67_2 rfl gk_42 ?_
      refine z_aload0 gi_67_5 ?_
      refine z_iload1 gi_67_6 ?_
      refine z_putI (y := 1) gi_67_7 rfl gk_42 ?_
      refine z_aload0 gi_67_10 ?_
      refine z_pushJ gp_67_11 ?_
      refine z_putI (y := 3) gi_67_12 rfl gk_42 ?_
      refine z_vret gi_67_15 gr_67 ?_
      show zW _ _ _ _ _ _ _ _ _ _
      refine z_pushJ gp_136_52 ?_
      refine z_iret gi_136_53 gr_136 ?_
      refine ⟨_, rfl, ?_⟩
      show zW _ _ _ _ [some (.ref 50), some (zi 2), some (zi b)] _ _ _ _ _
      refine z_iload1 gi_249_0 ?_
      refine z_cS1 gi_249_1 (Nat.le_of_ble_eq_true rfl) gc_248_I ?_
      refine z_iload0 gi_248_0 ?_
      refine z_pushJ gp_248_1 ?_
      refine z_pushJ gp_248_2 ?_
      refine z_cS3 gi_248_3 (Nat.le_of_ble_eq_true rfl) gc_148_III ?_
      refine z_iload0 gi_148_0 ?_
      refine z_iload1 gi_148_1 ?_
      refine z_icmp_ltF gi_148_2 zr_2 zr_0 (by decide) ?_
      refine z_iload0 gi_148_5 ?_
      refine z_iload2 gi_148_6 ?_
      refine z_icmp_gtF gi_148_7 zr_2 zr_5 (by decide) ?_
      refine z_pushJ gp_148_10 ?_
      refine z_goto gi_148_11 ?_
      refine z_bret1 gi_148_15 gr_148 ?_
      show zW _ _ _ _ _ _ _ _ _ _
      refine z_bret1 gi_248_6 gr_248 ?_
      show zW _ _ _ _ _ _ _ _ _ _
      refine z_if_eqF gi_249_4 zr_1 (by decide) ?_
      refine z_iload2 gi_249_7 ?_
      refine z_pushJ gp_249_8 ?_
      refine z_icmp_eq gi_249_9 (by omega) zrn_1 (fun h3 => ?_) (fun h3 => ?_)
      · refine z_aload0 gi_249_22 ?_
        refine z_getR (r := 83) gi_249_23 gk_50 (hRr _ rm_50_58 (by decide)) ?_
        refine z_iload1 gi_249_26 ?_
        refine z_iload2 gi_249_27 ?_
        refine z_iast (e := b) gi_249_28 gk_83 (by decide) (by decide) rfl ?_
        refine z_pushJ gp_249_29 ?_
        refine z_iret gi_249_30 gr_249 ?_
        refine ⟨?_, ?_⟩
        · first | rfl | exact congrArg (fun v => some (zi v)) (by omega) | (exfalso; omega)
        · have hk := (zK_x (a := 83) (x := 2) (v := b) (zK_x (a := 42) (x := 3) (v := 0) (zK_x (a := 42) (x := 1) (v := b) (zK_x (a := 42) (x := 0) (v := 1) (zK_r (k := (kL [] [(42, 0), (42, 1), (42, 3), (83, 2)])) (A := J)) rfl) rfl) rfl) rfl)
          exact ⟨hR, hG, RelY_k hk (by repeat' constructor) (fun p => by repeat' constructor) hY, RelD_k hk (by repeat' constructor) (fun p => by repeat' constructor) hD, RelP_k hk (by repeat' constructor) (fun p => by repeat' constructor) hP, RelC_k hk (by repeat' constructor) (fun p => by repeat' constructor) hC, RelA_k hk (by repeat' constructor) (fun p => by repeat' constructor) hAc, (RelS_one (J := J) (M := M) (c := 2) (fun t t1 t2 te => by have q : t = 0 ∨ t = 1 ∨ t = 2 ∨ t = 3 ∨ t = 4 ∨ t = 5 := (by omega); rcases q with rfl | rfl | rfl | rfl | rfl | rfl <;> first | exact absurd rfl te | exact ⟨fun j => rfl, rfl, rfl⟩) (fun t t1 t2 te => ⟨fun j => rfl, fun j j1 j2 => rfl⟩) rfl (show RelS1 _ _ _ from ⟨rfl, (show (0 : Int) ≤ 1 ∧ (1 : Int) ≤ 2 from by decide), (hS 2 (by decide) (by decide)).2.2.1, (show (0 : Int) ≤ 0 ∧ (0 : Int) ≤ 60 from by decide), fun _ => (show 0 ≤ b ∧ b < J 34 1 from by omega), fun h => absurd (show (1 : Int) = 2 from h) (by decide)⟩) hS), RelT_k hk (by repeat' constructor) (fun p => by repeat' constructor) hTp, RelX_k hk (by repeat' constructor) (fun p => by repeat' constructor) hX, RelW_k hk ⟨rfl, rfl⟩ trivial hW⟩
      · refine z_aload0 gi_249_12 ?_
        refine z_iload2 gi_249_13 ?_
        refine z_cV1 gi_249_14 gk_50 go_230 (Nat.le_of_ble_eq_true rfl) gc_230_RI ?_
        refine z_iload1 gi_230_0 ?_
        refine z_pushJ gp_230_1 ?_
        refine z_aload0 gi_230_2 ?_
        refine z_getI (v := J 50 54) gi_230_3 gk_50 ((zU_n (by decide)).trans ((zU_n (by decide)).trans ((zU_n (by decide)).trans (rfl)))) ?_
        refine z_pushJ gp_230_6 ?_
        refine z_isub (e := (J 50 54) - 1) gi_230_7 rfl ?_
        refine z_cS3 gi_230_8 (Nat.le_of_ble_eq_true rfl) gc_148_III ?_
        refine z_iload0 gi_148_0 ?_
        refine z_iload1 gi_148_1 ?_
        refine z_icmp_lt gi_148_2 (by omega) zr_0 (fun h4 => ?_) (fun h4 => ?_)
        · refine z_pushJ gp_148_14 ?_
          refine z_bret0 gi_148_15 gr_148 ?_
          show zW _ _ _ _ _ _ _ _ _ _
          refine z_bret0 gi_230_11 gr_230 ?_
          show zW _ _ _ _ _ _ _ _ _ _
          refine z_if_neF gi_249_17 zr_0 (by decide) ?_
          refine z_pushJ gp_249_20 ?_
          refine z_iret gi_249_21 gr_249 ?_
          refine ⟨?_, ?_⟩
          · first | rfl | exact congrArg (fun v => some (zi v)) (by omega) | (exfalso; omega)
          · exfalso
            omega
        · refine z_iload0 gi_148_5 ?_
          refine z_iload2 gi_148_6 ?_
          refine z_icmp_gt gi_148_7 (by omega) (by omega) (fun h5 => ?_) (fun h5 => ?_)
          · refine z_pushJ gp_148_14 ?_
            refine z_bret0 gi_148_15 gr_148 ?_
            show zW _ _ _ _ _ _ _ _ _ _
            refine z_bret0 gi_230_11 gr_230 ?_
            show zW _ _ _ _ _ _ _ _ _ _
            refine z_if_neF gi_249_17 zr_0 (by decide) ?_
            refine z_pushJ gp_249_20 ?_
            refine z_iret gi_249_21 gr_249 ?_
            refine ⟨?_, ?_⟩
            · first | rfl | exact congrArg (fun v => some (zi v)) (by omega) | (exfalso; omega)
            · exfalso
              omega
          · refine z_pushJ gp_148_10 ?_
            refine z_goto gi_148_11 ?_
            refine z_bret1 gi_148_15 gr_148 ?_
            show zW _ _ _ _ _ _ _ _ _ _
            refine z_bret1 gi_230_11 gr_230 ?_
            show zW _ _ _ _ _ _ _ _ _ _
            refine z_if_neT gi_249_17 zr_1 (by decide) ?_
            refine z_aload0 gi_249_22 ?_
            refine z_getR (r := 83) gi_249_23 gk_50 (hRr _ rm_50_58 (by decide)) ?_
            refine z_iload1 gi_249_26 ?_
            refine z_iload2 gi_249_27 ?_
            refine z_iast (e := b) gi_249_28 gk_83 (by decide) (by decide) rfl ?_
            refine z_pushJ gp_249_29 ?_
            refine z_iret gi_249_30 gr_249 ?_
            refine ⟨?_, ?_⟩
            · first | rfl | exact congrArg (fun v => some (zi v)) (by omega) | (exfalso; omega)
            · have hk := (zK_x (a := 83) (x := 2) (v := b) (zK_x (a := 42) (x := 3) (v := 0) (zK_x (a := 42) (x := 1) (v := b) (zK_x (a := 42) (x := 0) (v := 1) (zK_r (k := (kL [] [(42, 0), (42, 1), (42, 3), (83, 2)])) (A := J)) rfl) rfl) rfl) rfl)
              exact ⟨hR, hG, RelY_k hk (by repeat' constructor) (fun p => by repeat' constructor) hY, RelD_k hk (by repeat' constructor) (fun p => by repeat' constructor) hD, RelP_k hk (by repeat' constructor) (fun p => by repeat' constructor) hP, RelC_k hk (by repeat' constructor) (fun p => by repeat' constructor) hC, RelA_k hk (by repeat' constructor) (fun p => by repeat' constructor) hAc, (RelS_one (J := J) (M := M) (c := 2) (fun t t1 t2 te => by have q : t = 0 ∨ t = 1 ∨ t = 2 ∨ t = 3 ∨ t = 4 ∨ t = 5 := (by omega); rcases q with rfl | rfl | rfl | rfl | rfl | rfl <;> first | exact absurd rfl te | exact ⟨fun j => rfl, rfl, rfl⟩) (fun t t1 t2 te => ⟨fun j => rfl, fun j j1 j2 => rfl⟩) rfl (show RelS1 _ _ _ from ⟨rfl, (show (0 : Int) ≤ 1 ∧ (1 : Int) ≤ 2 from by decide), (hS 2 (by decide) (by decide)).2.2.1, (show (0 : Int) ≤ 0 ∧ (0 : Int) ≤ 60 from by decide), fun _ => (show 0 ≤ b ∧ b < J 34 1 from by omega), fun h => absurd (show (1 : Int) = 2 from h) (by decide)⟩) hS), RelT_k hk (by repeat' constructor) (fun p => by repeat' constructor) hTp, RelX_k hk (by repeat' constructor) (fun p => by repeat' constructor) hX, RelW_k hk ⟨rfl, rfl⟩ trivial hW⟩
    · refine z_aload0 gi_136_30 ?_
      refine z_getR (r := 37) gi_136_31 gk_0 (hR _ rm_0_11) ?_
      refine z_iload1 gi_136_34 ?_
      refine z_aald (r := 42) gi_136_35 rfl (by decide) (by decide) (hR _ rm_37_2) ?_
      refine z_cV0 gi_136_36 gk_42 go_66 (Nat.le_of_ble_eq_true rfl) gc_66_R ?_
      refine z_aload0 gi_66_0 ?_
      refine z_pushJ gp_66_1 ?_
      refine z_putI (y := 0) gi_66_2 rfl gk_42 ?_
      refine z_aload0 gi_66_5 ?_
      refine z_pushJ gp_66_6 ?_
      refine z_putI (y := 3) gi_66_7 rfl gk_42 ?_
      refine z_vret gi_66_10 gr_66 ?_
      show zW _ _ _ _ _ _ _ _ _ _
      refine z_goto gi_136_39 ?_
      refine z_pushJ gp_136_52 ?_
      refine z_iret gi_136_53 gr_136 ?_
      refine ⟨_, rfl, ?_⟩
      show zW _ _ _ _ [some (.ref 50), some (zi 2), some (zi b)] _ _ _ _ _
      refine z_iload1 gi_249_0 ?_
      refine z_cS1 gi_249_1 (Nat.le_of_ble_eq_true rfl) gc_248_I ?_
      refine z_iload0 gi_248_0 ?_
      refine z_pushJ gp_248_1 ?_
      refine z_pushJ gp_248_2 ?_
      refine z_cS3 gi_248_3 (Nat.le_of_ble_eq_true rfl) gc_148_III ?_
      refine z_iload0 gi_148_0 ?_
      refine z_iload1 gi_148_1 ?_
      refine z_icmp_ltF gi_148_2 zr_2 zr_0 (by decide) ?_
      refine z_iload0 gi_148_5 ?_
      refine z_iload2 gi_148_6 ?_
      refine z_icmp_gtF gi_148_7 zr_2 zr_5 (by decide) ?_
      refine z_pushJ gp_148_10 ?_
      refine z_goto gi_148_11 ?_
      refine z_bret1 gi_148_15 gr_148 ?_
      show zW _ _ _ _ _ _ _ _ _ _
      refine z_bret1 gi_248_6 gr_248 ?_
      show zW _ _ _ _ _ _ _ _ _ _
      refine z_if_eqF gi_249_4 zr_1 (by decide) ?_
      refine z_iload2 gi_249_7 ?_
      refine z_pushJ gp_249_8 ?_
      refine z_icmp_eq gi_249_9 (by omega) zrn_1 (fun h3 => ?_) (fun h3 => ?_)
      · refine z_aload0 gi_249_22 ?_
        refine z_getR (r := 83) gi_249_23 gk_50 (hRr _ rm_50_58 (by decide)) ?_
        refine z_iload1 gi_249_26 ?_
        refine z_iload2 gi_249_27 ?_
        refine z_iast (e := b) gi_249_28 gk_83 (by decide) (by decide) rfl ?_
        refine z_pushJ gp_249_29 ?_
        refine z_iret gi_249_30 gr_249 ?_
        refine ⟨?_, ?_⟩
        · first | rfl | exact congrArg (fun v => some (zi v)) (by omega) | (exfalso; omega)
        · have hk := (zK_x (a := 83) (x := 2) (v := b) (zK_x (a := 42) (x := 3) (v := 0) (zK_x (a := 42) (x := 0) (v := 0) (zK_r (k := (kL [] [(42, 0), (42, 3), (83, 2)])) (A := J)) rfl) rfl) rfl)
          exact ⟨hR, hG, RelY_k hk (by repeat' constructor) (fun p => by repeat' constructor) hY, RelD_k hk (by repeat' constructor) (fun p => by repeat' constructor) hD, RelP_k hk (by repeat' constructor) (fun p => by repeat' constructor) hP, RelC_k hk (by repeat' constructor) (fun p => by repeat' constructor) hC, RelA_k hk (by repeat' constructor) (fun p => by repeat' constructor) hAc, (RelS_one (J := J) (M := M) (c := 2) (fun t t1 t2 te => by have q : t = 0 ∨ t = 1 ∨ t = 2 ∨ t = 3 ∨ t = 4 ∨ t = 5 := (by omega); rcases q with rfl | rfl | rfl | rfl | rfl | rfl <;> first | exact absurd rfl te | exact ⟨fun j => rfl, rfl, rfl⟩) (fun t t1 t2 te => ⟨fun j => rfl, fun j j1 j2 => rfl⟩) rfl (show RelS1 _ _ _ from ⟨(show (-1 : Int) = b from by omega), (show (0 : Int) ≤ 0 ∧ (0 : Int) ≤ 2 from by decide), (hS 2 (by decide) (by decide)).2.2.1, (show (0 : Int) ≤ 0 ∧ (0 : Int) ≤ 60 from by decide), fun h => absurd (show (0 : Int) = 1 from h) (by decide), fun h => absurd (show (0 : Int) = 2 from h) (by decide)⟩) hS), RelT_k hk (by repeat' constructor) (fun p => by repeat' constructor) hTp, RelX_k hk (by repeat' constructor) (fun p => by repeat' constructor) hX, RelW_k hk ⟨rfl, rfl⟩ trivial hW⟩
      · refine z_aload0 gi_249_12 ?_
        refine z_iload2 gi_249_13 ?_
        refine z_cV1 gi_249_14 gk_50 go_230 (Nat.le_of_ble_eq_true rfl) gc_230_RI ?_
        refine z_iload1 gi_230_0 ?_
        refine z_pushJ gp_230_1 ?_
        refine z_aload0 gi_230_2 ?_
        refine z_getI (v := J 50 54) gi_230_3 gk_50 ((zU_n (by decide)).trans ((zU_n (by decide)).trans (rfl))) ?_
        refine z_pushJ gp_230_6 ?_
        refine z_isub (e := (J 50 54) - 1) gi_230_7 rfl ?_
        refine z_cS3 gi_230_8 (Nat.le_of_ble_eq_true rfl) gc_148_III ?_
        refine z_iload0 gi_148_0 ?_
        refine z_iload1 gi_148_1 ?_
        refine z_icmp_lt gi_148_2 (by omega) zr_0 (fun h4 => ?_) (fun h4 => ?_)
        · refine z_pushJ gp_148_14 ?_
          refine z_bret0 gi_148_15 gr_148 ?_
          show zW _ _ _ _ _ _ _ _ _ _
          refine z_bret0 gi_230_11 gr_230 ?_
          show zW _ _ _ _ _ _ _ _ _ _
          refine z_if_neF gi_249_17 zr_0 (by decide) ?_
          refine z_pushJ gp_249_20 ?_
          refine z_iret gi_249_21 gr_249 ?_
          refine ⟨?_, ?_⟩
          · first | rfl | exact congrArg (fun v => some (zi v)) (by omega) | (exfalso; omega)
          · exfalso
            omega
        · refine z_iload0 gi_148_5 ?_
          refine z_iload2 gi_148_6 ?_
          refine z_icmp_gt gi_148_7 (by omega) (by omega) (fun h5 => ?_) (fun h5 => ?_)
          · refine z_pushJ gp_148_14 ?_
            refine z_bret0 gi_148_15 gr_148 ?_
            show zW _ _ _ _ _ _ _ _ _ _
            refine z_bret0 gi_230_11 gr_230 ?_
            show zW _ _ _ _ _ _ _ _ _ _
            refine z_if_neF gi_249_17 zr_0 (by decide) ?_
            refine z_pushJ gp_249_20 ?_
            refine z_iret gi_249_21 gr_249 ?_
            refine ⟨?_, ?_⟩
            · first | rfl | exact congrArg (fun v => some (zi v)) (by omega) | (exfalso; omega)
            · exfalso
              omega
          · refine z_pushJ gp_148_10 ?_
            refine z_goto gi_148_11 ?_
            refine z_bret1 gi_148_15 gr_148 ?_
            show zW _ _ _ _ _ _ _ _ _ _
            refine z_bret1 gi_230_11 gr_230 ?_
            show zW _ _ _ _ _ _ _ _ _ _
            refine z_if_neT gi_249_17 zr_1 (by decide) ?_
            refine z_aload0 gi_249_22 ?_
            refine z_getR (r := 83) gi_249_23 gk_50 (hRr _ rm_50_58 (by decide)) ?_
            refine z_iload1 gi_249_26 ?_
            refine z_iload2 gi_249_27 ?_
            refine z_iast (e := b) gi_249_28 gk_83 (by decide) (by decide) rfl ?_
            refine z_pushJ gp_249_29 ?_
            refine z_iret gi_249_30 gr_249 ?_
            refine ⟨?_, ?_⟩
            · first | rfl | exact congrArg (fun v => some (zi v)) (by omega) | (exfalso; omega)
            · have hk := (zK_x (a := 83) (x := 2) (v := b) (zK_x (a := 42) (x := 3) (v := 0) (zK_x (a := 42) (x := 0) (v := 0) (zK_r (k := (kL [] [(42, 0), (42, 3), (83, 2)])) (A := J)) rfl) rfl) rfl)
              exact ⟨hR, hG, RelY_k hk (by repeat' constructor) (fun p => by repeat' constructor) hY, RelD_k hk (by repeat' constructor) (fun p => by repeat' constructor) hD, RelP_k hk (by repeat' constructor) (fun p => by repeat' constructor) hP, RelC_k hk (by repeat' constructor) (fun p => by repeat' constructor) hC, RelA_k hk (by repeat' constructor) (fun p => by repeat' constructor) hAc, (RelS_one (J := J) (M := M) (c := 2) (fun t t1 t2 te => by have q : t = 0 ∨ t = 1 ∨ t = 2 ∨ t = 3 ∨ t = 4 ∨ t = 5 := (by omega); rcases q with rfl | rfl | rfl | rfl | rfl | rfl <;> first | exact absurd rfl te | exact ⟨fun j => rfl, rfl, rfl⟩) (fun t t1 t2 te => ⟨fun j => rfl, fun j j1 j2 => rfl⟩) rfl (show RelS1 _ _ _ from ⟨(show (-1 : Int) = b from by omega), (show (0 : Int) ≤ 0 ∧ (0 : Int) ≤ 2 from by decide), (hS 2 (by decide) (by decide)).2.2.1, (show (0 : Int) ≤ 0 ∧ (0 : Int) ≤ 60 from by decide), fun h => absurd (show (0 : Int) = 1 from h) (by decide), fun h => absurd (show (0 : Int) = 2 from h) (by decide)⟩) hS), RelT_k hk (by repeat' constructor) (fun p => by repeat' constructor) hTp, RelX_k hk (by repeat' constructor) (fun p => by repeat' constructor) hX, RelW_k hk ⟨rfl, rfl⟩ trivial hW⟩
  · refine z_aload0 gi_136_12 ?_
    refine z_getR (r := 34) gi_136_13 gk_0 (hR _ rm_0_10) ?_
    refine z_iload2 gi_136_16 ?_
    refine z_cV1 gi_136_17 gk_34 go_3 (Nat.le_of_ble_eq_true rfl) gc_3_RI ?_
    refine z_iload1 gi_3_0 ?_
    refine z_if_lt gi_3_1 (by omega) (fun h3 => ?_) (fun h3 => ?_)
    · refine z_pushJ gp_3_16 ?_
      refine z_bret0 gi_3_17 gr_3 ?_
      show zW _ _ _ _ _ _ _ _ _ _
      refine z_if_neF gi_136_20 zr_0 (by decide) ?_
      refine z_pushJ gp_136_23 ?_
      refine z_iret gi_136_24 gr_136 ?_
      refine ⟨_, rfl, ?_⟩
      show zW _ _ _ _ [some (.ref 50), some (zi 2), some (zi b)] _ _ _ _ _
      refine z_iload1 gi_249_0 ?_
      refine z_cS1 gi_249_1 (Nat.le_of_ble_eq_true rfl) gc_248_I ?_
      refine z_iload0 gi_248_0 ?_
      refine z_pushJ gp_248_1 ?_
      refine z_pushJ gp_248_2 ?_
      refine z_cS3 gi_248_3 (Nat.le_of_ble_eq_true rfl) gc_148_III ?_
      refine z_iload0 gi_148_0 ?_
      refine z_iload1 gi_148_1 ?_
      refine z_icmp_ltF gi_148_2 zr_2 zr_0 (by decide) ?_
      refine z_iload0 gi_148_5 ?_
      refine z_iload2 gi_148_6 ?_
      refine z_icmp_gtF gi_148_7 zr_2 zr_5 (by decide) ?_
      refine z_pushJ gp_148_10 ?_
      refine z_goto gi_148_11 ?_
      refine z_bret1 gi_148_15 gr_148 ?_
      show zW _ _ _ _ _ _ _ _ _ _
      refine z_bret1 gi_248_6 gr_248 ?_
      show zW _ _ _ _ _ _ _ _ _ _
      refine z_if_eqF gi_249_4 zr_1 (by decide) ?_
      refine z_iload2 gi_249_7 ?_
      refine z_pushJ gp_249_8 ?_
      refine z_icmp_eq gi_249_9 (by omega) zrn_1 (fun h4 => ?_) (fun h4 => ?_)
      · refine z_aload0 gi_249_22 ?_
        refine z_getR (r := 83) gi_249_23 gk_50 (hRr _ rm_50_58 (by decide)) ?_
        refine z_iload1 gi_249_26 ?_
        refine z_iload2 gi_249_27 ?_
        refine z_iast (e := b) gi_249_28 gk_83 (by decide) (by decide) rfl ?_
        refine z_pushJ gp_249_29 ?_
        refine z_iret gi_249_30 gr_249 ?_
        refine ⟨?_, ?_⟩
        · first | rfl | exact congrArg (fun v => some (zi v)) (by omega) | (exfalso; omega)
        · exfalso
          omega
      · refine z_aload0 gi_249_12 ?_
        refine z_iload2 gi_249_13 ?_
        refine z_cV1 gi_249_14 gk_50 go_230 (Nat.le_of_ble_eq_true rfl) gc_230_RI ?_
        refine z_iload1 gi_230_0 ?_
        refine z_pushJ gp_230_1 ?_
        refine z_aload0 gi_230_2 ?_
        refine z_getI (v := J 50 54) gi_230_3 gk_50 (rfl) ?_
        refine z_pushJ gp_230_6 ?_
        refine z_isub (e := (J 50 54) - 1) gi_230_7 rfl ?_
        refine z_cS3 gi_230_8 (Nat.le_of_ble_eq_true rfl) gc_148_III ?_
        refine z_iload0 gi_148_0 ?_
        refine z_iload1 gi_148_1 ?_
        refine z_icmp_lt gi_148_2 (by omega) zr_0 (fun h5 => ?_) (fun h5 => ?_)
        · refine z_pushJ gp_148_14 ?_
          refine z_bret0 gi_148_15 gr_148 ?_
          show zW _ _ _ _ _ _ _ _ _ _
          refine z_bret0 gi_230_11 gr_230 ?_
          show zW _ _ _ _ _ _ _ _ _ _
          refine z_if_neF gi_249_17 zr_0 (by decide) ?_
          refine z_pushJ gp_249_20 ?_
          refine z_iret gi_249_21 gr_249 ?_
          refine ⟨?_, ?_⟩
          · first | rfl | exact congrArg (fun v => some (zi v)) (by omega) | (exfalso; omega)
          · exact hr
        · refine z_iload0 gi_148_5 ?_
          refine z_iload2 gi_148_6 ?_
          refine z_icmp_gt gi_148_7 (by omega) (by omega) (fun h6 => ?_) (fun h6 => ?_)
          · refine z_pushJ gp_148_14 ?_
            refine z_bret0 gi_148_15 gr_148 ?_
            show zW _ _ _ _ _ _ _ _ _ _
            refine z_bret0 gi_230_11 gr_230 ?_
            show zW _ _ _ _ _ _ _ _ _ _
            refine z_if_neF gi_249_17 zr_0 (by decide) ?_
            refine z_pushJ gp_249_20 ?_
            refine z_iret gi_249_21 gr_249 ?_
            refine ⟨?_, ?_⟩
            · first | rfl | exact congrArg (fun v => some (zi v)) (by omega) | (exfalso; omega)
            · exact hr
          · refine z_pushJ gp_148_10 ?_
            refine z_goto gi_148_11 ?_
            refine z_bret1 gi_148_15 gr_148 ?_
            show zW _ _ _ _ _ _ _ _ _ _
            refine z_bret1 gi_230_11 gr_230 ?_
            show zW _ _ _ _ _ _ _ _ _ _
            refine z_if_neT gi_249_17 zr_1 (by decide) ?_
            refine z_aload0 gi_249_22 ?_
            refine z_getR (r := 83) gi_249_23 gk_50 (hRr _ rm_50_58 (by decide)) ?_
            refine z_iload1 gi_249_26 ?_
            refine z_iload2 gi_249_27 ?_
            refine z_iast (e := b) gi_249_28 gk_83 (by decide) (by decide) rfl ?_
            refine z_pushJ gp_249_29 ?_
            refine z_iret gi_249_30 gr_249 ?_
            refine ⟨?_, ?_⟩
            · first | rfl | exact congrArg (fun v => some (zi v)) (by omega) | (exfalso; omega)
            · exfalso
              omega
    · refine z_iload1 gi_3_4 ?_
      refine z_aload0 gi_3_5 ?_
      refine z_getI (v := J 34 1) gi_3_6 gk_34 (rfl) ?_
      refine z_icmp_ge gi_3_9 (by omega) (by omega) (fun h4 => ?_) (fun h4 => ?_)
      · refine z_pushJ gp_3_16 ?_
        refine z_bret0 gi_3_17 gr_3 ?_
        show zW _ _ _ _ _ _ _ _ _ _
        refine z_if_neF gi_136_20 zr_0 (by decide) ?_
        refine z_pushJ gp_136_23 ?_
        refine z_iret gi_136_24 gr_136 ?_
        refine ⟨_, rfl, ?_⟩
        show zW _ _ _ _ [some (.ref 50), some (zi 2), some (zi b)] _ _ _ _ _
        refine z_iload1 gi_249_0 ?_
        refine z_cS1 gi_249_1 (Nat.le_of_ble_eq_true rfl) gc_248_I ?_
        refine z_iload0 gi_248_0 ?_
        refine z_pushJ gp_248_1 ?_
        refine z_pushJ gp_248_2 ?_
        refine z_cS3 gi_248_3 (Nat.le_of_ble_eq_true rfl) gc_148_III ?_
        refine z_iload0 gi_148_0 ?_
        refine z_iload1 gi_148_1 ?_
        refine z_icmp_ltF gi_148_2 zr_2 zr_0 (by decide) ?_
        refine z_iload0 gi_148_5 ?_
        refine z_iload2 gi_148_6 ?_
        refine z_icmp_gtF gi_148_7 zr_2 zr_5 (by decide) ?_
        refine z_pushJ gp_148_10 ?_
        refine z_goto gi_148_11 ?_
        refine z_bret1 gi_148_15 gr_148 ?_
        show zW _ _ _ _ _ _ _ _ _ _
        refine z_bret1 gi_248_6 gr_248 ?_
        show zW _ _ _ _ _ _ _ _ _ _
        refine z_if_eqF gi_249_4 zr_1 (by decide) ?_
        refine z_iload2 gi_249_7 ?_
        refine z_pushJ gp_249_8 ?_
        refine z_icmp_eq gi_249_9 (by omega) zrn_1 (fun h5 => ?_) (fun h5 => ?_)
        · refine z_aload0 gi_249_22 ?_
          refine z_getR (r := 83) gi_249_23 gk_50 (hRr _ rm_50_58 (by decide)) ?_
          refine z_iload1 gi_249_26 ?_
          refine z_iload2 gi_249_27 ?_
          refine z_iast (e := b) gi_249_28 gk_83 (by decide) (by decide) rfl ?_
          refine z_pushJ gp_249_29 ?_
          refine z_iret gi_249_30 gr_249 ?_
          refine ⟨?_, ?_⟩
          · first | rfl | exact congrArg (fun v => some (zi v)) (by omega) | (exfalso; omega)
          · exfalso
            omega
        · refine z_aload0 gi_249_12 ?_
          refine z_iload2 gi_249_13 ?_
          refine z_cV1 gi_249_14 gk_50 go_230 (Nat.le_of_ble_eq_true rfl) gc_230_RI ?_
          refine z_iload1 gi_230_0 ?_
          refine z_pushJ gp_230_1 ?_
          refine z_aload0 gi_230_2 ?_
          refine z_getI (v := J 50 54) gi_230_3 gk_50 (rfl) ?_
          refine z_pushJ gp_230_6 ?_
          refine z_isub (e := (J 50 54) - 1) gi_230_7 rfl ?_
          refine z_cS3 gi_230_8 (Nat.le_of_ble_eq_true rfl) gc_148_III ?_
          refine z_iload0 gi_148_0 ?_
          refine z_iload1 gi_148_1 ?_
          refine z_icmp_lt gi_148_2 (by omega) zr_0 (fun h6 => ?_) (fun h6 => ?_)
          · refine z_pushJ gp_148_14 ?_
            refine z_bret0 gi_148_15 gr_148 ?_
            show zW _ _ _ _ _ _ _ _ _ _
            refine z_bret0 gi_230_11 gr_230 ?_
            show zW _ _ _ _ _ _ _ _ _ _
            refine z_if_neF gi_249_17 zr_0 (by decide) ?_
            refine z_pushJ gp_249_20 ?_
            refine z_iret gi_249_21 gr_249 ?_
            refine ⟨?_, ?_⟩
            · first | rfl | exact congrArg (fun v => some (zi v)) (by omega) | (exfalso; omega)
            · exact hr
          · refine z_iload0 gi_148_5 ?_
            refine z_iload2 gi_148_6 ?_
            refine z_icmp_gt gi_148_7 (by omega) (by omega) (fun h7 => ?_) (fun h7 => ?_)
            · refine z_pushJ gp_148_14 ?_
              refine z_bret0 gi_148_15 gr_148 ?_
              show zW _ _ _ _ _ _ _ _ _ _
              refine z_bret0 gi_230_11 gr_230 ?_
              show zW _ _ _ _ _ _ _ _ _ _
              refine z_if_neF gi_249_17 zr_0 (by decide) ?_
              refine z_pushJ gp_249_20 ?_
              refine z_iret gi_249_21 gr_249 ?_
              refine ⟨?_, ?_⟩
              · first | rfl | exact congrArg (fun v => some (zi v)) (by omega) | (exfalso; omega)
              · exact hr
            · refine z_pushJ gp_148_10 ?_
              refine z_goto gi_148_11 ?_
              refine z_bret1 gi_148_15 gr_148 ?_
              show zW _ _ _ _ _ _ _ _ _ _
              refine z_bret1 gi_230_11 gr_230 ?_
              show zW _ _ _ _ _ _ _ _ _ _
              refine z_if_neT gi_249_17 zr_1 (by decide) ?_
              refine z_aload0 gi_249_22 ?_
              refine z_getR (r := 83) gi_249_23 gk_50 (hRr _ rm_50_58 (by decide)) ?_
              refine z_iload1 gi_249_26 ?_
              refine z_iload2 gi_249_27 ?_
              refine z_iast (e := b) gi_249_28 gk_83 (by decide) (by decide) rfl ?_
              refine z_pushJ gp_249_29 ?_
              refine z_iret gi_249_30 gr_249 ?_
              refine ⟨?_, ?_⟩
              · first | rfl | exact congrArg (fun v => some (zi v)) (by omega) | (exfalso; omega)
              · exfalso
                omega
      · refine z_pushJ gp_3_12 ?_
        refine z_goto gi_3_13 ?_
        refine z_bret1 gi_3_17 gr_3 ?_
        show zW _ _ _ _ _ _ _ _ _ _
        refine z_if_neT gi_136_20 zr_1 (by decide) ?_
        refine z_iload2 gi_136_25 ?_
        refine z_pushJ gp_136_26 ?_
        refine z_icmp_ne gi_136_27 (by omega) zrn_1 (fun h5 => ?_) (fun h5 => ?_)
        · refine z_aload0 gi_136_42 ?_
          refine z_getR (r := 37) gi_136_43 gk_0 (hR _ rm_0_11) ?_
          refine z_iload1 gi_136_46 ?_
          refine z_aald (r := 42) gi_136_47 rfl (by decide) (by decide) (hR _ rm_37_2) ?_
          refine z_iload2 gi_136_48 ?_
          refine z_cV1 gi_136_49 gk_42 go_67 (Nat.le_of_ble_eq_true rfl) gc_67_RI ?_
          refine z_aload0 gi_67_0 ?_
          refine z_pushJ gp_67_1 ?_
          refine z_putI (y := 0) gi_67_2 rfl gk_42 ?_
          refine z_aload0 gi_67_5 ?_
          refine z_iload1 gi_67_6 ?_
          refine z_putI (y := 1) gi_67_7 rfl gk_42 ?_
          refine z_aload0 gi_67_10 ?_
          refine z_pushJ gp_67_11 ?_
          refine z_putI (y := 3) gi_67_12 rfl gk_42 ?_
          refine z_vret gi_67_15 gr_67 ?_
          show zW _ _ _ _ _ _ _ _ _ _
          refine z_pushJ gp_136_52 ?_
          refine z_iret gi_136_53 gr_136 ?_
          refine ⟨_, rfl, ?_⟩
          show zW _ _ _ _ [some (.ref 50), some (zi 2), some (zi b)] _ _ _ _ _
          refine z_iload1 gi_249_0 ?_
          refine z_cS1 gi_249_1 (Nat.le_of_ble_eq_true rfl) gc_248_I ?_
          refine z_iload0 gi_248_0 ?_
          refine z_pushJ gp_248_1 ?_
          refine z_pushJ gp_248_2 ?_
          refine z_cS3 gi_248_3 (Nat.le_of_ble_eq_true rfl) gc_148_III ?_
          refine z_iload0 gi_148_0 ?_
          refine z_iload1 gi_148_1 ?_
          refine z_icmp_ltF gi_148_2 zr_2 zr_0 (by decide) ?_
          refine z_iload0 gi_148_5 ?_
          refine z_iload2 gi_148_6 ?_
          refine z_icmp_gtF gi_148_7 zr_2 zr_5 (by decide) ?_
          refine z_pushJ gp_148_10 ?_
          refine z_goto gi_148_11 ?_
          refine z_bret1 gi_148_15 gr_148 ?_
          show zW _ _ _ _ _ _ _ _ _ _
          refine z_bret1 gi_248_6 gr_248 ?_
          show zW _ _ _ _ _ _ _ _ _ _
          refine z_if_eqF gi_249_4 zr_1 (by decide) ?_
          refine z_iload2 gi_249_7 ?_
          refine z_pushJ gp_249_8 ?_
          refine z_icmp_eq gi_249_9 (by omega) zrn_1 (fun h6 => ?_) (fun h6 => ?_)
          · refine z_aload0 gi_249_22 ?_
            refine z_getR (r := 83) gi_249_23 gk_50 (hRr _ rm_50_58 (by decide)) ?_
            refine z_iload1 gi_249_26 ?_
            refine z_iload2 gi_249_27 ?_
            refine z_iast (e := b) gi_249_28 gk_83 (by decide) (by decide) rfl ?_
            refine z_pushJ gp_249_29 ?_
            refine z_iret gi_249_30 gr_249 ?_
            refine ⟨?_, ?_⟩
            · first | rfl | exact congrArg (fun v => some (zi v)) (by omega) | (exfalso; omega)
            · have hk := (zK_x (a := 83) (x := 2) (v := b) (zK_x (a := 42) (x := 3) (v := 0) (zK_x (a := 42) (x := 1) (v := b) (zK_x (a := 42) (x := 0) (v := 1) (zK_r (k := (kL [] [(42, 0), (42, 1), (42, 3), (83, 2)])) (A := J)) rfl) rfl) rfl) rfl)
              exact ⟨hR, hG, RelY_k hk (by repeat' constructor) (fun p => by repeat' constructor) hY, RelD_k hk (by repeat' constructor) (fun p => by repeat' constructor) hD, RelP_k hk (by repeat' constructor) (fun p => by repeat' constructor) hP, RelC_k hk (by repeat' constructor) (fun p => by repeat' constructor) hC, RelA_k hk (by repeat' constructor) (fun p => by repeat' constructor) hAc, (RelS_one (J := J) (M := M) (c := 2) (fun t t1 t2 te => by have q : t = 0 ∨ t = 1 ∨ t = 2 ∨ t = 3 ∨ t = 4 ∨ t = 5 := (by omega); rcases q with rfl | rfl | rfl | rfl | rfl | rfl <;> first | exact absurd rfl te | exact ⟨fun j => rfl, rfl, rfl⟩) (fun t t1 t2 te => ⟨fun j => rfl, fun j j1 j2 => rfl⟩) rfl (show RelS1 _ _ _ from ⟨rfl, (show (0 : Int) ≤ 1 ∧ (1 : Int) ≤ 2 from by decide), (hS 2 (by decide) (by decide)).2.2.1, (show (0 : Int) ≤ 0 ∧ (0 : Int) ≤ 60 from by decide), fun _ => (show 0 ≤ b ∧ b < J 34 1 from by omega), fun h => absurd (show (1 : Int) = 2 from h) (by decide)⟩) hS), RelT_k hk (by repeat' constructor) (fun p => by repeat' constructor) hTp, RelX_k hk (by repeat' constructor) (fun p => by repeat' constructor) hX, RelW_k hk ⟨rfl, rfl⟩ trivial hW⟩
          · refine z_aload0 gi_249_12 ?_
            refine z_iload2 gi_249_13 ?_
            refine z_cV1 gi_249_14 gk_50 go_230 (Nat.le_of_ble_eq_true rfl) gc_230_RI ?_
            refine z_iload1 gi_230_0 ?_
            refine z_pushJ gp_230_1 ?_
            refine z_aload0 gi_230_2 ?_
            refine z_getI (v := J 50 54) gi_230_3 gk_50 ((zU_n (by decide)).trans ((zU_n (by decide)).trans ((zU_n (by decide)).trans (rfl)))) ?_
            refine z_pushJ gp_230_6 ?_
            refine z_isub (e := (J 50 54) - 1) gi_230_7 rfl ?_
            refine z_cS3 gi_230_8 (Nat.le_of_ble_eq_true rfl) gc_148_III ?_
            refine z_iload0 gi_148_0 ?_
            refine z_iload1 gi_148_1 ?_
            refine z_icmp_lt gi_148_2 (by omega) zr_0 (fun h7 => ?_) (fun h7 => ?_)
            · refine z_pushJ gp_148_14 ?_
              refine z_bret0 gi_148_15 gr_148 ?_
              show zW _ _ _ _ _ _ _ _ _ _
              refine z_bret0 gi_230_11 gr_230 ?_
              show zW _ _ _ _ _ _ _ _ _ _
              refine z_if_neF gi_249_17 zr_0 (by decide) ?_
              refine z_pushJ gp_249_20 ?_
              refine z_iret gi_249_21 gr_249 ?_
              refine ⟨?_, ?_⟩
              · first | rfl | exact congrArg (fun v => some (zi v)) (by omega) | (exfalso; omega)
              · exfalso
                omega
            · refine z_iload0 gi_148_5 ?_
              refine z_iload2 gi_148_6 ?_
              refine z_icmp_gt gi_148_7 (by omega) (by omega) (fun h8 => ?_) (fun h8 => ?_)
              · refine z_pushJ gp_148_14 ?_
                refine z_bret0 gi_148_15 gr_148 ?_
                show zW _ _ _ _ _ _ _ _ _ _
                refine z_bret0 gi_230_11 gr_230 ?_
                show zW _ _ _ _ _ _ _ _ _ _
                refine z_if_neF gi_249_17 zr_0 (by decide) ?_
                refine z_pushJ gp_249_20 ?_
                refine z_iret gi_249_21 gr_249 ?_
                refine ⟨?_, ?_⟩
                · first | rfl | exact congrArg (fun v => some (zi v)) (by omega) | (exfalso; omega)
                · exfalso
                  omega
              · refine z_pushJ gp_148_10 ?_
                refine z_goto gi_148_11 ?_
                refine z_bret1 gi_148_15 gr_148 ?_
                show zW _ _ _ _ _ _ _ _ _ _
                refine z_bret1 gi_230_11 gr_230 ?_
                show zW _ _ _ _ _ _ _ _ _ _
                refine z_if_neT gi_249_17 zr_1 (by decide) ?_
                refine z_aload0 gi_249_22 ?_
                refine z_getR (r := 83) gi_249_23 gk_50 (hRr _ rm_50_58 (by decide)) ?_
                refine z_iload1 gi_249_26 ?_
                refine z_iload2 gi_249_27 ?_
                refine z_iast (e := b) gi_249_28 gk_83 (by decide) (by decide) rfl ?_
                refine z_pushJ gp_249_29 ?_
                refine z_iret gi_249_30 gr_249 ?_
                refine ⟨?_, ?_⟩
                · first | rfl | exact congrArg (fun v => some (zi v)) (by omega) | (exfalso; omega)
                · have hk := (zK_x (a := 83) (x := 2) (v := b) (zK_x (a := 42) (x := 3) (v := 0) (zK_x (a := 42) (x := 1) (v := b) (zK_x (a := 42) (x := 0) (v := 1) (zK_r (k := (kL [] [(42, 0), (42, 1), (42, 3), (83, 2)])) (A := J)) rfl) rfl) rfl) rfl)
                  exact ⟨hR, hG, RelY_k hk (by repeat' constructor) (fun p => by repeat' constructor) hY, RelD_k hk (by repeat' constructor) (fun p => by repeat' constructor) hD, RelP_k hk (by repeat' constructor) (fun p => by repeat' constructor) hP, RelC_k hk (by repeat' constructor) (fun p => by repeat' constructor) hC, RelA_k hk (by repeat' constructor) (fun p => by repeat' constructor) hAc, (RelS_one (J := J) (M := M) (c := 2) (fun t t1 t2 te => by have q : t = 0 ∨ t = 1 ∨ t = 2 ∨ t = 3 ∨ t = 4 ∨ t = 5 := (by omega); rcases q with rfl | rfl | rfl | rfl | rfl | rfl <;> first | exact absurd rfl te | exact ⟨fun j => rfl, rfl, rfl⟩) (fun t t1 t2 te => ⟨fun j => rfl, fun j j1 j2 => rfl⟩) rfl (show RelS1 _ _ _ from ⟨rfl, (show (0 : Int) ≤ 1 ∧ (1 : Int) ≤ 2 from by decide), (hS 2 (by decide) (by decide)).2.2.1, (show (0 : Int) ≤ 0 ∧ (0 : Int) ≤ 60 from by decide), fun _ => (show 0 ≤ b ∧ b < J 34 1 from by omega), fun h => absurd (show (1 : Int) = 2 from h) (by decide)⟩) hS), RelT_k hk (by repeat' constructor) (fun p => by repeat' constructor) hTp, RelX_k hk (by repeat' constructor) (fun p => by repeat' constructor) hX, RelW_k hk ⟨rfl, rfl⟩ trivial hW⟩
        · refine z_aload0 gi_136_30 ?_
          refine z_getR (r := 37) gi_136_31 gk_0 (hR _ rm_0_11) ?_
          refine z_iload1 gi_136_34 ?_
          refine z_aald (r := 42) gi_136_35 rfl (by decide) (by decide) (hR _ rm_37_2) ?_
          refine z_cV0 gi_136_36 gk_42 go_66 (Nat.le_of_ble_eq_true rfl) gc_66_R ?_
          refine z_aload0 gi_66_0 ?_
          refine z_pushJ gp_66_1 ?_
          refine z_putI (y := 0) gi_66_2 rfl gk_42 ?_
          refine z_aload0 gi_66_5 ?_
          refine z_pushJ gp_66_6 ?_
          refine z_putI (y := 3) gi_66_7 rfl gk_42 ?_
          refine z_vret gi_66_10 gr_66 ?_
          show zW _ _ _ _ _ _ _ _ _ _
          refine z_goto gi_136_39 ?_
          refine z_pushJ gp_136_52 ?_
          refine z_iret gi_136_53 gr_136 ?_
          refine ⟨_, rfl, ?_⟩
          show zW _ _ _ _ [some (.ref 50), some (zi 2), some (zi b)] _ _ _ _ _
          refine z_iload1 gi_249_0 ?_
          refine z_cS1 gi_249_1 (Nat.le_of_ble_eq_true rfl) gc_248_I ?_
          refine z_iload0 gi_248_0 ?_
          refine z_pushJ gp_248_1 ?_
          refine z_pushJ gp_248_2 ?_
          refine z_cS3 gi_248_3 (Nat.le_of_ble_eq_true rfl) gc_148_III ?_
          refine z_iload0 gi_148_0 ?_
          refine z_iload1 gi_148_1 ?_
          refine z_icmp_ltF gi_148_2 zr_2 zr_0 (by decide) ?_
          refine z_iload0 gi_148_5 ?_
          refine z_iload2 gi_148_6 ?_
          refine z_icmp_gtF gi_148_7 zr_2 zr_5 (by decide) ?_
          refine z_pushJ gp_148_10 ?_
          refine z_goto gi_148_11 ?_
          refine z_bret1 gi_148_15 gr_148 ?_
          show zW _ _ _ _ _ _ _ _ _ _
          refine z_bret1 gi_248_6 gr_248 ?_
          show zW _ _ _ _ _ _ _ _ _ _
          refine z_if_eqF gi_249_4 zr_1 (by decide) ?_
          refine z_iload2 gi_249_7 ?_
          refine z_pushJ gp_249_8 ?_
          refine z_icmp_eq gi_249_9 (by omega) zrn_1 (fun h6 => ?_) (fun h6 => ?_)
          · refine z_aload0 gi_249_22 ?_
            refine z_getR (r := 83) gi_249_23 gk_50 (hRr _ rm_50_58 (by decide)) ?_
            refine z_iload1 gi_249_26 ?_
            refine z_iload2 gi_249_27 ?_
            refine z_iast (e := b) gi_249_28 gk_83 (by decide) (by decide) rfl ?_
            refine z_pushJ gp_249_29 ?_
            refine z_iret gi_249_30 gr_249 ?_
            refine ⟨?_, ?_⟩
            · first | rfl | exact congrArg (fun v => some (zi v)) (by omega) | (exfalso; omega)
            · have hk := (zK_x (a := 83) (x := 2) (v := b) (zK_x (a := 42) (x := 3) (v := 0) (zK_x (a := 42) (x := 0) (v := 0) (zK_r (k := (kL [] [(42, 0), (42, 3), (83, 2)])) (A := J)) rfl) rfl) rfl)
              exact ⟨hR, hG, RelY_k hk (by repeat' constructor) (fun p => by repeat' constructor) hY, RelD_k hk (by repeat' constructor) (fun p => by repeat' constructor) hD, RelP_k hk (by repeat' constructor) (fun p => by repeat' constructor) hP, RelC_k hk (by repeat' constructor) (fun p => by repeat' constructor) hC, RelA_k hk (by repeat' constructor) (fun p => by repeat' constructor) hAc, (RelS_one (J := J) (M := M) (c := 2) (fun t t1 t2 te => by have q : t = 0 ∨ t = 1 ∨ t = 2 ∨ t = 3 ∨ t = 4 ∨ t = 5 := (by omega); rcases q with rfl | rfl | rfl | rfl | rfl | rfl <;> first | exact absurd rfl te | exact ⟨fun j => rfl, rfl, rfl⟩) (fun t t1 t2 te => ⟨fun j => rfl, fun j j1 j2 => rfl⟩) rfl (show RelS1 _ _ _ from ⟨(show (-1 : Int) = b from by omega), (show (0 : Int) ≤ 0 ∧ (0 : Int) ≤ 2 from by decide), (hS 2 (by decide) (by decide)).2.2.1, (show (0 : Int) ≤ 0 ∧ (0 : Int) ≤ 60 from by decide), fun h => absurd (show (0 : Int) = 1 from h) (by decide), fun h => absurd (show (0 : Int) = 2 from h) (by decide)⟩) hS), RelT_k hk (by repeat' constructor) (fun p => by repeat' constructor) hTp, RelX_k hk (by repeat' constructor) (fun p => by repeat' constructor) hX, RelW_k hk ⟨rfl, rfl⟩ trivial hW⟩
          · refine z_aload0 gi_249_12 ?_
            refine z_iload2 gi_249_13 ?_
            refine z_cV1 gi_249_14 gk_50 go_230 (Nat.le_of_ble_eq_true rfl) gc_230_RI ?_
            refine z_iload1 gi_230_0 ?_
            refine z_pushJ gp_230_1 ?_
            refine z_aload0 gi_230_2 ?_
            refine z_getI (v := J 50 54) gi_230_3 gk_50 ((zU_n (by decide)).trans ((zU_n (by decide)).trans (rfl))) ?_
            refine z_pushJ gp_230_6 ?_
            refine z_isub (e := (J 50 54) - 1) gi_230_7 rfl ?_
            refine z_cS3 gi_230_8 (Nat.le_of_ble_eq_true rfl) gc_148_III ?_
            refine z_iload0 gi_148_0 ?_
            refine z_iload1 gi_148_1 ?_
            refine z_icmp_lt gi_148_2 (by omega) zr_0 (fun h7 => ?_) (fun h7 => ?_)
            · refine z_pushJ gp_148_14 ?_
              refine z_bret0 gi_148_15 gr_148 ?_
              show zW _ _ _ _ _ _ _ _ _ _
              refine z_bret0 gi_230_11 gr_230 ?_
              show zW _ _ _ _ _ _ _ _ _ _
              refine z_if_neF gi_249_17 zr_0 (by decide) ?_
              refine z_pushJ gp_249_20 ?_
              refine z_iret gi_249_21 gr_249 ?_
              refine ⟨?_, ?_⟩
              · first | rfl | exact congrArg (fun v => some (zi v)) (by omega) | (exfalso; omega)
              · exfalso
                omega
            · refine z_iload0 gi_148_5 ?_
              refine z_iload2 gi_148_6 ?_
              refine z_icmp_gt gi_148_7 (by omega) (by omega) (fun h8 => ?_) (fun h8 => ?_)
              · refine z_pushJ gp_148_14 ?_
                refine z_bret0 gi_148_15 gr_148 ?_
                show zW _ _ _ _ _ _ _ _ _ _
                refine z_bret0 gi_230_11 gr_230 ?_
                show zW _ _ _ _ _ _ _ _ _ _
                refine z_if_neF gi_249_17 zr_0 (by decide) ?_
                refine z_pushJ gp_249_20 ?_
                refine z_iret gi_249_21 gr_249 ?_
                refine ⟨?_, ?_⟩
                · first | rfl | exact congrArg (fun v => some (zi v)) (by omega) | (exfalso; omega)
                · exfalso
                  omega
              · refine z_pushJ gp_148_10 ?_
                refine z_goto gi_148_11 ?_
                refine z_bret1 gi_148_15 gr_148 ?_
                show zW _ _ _ _ _ _ _ _ _ _
                refine z_bret1 gi_230_11 gr_230 ?_
                show zW _ _ _ _ _ _ _ _ _ _
                refine z_if_neT gi_249_17 zr_1 (by decide) ?_
                refine z_aload0 gi_249_22 ?_
                refine z_getR (r := 83) gi_249_23 gk_50 (hRr _ rm_50_58 (by decide)) ?_
                refine z_iload1 gi_249_26 ?_
                refine z_iload2 gi_249_27 ?_
                refine z_iast (e := b) gi_249_28 gk_83 (by decide) (by decide) rfl ?_
                refine z_pushJ gp_249_29 ?_
                refine z_iret gi_249_30 gr_249 ?_
                refine ⟨?_, ?_⟩
                · first | rfl | exact congrArg (fun v => some (zi v)) (by omega) | (exfalso; omega)
                · have hk := (zK_x (a := 83) (x := 2) (v := b) (zK_x (a := 42) (x := 3) (v := 0) (zK_x (a := 42) (x := 0) (v := 0) (zK_r (k := (kL [] [(42, 0), (42, 3), (83, 2)])) (A := J)) rfl) rfl) rfl)
                  exact ⟨hR, hG, RelY_k hk (by repeat' constructor) (fun p => by repeat' constructor) hY, RelD_k hk (by repeat' constructor) (fun p => by repeat' constructor) hD, RelP_k hk (by repeat' constructor) (fun p => by repeat' constructor) hP, RelC_k hk (by repeat' constructor) (fun p => by repeat' constructor) hC, RelA_k hk (by repeat' constructor) (fun p => by repeat' constructor) hAc, (RelS_one (J := J) (M := M) (c := 2) (fun t t1 t2 te => by have q : t = 0 ∨ t = 1 ∨ t = 2 ∨ t = 3 ∨ t = 4 ∨ t = 5 := (by omega); rcases q with rfl | rfl | rfl | rfl | rfl | rfl <;> first | exact absurd rfl te | exact ⟨fun j => rfl, rfl, rfl⟩) (fun t t1 t2 te => ⟨fun j => rfl, fun j j1 j2 => rfl⟩) rfl (show RelS1 _ _ _ from ⟨(show (-1 : Int) = b from by omega), (show (0 : Int) ≤ 0 ∧ (0 : Int) ≤ 2 from by decide), (hS 2 (by decide) (by decide)).2.2.1, (show (0 : Int) ≤ 0 ∧ (0 : Int) ≤ 60 from by decide), fun h => absurd (show (0 : Int) = 1 from h) (by decide), fun h => absurd (show (0 : Int) = 2 from h) (by decide)⟩) hS), RelT_k hk (by repeat' constructor) (fun p => by repeat' constructor) hTp, RelX_k hk (by repeat' constructor) (fun p => by repeat' constructor) hX, RelW_k hk ⟨rfl, rfl⟩ trivial hW⟩
theorem st_keep_3 {X : Nat × (Nat → Int32)} {d : Nat} {J M : zA} {R : zR} {b : Int} (hr : Rel X J M R) (hb : -2147483648 ≤ b ∧ b < 2147483648)  : zW X (d + 20) 136 0 (gEn 136 [(.ref 0), (zi 3), (zi b)]) [] J M R (stP X (d + 20) 249 [(zi 3), (zi b)]) := by
  have hr0 := hr
  obtain ⟨hR, hG, hY, hD, hP, hC, hAc, hS, hTp, hX, hW⟩ := hr0
  have hRr : zRoR R := zRoR_of hR
  have hA0 := hAc
  obtain ⟨a1, a2, a3, a4, a5, a6⟩ := hA0
  show zW _ _ _ _ [some (.ref 0), some (zi 3), some (zi b)] _ _ _ _ _
  refine z_iload1 gi_136_0 ?_
  refine z_cS1 gi_136_1 (Nat.le_of_ble_eq_true rfl) gc_143_I ?_
  refine z_iload0 gi_143_0 ?_
  refine z_if_ltF gi_143_1 zr_3 (by decide) ?_
  refine z_iload0 gi_143_4 ?_
  refine z_pushJ gp_143_5 ?_
  refine z_icmp_geF gi_143_7 zr_3 zr_6 (by decide) ?_
  refine z_pushJ gp_143_10 ?_
  refine z_goto gi_143_11 ?_
  refine z_bret1 gi_143_15 gr_143 ?_
  show zW _ _ _ _ _ _ _ _ _ _
  refine z_if_eqF gi_136_4 zr_1 (by decide) ?_
  refine z_iload2 gi_136_7 ?_
  refine z_pushJ gp_136_8 ?_
  refine z_icmp_eq gi_136_9 (by omega) zrn_1 (fun h1 => ?_) (fun h1 => ?_)
  · refine z_iload2 gi_136_25 ?_
    refine z_pushJ gp_136_26 ?_
    refine z_icmp_ne gi_136_27 (by omega) zrn_1 (fun h2 => ?_) (fun h2 => ?_)
    · refine z_aload0 gi_136_42 ?_
      refine z_getR (r := 37) gi_136_43 gk_0 (hR _ rm_0_11) ?_
      refine z_iload1 gi_136_46 ?_
      refine z_aald (r := 44) gi_136_47 rfl (by decide) (by decide) (hR _ rm_37_3) ?_
      refine z_iload2 gi_136_48 ?_
      refine z_cV1 gi_136_49 gk_44 go_67 (Nat.le_of_ble_eq_true rfl) gc_67_RI ?_
      refine z_aload0 gi_67_0 ?_
      refine z_pushJ gp_67_1 ?_
      refine z_putI (y := 0) gi_67_2 rfl gk_44 ?_
      refine z_aload0 gi_67_5 ?_
      refine z_iload1 gi_67_6 ?_
      refine z_putI (y := 1) gi_67_7 rfl gk_44 ?_
      refine z_aload0 gi_67_10 ?_
      refine z_pushJ gp_67_11 ?_
      refine z_putI (y := 3) gi_67_12 rfl gk_44 ?_
      refine z_vret gi_67_15 gr_67 ?_
      show zW _ _ _ _ _ _ _ _ _ _
      refine z_pushJ gp_136_52 ?_
      refine z_iret gi_136_53 gr_136 ?_
      refine ⟨_, rfl, ?_⟩
      show zW _ _ _ _ [some (.ref 50), some (zi 3), some (zi b)] _ _ _ _ _
      refine z_iload1 gi_249_0 ?_
      refine z_cS1 gi_249_1 (Nat.le_of_ble_eq_true rfl) gc_248_I ?_
      refine z_iload0 gi_248_0 ?_
      refine z_pushJ gp_248_1 ?_
      refine z_pushJ gp_248_2 ?_
      refine z_cS3 gi_248_3 (Nat.le_of_ble_eq_true rfl) gc_148_III ?_
      refine z_iload0 gi_148_0 ?_
      refine z_iload1 gi_148_1 ?_
      refine z_icmp_ltF gi_148_2 zr_3 zr_0 (by decide) ?_
      refine z_iload0 gi_148_5 ?_
      refine z_iload2 gi_148_6 ?_
      refine z_icmp_gtF gi_148_7 zr_3 zr_5 (by decide) ?_
      refine z_pushJ gp_148_10 ?_
      refine z_goto gi_148_11 ?_
      refine z_bret1 gi_148_15 gr_148 ?_
      show zW _ _ _ _ _ _ _ _ _ _
      refine z_bret1 gi_248_6 gr_248 ?_
      show zW _ _ _ _ _ _ _ _ _ _
      refine z_if_eqF gi_249_4 zr_1 (by decide) ?_
      refine z_iload2 gi_249_7 ?_
      refine z_pushJ gp_249_8 ?_
      refine z_icmp_eq gi_249_9 (by omega) zrn_1 (fun h3 => ?_) (fun h3 => ?_)
      · refine z_aload0 gi_249_22 ?_
        refine z_getR (r := 83) gi_249_23 gk_50 (hRr _ rm_50_58 (by decide)) ?_
        refine z_iload1 gi_249_26 ?_
        refine z_iload2 gi_249_27 ?_
        refine z_iast (e := b) gi_249_28 gk_83 (by decide) (by decide) rfl ?_
        refine z_pushJ gp_249_29 ?_
        refine z_iret gi_249_30 gr_249 ?_
        refine ⟨?_, ?_⟩
        · first | rfl | exact congrArg (fun v => some (zi v)) (by omega) | (exfalso; omega)
        · have hk := (zK_x (a := 83) (x := 3) (v := b) (zK_x (a := 44) (x := 3) (v := 0) (zK_x (a := 44) (x := 1) (v := b) (zK_x (a := 44) (x := 0) (v := 1) (zK_r (k := (kL [] [(44, 0), (44, 1), (44, 3), (83, 3)])) (A := J)) rfl) rfl) rfl) rfl)
          exact ⟨hR, hG, RelY_k hk (by repeat' constructor) (fun p => by repeat' constructor) hY, RelD_k hk (by repeat' constructor) (fun p => by repeat' constructor) hD, RelP_k hk (by repeat' constructor) (fun p => by repeat' constructor) hP, RelC_k hk (by repeat' constructor) (fun p => by repeat' constructor) hC, RelA_k hk (by repeat' constructor) (fun p => by repeat' constructor) hAc, (RelS_one (J := J) (M := M) (c := 3) (fun t t1 t2 te => by have q : t = 0 ∨ t = 1 ∨ t = 2 ∨ t = 3 ∨ t = 4 ∨ t = 5 := (by omega); rcases q with rfl | rfl | rfl | rfl | rfl | rfl <;> first | exact absurd rfl te | exact ⟨fun j => rfl, rfl, rfl⟩) (fun t t1 t2 te => ⟨fun j => rfl, fun j j1 j2 => rfl⟩) rfl (show RelS1 _ _ _ from ⟨rfl, (show (0 : Int) ≤ 1 ∧ (1 : Int) ≤ 2 from by decide), (hS 3 (by decide) (by decide)).2.2.1, (show (0 : Int) ≤ 0 ∧ (0 : Int) ≤ 60 from by decide), fun _ => (show 0 ≤ b ∧ b < J 34 1 from by omega), fun h => absurd (show (1 : Int) = 2 from h) (by decide)⟩) hS), RelT_k hk (by repeat' constructor) (fun p => by repeat' constructor) hTp, RelX_k hk (by repeat' constructor) (fun p => by repeat' constructor) hX, RelW_k hk ⟨rfl, rfl⟩ trivial hW⟩
      · refine z_aload0 gi_249_12 ?_
        refine z_iload2 gi_249_13 ?_
        refine z_cV1 gi_249_14 gk_50 go_230 (Nat.le_of_ble_eq_true rfl) gc_230_RI ?_
        refine z_iload1 gi_230_0 ?_
        refine z_pushJ gp_230_1 ?_
        refine z_aload0 gi_230_2 ?_
        refine z_getI (v := J 50 54) gi_230_3 gk_50 ((zU_n (by decide)).trans ((zU_n (by decide)).trans ((zU_n (by decide)).trans (rfl)))) ?_
        refine z_pushJ gp_230_6 ?_
        refine z_isub (e := (J 50 54) - 1) gi_230_7 rfl ?_
        refine z_cS3 gi_230_8 (Nat.le_of_ble_eq_true rfl) gc_148_III ?_
        refine z_iload0 gi_148_0 ?_
        refine z_iload1 gi_148_1 ?_
        refine z_icmp_lt gi_148_2 (by omega) zr_0 (fun h4 => ?_) (fun h4 => ?_)
        · refine z_pushJ gp_148_14 ?_
          refine z_bret0 gi_148_15 gr_148 ?_
          show zW _ _ _ _ _ _ _ _ _ _
          refine z_bret0 gi_230_11 gr_230 ?_
          show zW _ _ _ _ _ _ _ _ _ _
          refine z_if_neF gi_249_17 zr_0 (by decide) ?_
          refine z_pushJ gp_249_20 ?_
          refine z_iret gi_249_21 gr_249 ?_
          refine ⟨?_, ?_⟩
          · first | rfl | exact congrArg (fun v => some (zi v)) (by omega) | (exfalso; omega)
          · exfalso
            omega
        · refine z_iload0 gi_148_5 ?_
          refine z_iload2 gi_148_6 ?_
          refine z_icmp_gt gi_148_7 (by omega) (by omega) (fun h5 => ?_) (fun h5 => ?_)
          · refine z_pushJ gp_148_14 ?_
            refine z_bret0 gi_148_15 gr_148 ?_
            show zW _ _ _ _ _ _ _ _ _ _
            refine z_bret0 gi_230_11 gr_230 ?_
            show zW _ _ _ _ _ _ _ _ _ _
            refine z_if_neF gi_249_17 zr_0 (by decide) ?_
            refine z_pushJ gp_249_20 ?_
            refine z_iret gi_249_21 gr_249 ?_
            refine ⟨?_, ?_⟩
            · first | rfl | exact congrArg (fun v => some (zi v)) (by omega) | (exfalso; omega)
            · exfalso
              omega
          · refine z_pushJ gp_148_10 ?_
            refine z_goto gi_148_11 ?_
            refine z_bret1 gi_148_15 gr_148 ?_
            show zW _ _ _ _ _ _ _ _ _ _
            refine z_bret1 gi_230_11 gr_230 ?_
            show zW _ _ _ _ _ _ _ _ _ _
            refine z_if_neT gi_249_17 zr_1 (by decide) ?_
            refine z_aload0 gi_249_22 ?_
            refine z_getR (r := 83) gi_249_23 gk_50 (hRr _ rm_50_58 (by decide)) ?_
            refine z_iload1 gi_249_26 ?_
            refine z_iload2 gi_249_27 ?_
            refine z_iast (e := b) gi_249_28 gk_83 (by decide) (by decide) rfl ?_
            refine z_pushJ gp_249_29 ?_
            refine z_iret gi_249_30 gr_249 ?_
            refine ⟨?_, ?_⟩
            · first | rfl | exact congrArg (fun v => some (zi v)) (by omega) | (exfalso; omega)
            · have hk := (zK_x (a := 83) (x := 3) (v := b) (zK_x (a := 44) (x := 3) (v := 0) (zK_x (a := 44) (x := 1) (v := b) (zK_x (a := 44) (x := 0) (v := 1) (zK_r (k := (kL [] [(44, 0), (44, 1), (44, 3), (83, 3)])) (A := J)) rfl) rfl) rfl) rfl)
              exact ⟨hR, hG, RelY_k hk (by repeat' constructor) (fun p => by repeat' constructor) hY, RelD_k hk (by repeat' constructor) (fun p => by repeat' constructor) hD, RelP_k hk (by repeat' constructor) (fun p => by repeat' constructor) hP, RelC_k hk (by repeat' constructor) (fun p => by repeat' constructor) hC, RelA_k hk (by repeat' constructor) (fun p => by repeat' constructor) hAc, (RelS_one (J := J) (M := M) (c := 3) (fun t t1 t2 te => by have q : t = 0 ∨ t = 1 ∨ t = 2 ∨ t = 3 ∨ t = 4 ∨ t = 5 := (by omega); rcases q with rfl | rfl | rfl | rfl | rfl | rfl <;> first | exact absurd rfl te | exact ⟨fun j => rfl, rfl, rfl⟩) (fun t t1 t2 te => ⟨fun j => rfl, fun j j1 j2 => rfl⟩) rfl (show RelS1 _ _ _ from ⟨rfl, (show (0 : Int) ≤ 1 ∧ (1 : Int) ≤ 2 from by decide), (hS 3 (by decide) (by decide)).2.2.1, (show (0 : Int) ≤ 0 ∧ (0 : Int) ≤ 60 from by decide), fun _ => (show 0 ≤ b ∧ b < J 34 1 from by omega), fun h => absurd (show (1 : Int) = 2 from h) (by decide)⟩) hS), RelT_k hk (by repeat' constructor) (fun p => by repeat' constructor) hTp, RelX_k hk (by repeat' constructor) (fun p => by repeat' constructor) hX, RelW_k hk ⟨rfl, rfl⟩ trivial hW⟩
    · refine z_aload0 gi_136_30 ?_
      refine z_getR (r := 37) gi_136_31 gk_0 (hR _ rm_0_11) ?_
      refine z_iload1 gi_136_34 ?_
      refine z_aald (r := 44) gi_136_35 rfl (by decide) (by decide) (hR _ rm_37_3) ?_
      refine z_cV0 gi_136_36 gk_44 go_66 (Nat.le_of_ble_eq_true rfl) gc_66_R ?_
      refine z_aload0 gi_66_0 ?_
      refine z_pushJ gp_66_1 ?_
      refine z_putI (y := 0) gi_66_2 rfl gk_44 ?_
      refine z_aload0 gi_66_5 ?_
      refine z_pushJ gp_66_6 ?_
      refine z_putI (y := 3) gi_66_7 rfl gk_44 ?_
      refine z_vret gi_66_10 gr_66 ?_
      show zW _ _ _ _ _ _ _ _ _ _
      refine z_goto gi_136_39 ?_
      refine z_pushJ gp_136_52 ?_
      refine z_iret gi_136_53 gr_136 ?_
      refine ⟨_, rfl, ?_⟩
      show zW _ _ _ _ [some (.ref 50), some (zi 3), some (zi b)] _ _ _ _ _
      refine z_iload1 gi_249_0 ?_
      refine z_cS1 gi_249_1 (Nat.le_of_ble_eq_true rfl) gc_248_I ?_
      refine z_iload0 gi_248_0 ?_
      refine z_pushJ gp_248_1 ?_
      refine z_pushJ gp_248_2 ?_
      refine z_cS3 gi_248_3 (Nat.le_of_ble_eq_true rfl) gc_148_III ?_
      refine z_iload0 gi_148_0 ?_
      refine z_iload1 gi_148_1 ?_
      refine z_icmp_ltF gi_148_2 zr_3 zr_0 (by decide) ?_
      refine z_iload0 gi_148_5 ?_
      refine z_iload2 gi_148_6 ?_
      refine z_icmp_gtF gi_148_7 zr_3 zr_5 (by decide) ?_
      refine z_pushJ gp_148_10 ?_
      refine z_goto gi_148_11 ?_
      refine z_bret1 gi_148_15 gr_148 ?_
      show zW _ _ _ _ _ _ _ _ _ _
      refine z_bret1 gi_248_6 gr_248 ?_
      show zW _ _ _ _ _ _ _ _ _ _
      refine z_if_eqF gi_249_4 zr_1 (by decide) ?_
      refine z_iload2 gi_249_7 ?_
      refine z_pushJ gp_249_8 ?_
      refine z_icmp_eq gi_249_9 (by omega) zrn_1 (fun h3 => ?_) (fun h3 => ?_)
      · refine z_aload0 gi_249_22 ?_
        refine z_getR (r := 83) gi_249_23 gk_50 (hRr _ rm_50_58 (by decide)) ?_
        refine z_iload1 gi_249_26 ?_
        refine z_iload2 gi_249_27 ?_
        refine z_iast (e := b) gi_249_28 gk_83 (by decide) (by decide) rfl ?_
        refine z_pushJ gp_249_29 ?_
        refine z_iret gi_249_30 gr_249 ?_
        refine ⟨?_, ?_⟩
        · first | rfl | exact congrArg (fun v => some (zi v)) (by omega) | (exfalso; omega)
        · have hk := (zK_x (a := 83) (x := 3) (v := b) (zK_x (a := 44) (x := 3) (v := 0) (zK_x (a := 44) (x := 0) (v := 0) (zK_r (k := (kL [] [(44, 0), (44, 3), (83, 3)])) (A := J)) rfl) rfl) rfl)
          exact ⟨hR, hG, RelY_k hk (by repeat' constructor) (fun p => by repeat' constructor) hY, RelD_k hk (by repeat' constructor) (fun p => by repeat' constructor) hD, RelP_k hk (by repeat' constructor) (fun p => by repeat' constructor) hP, RelC_k hk (by repeat' constructor) (fun p => by repeat' constructor) hC, RelA_k hk (by repeat' constructor) (fun p => by repeat' constructor) hAc, (RelS_one (J := J) (M := M) (c := 3) (fun t t1 t2 te => by have q : t = 0 ∨ t = 1 ∨ t = 2 ∨ t = 3 ∨ t = 4 ∨ t = 5 := (by omega); rcases q with rfl | rfl | rfl | rfl | rfl | rfl <;> first | exact absurd rfl te | exact ⟨fun j => rfl, rfl, rfl⟩) (fun t t1 t2 te => ⟨fun j => rfl, fun j j1 j2 => rfl⟩) rfl (show RelS1 _ _ _ from ⟨(show (-1 : Int) = b from by omega), (show (0 : Int) ≤ 0 ∧ (0 : Int) ≤ 2 from by decide), (hS 3 (by decide) (by decide)).2.2.1, (show (0 : Int) ≤ 0 ∧ (0 : Int) ≤ 60 from by decide), fun h => absurd (show (0 : Int) = 1 from h) (by decide), fun h => absurd (show (0 : Int) = 2 from h) (by decide)⟩) hS), RelT_k hk (by repeat' constructor) (fun p => by repeat' constructor) hTp, RelX_k hk (by repeat' constructor) (fun p => by repeat' constructor) hX, RelW_k hk ⟨rfl, rfl⟩ trivial hW⟩
      · refine z_aload0 gi_249_12 ?_
        refine z_iload2 gi_249_13 ?_
        refine z_cV1 gi_249_14 gk_50 go_230 (Nat.le_of_ble_eq_true rfl) gc_230_RI ?_
        refine z_iload1 gi_230_0 ?_
        refine z_pushJ gp_230_1 ?_
        refine z_aload0 gi_230_2 ?_
        refine z_getI (v := J 50 54) gi_230_3 gk_50 ((zU_n (by decide)).trans ((zU_n (by decide)).trans (rfl))) ?_
        refine z_pushJ gp_230_6 ?_
        refine z_isub (e := (J 50 54) - 1) gi_230_7 rfl ?_
        refine z_cS3 gi_230_8 (Nat.le_of_ble_eq_true rfl) gc_148_III ?_
        refine z_iload0 gi_148_0 ?_
        refine z_iload1 gi_148_1 ?_
        refine z_icmp_lt gi_148_2 (by omega) zr_0 (fun h4 => ?_) (fun h4 => ?_)
        · refine z_pushJ gp_148_14 ?_
          refine z_bret0 gi_148_15 gr_148 ?_
          show zW _ _ _ _ _ _ _ _ _ _
          refine z_bret0 gi_230_11 gr_230 ?_
          show zW _ _ _ _ _ _ _ _ _ _
          refine z_if_neF gi_249_17 zr_0 (by decide) ?_
          refine z_pushJ gp_249_20 ?_
          refine z_iret gi_249_21 gr_249 ?_
          refine ⟨?_, ?_⟩
          · first | rfl | exact congrArg (fun v => some (zi v)) (by omega) | (exfalso; omega)
          · exfalso
            omega
        · refine z_iload0 gi_148_5 ?_
          refine z_iload2 gi_148_6 ?_
          refine z_icmp_gt gi_148_7 (by omega) (by omega) (fun h5 => ?_) (fun h5 => ?_)
          · refine z_pushJ gp_148_14 ?_
            refine z_bret0 gi_148_15 gr_148 ?_
            show zW _ _ _ _ _ _ _ _ _ _
            refine z_bret0 gi_230_11 gr_230 ?_
            show zW _ _ _ _ _ _ _ _ _ _
            refine z_if_neF gi_249_17 zr_0 (by decide) ?_
            refine z_pushJ gp_249_20 ?_
            refine z_iret gi_249_21 gr_249 ?_
            refine ⟨?_, ?_⟩
            · first | rfl | exact congrArg (fun v => some (zi v)) (by omega) | (exfalso; omega)
            · exfalso
              omega
          · refine z_pushJ gp_148_10 ?_
            refine z_goto gi_148_11 ?_
            refine z_bret1 gi_148_15 gr_148 ?_
            show zW _ _ _ _ _ _ _ _ _ _
            refine z_bret1 gi_230_11 gr_230 ?_
            show zW _ _ _ _ _ _ _ _ _ _
            refine z_if_neT gi_249_17 zr_1 (by decide) ?_
            refine z_aload0 gi_249_22 ?_
            refine z_getR (r := 83) gi_249_23 gk_50 (hRr _ rm_50_58 (by decide)) ?_
            refine z_iload1 gi_249_26 ?_
            refine z_iload2 gi_249_27 ?_
            refine z_iast (e := b) gi_249_28 gk_83 (by decide) (by decide) rfl ?_
            refine z_pushJ gp_249_29 ?_
            refine z_iret gi_249_30 gr_249 ?_
            refine ⟨?_, ?_⟩
            · first | rfl | exact congrArg (fun v => some (zi v)) (by omega) | (exfalso; omega)
            · have hk := (zK_x (a := 83) (x := 3) (v := b) (zK_x (a := 44) (x := 3) (v := 0) (zK_x (a := 44) (x := 0) (v := 0) (zK_r (k := (kL [] [(44, 0), (44, 3), (83, 3)])) (A := J)) rfl) rfl) rfl)
              exact ⟨hR, hG, RelY_k hk (by repeat' constructor) (fun p => by repeat' constructor) hY, RelD_k hk (by repeat' constructor) (fun p => by repeat' constructor) hD, RelP_k hk (by repeat' constructor) (fun p => by repeat' constructor) hP, RelC_k hk (by repeat' constructor) (fun p => by repeat' constructor) hC, RelA_k hk (by repeat' constructor) (fun p => by repeat' constructor) hAc, (RelS_one (J := J) (M := M) (c := 3) (fun t t1 t2 te => by have q : t = 0 ∨ t = 1 ∨ t = 2 ∨ t = 3 ∨ t = 4 ∨ t = 5 := (by omega); rcases q with rfl | rfl | rfl | rfl | rfl | rfl <;> first | exact absurd rfl te | exact ⟨fun j => rfl, rfl, rfl⟩) (fun t t1 t2 te => ⟨fun j => rfl, fun j j1 j2 => rfl⟩) rfl (show RelS1 _ _ _ from ⟨(show (-1 : Int) = b from by omega), (show (0 : Int) ≤ 0 ∧ (0 : Int) ≤ 2 from by decide), (hS 3 (by decide) (by decide)).2.2.1, (show (0 : Int) ≤ 0 ∧ (0 : Int) ≤ 60 from by decide), fun h => absurd (show (0 : Int) = 1 from h) (by decide), fun h => absurd (show (0 : Int) = 2 from h) (by decide)⟩) hS), RelT_k hk (by repeat' constructor) (fun p => by repeat' constructor) hTp, RelX_k hk (by repeat' constructor) (fun p => by repeat' constructor) hX, RelW_k hk ⟨rfl, rfl⟩ trivial hW⟩
  · refine z_aload0 gi_136_12 ?_
    refine z_getR (r := 34) gi_136_13 gk_0 (hR _ rm_0_10) ?_
    refine z_iload2 gi_136_16 ?_
    refine z_cV1 gi_136_17 gk_34 go_3 (Nat.le_of_ble_eq_true rfl) gc_3_RI ?_
    refine z_iload1 gi_3_0 ?_
    refine z_if_lt gi_3_1 (by omega) (fun h3 => ?_) (fun h3 => ?_)
    · refine z_pushJ gp_3_16 ?_
      refine z_bret0 gi_3_17 gr_3 ?_
      show zW _ _ _ _ _ _ _ _ _ _
      refine z_if_neF gi_136_20 zr_0 (by decide) ?_
      refine z_pushJ gp_136_23 ?_
      refine z_iret gi_136_24 gr_136 ?_
      refine ⟨_, rfl, ?_⟩
      show zW _ _ _ _ [some (.ref 50), some (zi 3), some (zi b)] _ _ _ _ _
      refine z_iload1 gi_249_0 ?_
      refine z_cS1 gi_249_1 (Nat.le_of_ble_eq_true rfl) gc_248_I ?_
      refine z_iload0 gi_248_0 ?_
      refine z_pushJ gp_248_1 ?_
      refine z_pushJ gp_248_2 ?_
      refine z_cS3 gi_248_3 (Nat.le_of_ble_eq_true rfl) gc_148_III ?_
      refine z_iload0 gi_148_0 ?_
      refine z_iload1 gi_148_1 ?_
      refine z_icmp_ltF gi_148_2 zr_3 zr_0 (by decide) ?_
      refine z_iload0 gi_148_5 ?_
      refine z_iload2 gi_148_6 ?_
      refine z_icmp_gtF gi_148_7 zr_3 zr_5 (by decide) ?_
      refine z_pushJ gp_148_10 ?_
      refine z_goto gi_148_11 ?_
      refine z_bret1 gi_148_15 gr_148 ?_
      show zW _ _ _ _ _ _ _ _ _ _
      refine z_bret1 gi_248_6 gr_248 ?_
      show zW _ _ _ _ _ _ _ _ _ _
      refine z_if_eqF gi_249_4 zr_1 (by decide) ?_
      refine z_iload2 gi_249_7 ?_
      refine z_pushJ gp_249_8 ?_
      refine z_icmp_eq gi_249_9 (by omega) zrn_1 (fun h4 => ?_) (fun h4 => ?_)
      · refine z_aload0 gi_249_22 ?_
        refine z_getR (r := 83) gi_249_23 gk_50 (hRr _ rm_50_58 (by decide)) ?_
        refine z_iload1 gi_249_26 ?_
        refine z_iload2 gi_249_27 ?_
        refine z_iast (e := b) gi_249_28 gk_83 (by decide) (by decide) rfl ?_
        refine z_pushJ gp_249_29 ?_
        refine z_iret gi_249_30 gr_249 ?_
        refine ⟨?_, ?_⟩
        · first | rfl | exact congrArg (fun v => some (zi v)) (by omega) | (exfalso; omega)
        · exfalso
          omega
      · refine z_aload0 gi_249_12 ?_
        refine z_iload2 gi_249_13 ?_
        refine z_cV1 gi_249_14 gk_50 go_230 (Nat.le_of_ble_eq_true rfl) gc_230_RI ?_
        refine z_iload1 gi_230_0 ?_
        refine z_pushJ gp_230_1 ?_
        refine z_aload0 gi_230_2 ?_
        refine z_getI (v := J 50 54) gi_230_3 gk_50 (rfl) ?_
        refine z_pushJ gp_230_6 ?_
        refine z_isub (e := (J 50 54) - 1) gi_230_7 rfl ?_
        refine z_cS3 gi_230_8 (Nat.le_of_ble_eq_true rfl) gc_148_III ?_
        refine z_iload0 gi_148_0 ?_
        refine z_iload1 gi_148_1 ?_
        refine z_icmp_lt gi_148_2 (by omega) zr_0 (fun h5 => ?_) (fun h5 => ?_)
        · refine z_pushJ gp_148_14 ?_
          refine z_bret0 gi_148_15 gr_148 ?_
          show zW _ _ _ _ _ _ _ _ _ _
          refine z_bret0 gi_230_11 gr_230 ?_
          show zW _ _ _ _ _ _ _ _ _ _
          refine z_if_neF gi_249_17 zr_0 (by decide) ?_
          refine z_pushJ gp_249_20 ?_
          refine z_iret gi_249_21 gr_249 ?_
          refine ⟨?_, ?_⟩
          · first | rfl | exact congrArg (fun v => some (zi v)) (by omega) | (exfalso; omega)
          · exact hr
        · refine z_iload0 gi_148_5 ?_
          refine z_iload2 gi_148_6 ?_
          refine z_icmp_gt gi_148_7 (by omega) (by omega) (fun h6 => ?_) (fun h6 => ?_)
          · refine z_pushJ gp_148_14 ?_
            refine z_bret0 gi_148_15 gr_148 ?_
            show zW _ _ _ _ _ _ _ _ _ _
            refine z_bret0 gi_230_11 gr_230 ?_
            show zW _ _ _ _ _ _ _ _ _ _
            refine z_if_neF gi_249_17 zr_0 (by decide) ?_
            refine z_pushJ gp_249_20 ?_
            refine z_iret gi_249_21 gr_249 ?_
            refine ⟨?_, ?_⟩
            · first | rfl | exact congrArg (fun v => some (zi v)) (by omega) | (exfalso; omega)
            · exact hr
          · refine z_pushJ gp_148_10 ?_
            refine z_goto gi_148_11 ?_
            refine z_bret1 gi_148_15 gr_148 ?_
            show zW _ _ _ _ _ _ _ _ _ _
            refine z_bret1 gi_230_11 gr_230 ?_
            show zW _ _ _ _ _ _ _ _ _ _
            refine z_if_neT gi_249_17 zr_1 (by decide) ?_
            refine z_aload0 gi_249_22 ?_
            refine z_getR (r := 83) gi_249_23 gk_50 (hRr _ rm_50_58 (by decide)) ?_
            refine z_iload1 gi_249_26 ?_
            refine z_iload2 gi_249_27 ?_
            refine z_iast (e := b) gi_249_28 gk_83 (by decide) (by decide) rfl ?_
            refine z_pushJ gp_249_29 ?_
            refine z_iret gi_249_30 gr_249 ?_
            refine ⟨?_, ?_⟩
            · first | rfl | exact congrArg (fun v => some (zi v)) (by omega) | (exfalso; omega)
            · exfalso
              omega
    · refine z_iload1 gi_3_4 ?_
      refine z_aload0 gi_3_5 ?_
      refine z_getI (v := J 34 1) gi_3_6 gk_34 (rfl) ?_
      refine z_icmp_ge gi_3_9 (by omega) (by omega) (fun h4 => ?_) (fun h4 => ?_)
      · refine z_pushJ gp_3_16 ?_
        refine z_bret0 gi_3_17 gr_3 ?_
        show zW _ _ _ _ _ _ _ _ _ _
        refine z_if_neF gi_136_20 zr_0 (by decide) ?_
        refine z_pushJ gp_136_23 ?_
        refine z_iret gi_136_24 gr_136 ?_
        refine ⟨_, rfl, ?_⟩
        show zW _ _ _ _ [some (.ref 50), some (zi 3), some (zi b)] _ _ _ _ _
        refine z_iload1 gi_249_0 ?_
        refine z_cS1 gi_249_1 (Nat.le_of_ble_eq_true rfl) gc_248_I ?_
        refine z_iload0 gi_248_0 ?_
        refine z_pushJ gp_248_1 ?_
        refine z_pushJ gp_248_2 ?_
        refine z_cS3 gi_248_3 (Nat.le_of_ble_eq_true rfl) gc_148_III ?_
        refine z_iload0 gi_148_0 ?_
        refine z_iload1 gi_148_1 ?_
        refine z_icmp_ltF gi_148_2 zr_3 zr_0 (by decide) ?_
        refine z_iload0 gi_148_5 ?_
        refine z_iload2 gi_148_6 ?_
        refine z_icmp_gtF gi_148_7 zr_3 zr_5 (by decide) ?_
        refine z_pushJ gp_148_10 ?_
        refine z_goto gi_148_11 ?_
        refine z_bret1 gi_148_15 gr_148 ?_
        show zW _ _ _ _ _ _ _ _ _ _
        refine z_bret1 gi_248_6 gr_248 ?_
        show zW _ _ _ _ _ _ _ _ _ _
        refine z_if_eqF gi_249_4 zr_1 (by decide) ?_
        refine z_iload2 gi_249_7 ?_
        refine z_pushJ gp_249_8 ?_
        refine z_icmp_eq gi_249_9 (by omega) zrn_1 (fun h5 => ?_) (fun h5 => ?_)
        · refine z_aload0 gi_249_22 ?_
          refine z_getR (r := 83) gi_249_23 gk_50 (hRr _ rm_50_58 (by decide)) ?_
          refine z_iload1 gi_249_26 ?_
          refine z_iload2 gi_249_27 ?_
          refine z_iast (e := b) gi_249_28 gk_83 (by decide) (by decide) rfl ?_
          refine z_pushJ gp_249_29 ?_
          refine z_iret gi_249_30 gr_249 ?_
          refine ⟨?_, ?_⟩
          · first | rfl | exact congrArg (fun v => some (zi v)) (by omega) | (exfalso; omega)
          · exfalso
            omega
        · refine z_aload0 gi_249_12 ?_
          refine z_iload2 gi_249_13 ?_
          refine z_cV1 gi_249_14 gk_50 go_230 (Nat.le_of_ble_eq_true rfl) gc_230_RI ?_
          refine z_iload1 gi_230_0 ?_
          refine z_pushJ gp_230_1 ?_
          refine z_aload0 gi_230_2 ?_
          refine z_getI (v := J 50 54) gi_230_3 gk_50 (rfl) ?_
          refine z_pushJ gp_230_6 ?_
          refine z_isub (e := (J 50 54) - 1) gi_230_7 rfl ?_
          refine z_cS3 gi_230_8 (Nat.le_of_ble_eq_true rfl) gc_148_III ?_
          refine z_iload0 gi_148_0 ?_
          refine z_iload1 gi_148_1 ?_
          refine z_icmp_lt gi_148_2 (by omega) zr_0 (fun h6 => ?_) (fun h6 => ?_)
          · refine z_pushJ gp_148_14 ?_
            refine z_bret0 gi_148_15 gr_148 ?_
            show zW _ _ _ _ _ _ _ _ _ _
            refine z_bret0 gi_230_11 gr_230 ?_
            show zW _ _ _ _ _ _ _ _ _ _
            refine z_if_neF gi_249_17 zr_0 (by decide) ?_
            refine z_pushJ gp_249_20 ?_
            refine z_iret gi_249_21 gr_249 ?_
            refine ⟨?_, ?_⟩
            · first | rfl | exact congrArg (fun v => some (zi v)) (by omega) | (exfalso; omega)
            · exact hr
          · refine z_iload0 gi_148_5 ?_
            refine z_iload2 gi_148_6 ?_
            refine z_icmp_gt gi_148_7 (by omega) (by omega) (fun h7 => ?_) (fun h7 => ?_)
            · refine z_pushJ gp_148_14 ?_
              refine z_bret0 gi_148_15 gr_148 ?_
              show zW _ _ _ _ _ _ _ _ _ _
              refine z_bret0 gi_230_11 gr_230 ?_
              show zW _ _ _ _ _ _ _ _ _ _
              refine z_if_neF gi_249_17 zr_0 (by decide) ?_
              refine z_pushJ gp_249_20 ?_
              refine z_iret gi_249_21 gr_249 ?_
              refine ⟨?_, ?_⟩
              · first | rfl | exact congrArg (fun v => some (zi v)) (by omega) | (exfalso; omega)
              · exact hr
            · refine z_pushJ gp_148_10 ?_
              refine z_goto gi_148_11 ?_
              refine z_bret1 gi_148_15 gr_148 ?_
              show zW _ _ _ _ _ _ _ _ _ _
              refine z_bret1 gi_230_11 gr_230 ?_
              show zW _ _ _ _ _ _ _ _ _ _
              refine z_if_neT gi_249_17 zr_1 (by decide) ?_
              refine z_aload0 gi_249_22 ?_
              refine z_getR (r := 83) gi_249_23 gk_50 (hRr _ rm_50_58 (by decide)) ?_
              refine z_iload1 gi_249_26 ?_
              refine z_iload2 gi_249_27 ?_
              refine z_iast (e := b) gi_249_28 gk_83 (by decide) (by decide) rfl ?_
              refine z_pushJ gp_249_29 ?_
              refine z_iret gi_249_30 gr_249 ?_
              refine ⟨?_, ?_⟩
              · first | rfl | exact congrArg (fun v => some (zi v)) (by omega) | (exfalso; omega)
              · exfalso
                omega
      · refine z_pushJ gp_3_12 ?_
        refine z_goto gi_3_13 ?_
        refine z_bret1 gi_3_17 gr_3 ?_
        show zW _ _ _ _ _ _ _ _ _ _
        refine z_if_neT gi_136_20 zr_1 (by decide) ?_
        refine z_iload2 gi_136_25 ?_
        refine z_pushJ gp_136_26 ?_
        refine z_icmp_ne gi_136_27 (by omega) zrn_1 (fun h5 => ?_) (fun h5 => ?_)
        · refine z_aload0 gi_136_42 ?_
          refine z_getR (r := 37) gi_136_43 gk_0 (hR _ rm_0_11) ?_
          refine z_iload1 gi_136_46 ?_
          refine z_aald (r := 44) gi_136_47 rfl (by decide) (by decide) (hR _ rm_37_3) ?_
          refine z_iload2 gi_136_48 ?_
          refine z_cV1 gi_136_49 gk_44 go_67 (Nat.le_of_ble_eq_true rfl) gc_67_RI ?_
          refine z_aload0 gi_67_0 ?_
          refine z_pushJ gp_67_1 ?_
          refine z_putI (y := 0) gi_67_2 rfl gk_44 ?_
          refine z_aload0 gi_67_5 ?_
          refine z_iload1 gi_67_6 ?_
          refine z_putI (y := 1) gi_67_7 rfl gk_44 ?_
          refine z_aload0 gi_67_10 ?_
          refine z_pushJ gp_67_11 ?_
          refine z_putI (y := 3) gi_67_12 rfl gk_44 ?_
          refine z_vret gi_67_15 gr_67 ?_
          show zW _ _ _ _ _ _ _ _ _ _
          refine z_pushJ gp_136_52 ?_
          refine z_iret gi_136_53 gr_136 ?_
          refine ⟨_, rfl, ?_⟩
          show zW _ _ _ _ [some (.ref 50), some (zi 3), some (zi b)] _ _ _ _ _
          refine z_iload1 gi_249_0 ?_
          refine z_cS1 gi_249_1 (Nat.le_of_ble_eq_true rfl) gc_248_I ?_
          refine z_iload0 gi_248_0 ?_
          refine z_pushJ gp_248_1 ?_
          refine z_pushJ gp_248_2 ?_
          refine z_cS3 gi_248_3 (Nat.le_of_ble_eq_true rfl) gc_148_III ?_
          refine z_iload0 gi_148_0 ?_
          refine z_iload1 gi_148_1 ?_
          refine z_icmp_ltF gi_148_2 zr_3 zr_0 (by decide) ?_
          refine z_iload0 gi_148_5 ?_
          refine z_iload2 gi_148_6 ?_
          refine z_icmp_gtF gi_148_7 zr_3 zr_5 (by decide) ?_
          refine z_pushJ gp_148_10 ?_
          refine z_goto gi_148_11 ?_
          refine z_bret1 gi_148_15 gr_148 ?_
          show zW _ _ _ _ _ _ _ _ _ _
          refine z_bret1 gi_248_6 gr_248 ?_
          show zW _ _ _ _ _ _ _ _ _ _
          refine z_if_eqF gi_249_4 zr_1 (by decide) ?_
          refine z_iload2 gi_249_7 ?_
          refine z_pushJ gp_249_8 ?_
          refine z_icmp_eq gi_249_9 (by omega) zrn_1 (fun h6 => ?_) (fun h6 => ?_)
          · refine z_aload0 gi_249_22 ?_
            refine z_getR (r := 83) gi_249_23 gk_50 (hRr _ rm_50_58 (by decide)) ?_
            refine z_iload1 gi_249_26 ?_
            refine z_iload2 gi_249_27 ?_
            refine z_iast (e := b) gi_249_28 gk_83 (by decide) (by decide) rfl ?_
            refine z_pushJ gp_249_29 ?_
            refine z_iret gi_249_30 gr_249 ?_
            refine ⟨?_, ?_⟩
            · first | rfl | exact congrArg (fun v => some (zi v)) (by omega) | (exfalso; omega)
            · have hk := (zK_x (a := 83) (x := 3) (v := b) (zK_x (a := 44) (x := 3) (v := 0) (zK_x (a := 44) (x := 1) (v := b) (zK_x (a := 44) (x := 0) (v := 1) (zK_r (k := (kL [] [(44, 0), (44, 1), (44, 3), (83, 3)])) (A := J)) rfl) rfl) rfl) rfl)
              exact ⟨hR, hG, RelY_k hk (by repeat' constructor) (fun p => by repeat' constructor) hY, RelD_k hk (by repeat' constructor) (fun p => by repeat' constructor) hD, RelP_k hk (by repeat' constructor) (fun p => by repeat' constructor) hP, RelC_k hk (by repeat' constructor) (fun p => by repeat' constructor) hC, RelA_k hk (by repeat' constructor) (fun p => by repeat' constructor) hAc, (RelS_one (J := J) (M := M) (c := 3) (fun t t1 t2 te => by have q : t = 0 ∨ t = 1 ∨ t = 2 ∨ t = 3 ∨ t = 4 ∨ t = 5 := (by omega); rcases q with rfl | rfl | rfl | rfl | rfl | rfl <;> first | exact absurd rfl te | exact ⟨fun j => rfl, rfl, rfl⟩) (fun t t1 t2 te => ⟨fun j => rfl, fun j j1 j2 => rfl⟩) rfl (show RelS1 _ _ _ from ⟨rfl, (show (0 : Int) ≤ 1 ∧ (1 : Int) ≤ 2 from by decide), (hS 3 (by decide) (by decide)).2.2.1, (show (0 : Int) ≤ 0 ∧ (0 : Int) ≤ 60 from by decide), fun _ => (show 0 ≤ b ∧ b < J 34 1 from by omega), fun h => absurd (show (1 : Int) = 2 from h) (by decide)⟩) hS), RelT_k hk (by repeat' constructor) (fun p => by repeat' constructor) hTp, RelX_k hk (by repeat' constructor) (fun p => by repeat' constructor) hX, RelW_k hk ⟨rfl, rfl⟩ trivial hW⟩
          · refine z_aload0 gi_249_12 ?_
            refine z_iload2 gi_249_13 ?_
            refine z_cV1 gi_249_14 gk_50 go_230 (Nat.le_of_ble_eq_true rfl) gc_230_RI ?_
            refine z_iload1 gi_230_0 ?_
            refine z_pushJ gp_230_1 ?_
            refine z_aload0 gi_230_2 ?_
            refine z_getI (v := J 50 54) gi_230_3 gk_50 ((zU_n (by decide)).trans ((zU_n (by decide)).trans ((zU_n (by decide)).trans (rfl)))) ?_
            refine z_pushJ gp_230_6 ?_
            refine z_isub (e := (J 50 54) - 1) gi_230_7 rfl ?_
            refine z_cS3 gi_230_8 (Nat.le_of_ble_eq_true rfl) gc_148_III ?_
            refine z_iload0 gi_148_0 ?_
            refine z_iload1 gi_148_1 ?_
            refine z_icmp_lt gi_148_2 (by omega) zr_0 (fun h7 => ?_) (fun h7 => ?_)
            · refine z_pushJ gp_148_14 ?_
              refine z_bret0 gi_148_15 gr_148 ?_
              show zW _ _ _ _ _ _ _ _ _ _
              refine z_bret0 gi_230_11 gr_230 ?_
              show zW _ _ _ _ _ _ _ _ _ _
              refine z_if_neF gi_249_17 zr_0 (by decide) ?_
              refine z_pushJ gp_249_20 ?_
              refine z_iret gi_249_21 gr_249 ?_
              refine ⟨?_, ?_⟩
              · first | rfl | exact congrArg (fun v => some (zi v)) (by omega) | (exfalso; omega)
              · exfalso
                omega
            · refine z_iload0 gi_148_5 ?_
              refine z_iload2 gi_148_6 ?_
              refine z_icmp_gt gi_148_7 (by omega) (by omega) (fun h8 => ?_) (fun h8 => ?_)
              · refine z_pushJ gp_148_14 ?_
                refine z_bret0 gi_148_15 gr_148 ?_
                show zW _ _ _ _ _ _ _ _ _ _
                refine z_bret0 gi_230_11 gr_230 ?_
                show zW _ _ _ _ _ _ _ _ _ _
                refine z_if_neF gi_249_17 zr_0 (by decide) ?_
                refine z_pushJ gp_249_20 ?_
                refine z_iret gi_249_21 gr_249 ?_
                refine ⟨?_, ?_⟩
                · first | rfl | exact congrArg (fun v => some (zi v)) (by omega) | (exfalso; omega)
                · exfalso
                  omega
              · refine z_pushJ gp_148_10 ?_
                refine z_goto gi_148_11 ?_
                refine z_bret1 gi_148_15 gr_148 ?_
                show zW _ _ _ _ _ _ _ _ _ _
                refine z_bret1 gi_230_11 gr_230 ?_
                show zW _ _ _ _ _ _ _ _ _ _
                refine z_if_neT gi_249_17 zr_1 (by decide) ?_
                refine z_aload0 gi_249_22 ?_
                refine z_getR (r := 83) gi_249_23 gk_50 (hRr _ rm_50_58 (by decide)) ?_
                refine z_iload1 gi_249_26 ?_
                refine z_iload2 gi_249_27 ?_
                refine z_iast (e := b) gi_249_28 gk_83 (by decide) (by decide) rfl ?_
                refine z_pushJ gp_249_29 ?_
                refine z_iret gi_249_30 gr_249 ?_
                refine ⟨?_, ?_⟩
                · first | rfl | exact congrArg (fun v => some (zi v)) (by omega) | (exfalso; omega)
                · have hk := (zK_x (a := 83) (x := 3) (v := b) (zK_x (a := 44) (x := 3) (v := 0) (zK_x (a := 44) (x := 1) (v := b) (zK_x (a := 44) (x := 0) (v := 1) (zK_r (k := (kL [] [(44, 0), (44, 1), (44, 3), (83, 3)])) (A := J)) rfl) rfl) rfl) rfl)
                  exact ⟨hR, hG, RelY_k hk (by repeat' constructor) (fun p => by repeat' constructor) hY, RelD_k hk (by repeat' constructor) (fun p => by repeat' constructor) hD, RelP_k hk (by repeat' constructor) (fun p => by repeat' constructor) hP, RelC_k hk (by repeat' constructor) (fun p => by repeat' constructor) hC, RelA_k hk (by repeat' constructor) (fun p => by repeat' constructor) hAc, (RelS_one (J := J) (M := M) (c := 3) (fun t t1 t2 te => by have q : t = 0 ∨ t = 1 ∨ t = 2 ∨ t = 3 ∨ t = 4 ∨ t = 5 := (by omega); rcases q with rfl | rfl | rfl | rfl | rfl | rfl <;> first | exact absurd rfl te | exact ⟨fun j => rfl, rfl, rfl⟩) (fun t t1 t2 te => ⟨fun j => rfl, fun j j1 j2 => rfl⟩) rfl (show RelS1 _ _ _ from ⟨rfl, (show (0 : Int) ≤ 1 ∧ (1 : Int) ≤ 2 from by decide), (hS 3 (by decide) (by decide)).2.2.1, (show (0 : Int) ≤ 0 ∧ (0 : Int) ≤ 60 from by decide), fun _ => (show 0 ≤ b ∧ b < J 34 1 from by omega), fun h => absurd (show (1 : Int) = 2 from h) (by decide)⟩) hS), RelT_k hk (by repeat' constructor) (fun p => by repeat' constructor) hTp, RelX_k hk (by repeat' constructor) (fun p => by repeat' constructor) hX, RelW_k hk ⟨rfl, rfl⟩ trivial hW⟩
        · refine z_aload0 gi_136_30 ?_
          refine z_getR (r := 37) gi_136_31 gk_0 (hR _ rm_0_11) ?_
          refine z_iload1 gi_136_34 ?_
          refine z_aald (r := 44) gi_136_35 rfl (by decide) (by decide) (hR _ rm_37_3) ?_
          refine z_cV0 gi_136_36 gk_44 go_66 (Nat.le_of_ble_eq_true rfl) gc_66_R ?_
          refine z_aload0 gi_66_0 ?_
          refine z_pushJ gp_66_1 ?_
          refine z_putI (y := 0) gi_66_2 rfl gk_44 ?_
          refine z_aload0 gi_66_5 ?_
          refine z_pushJ gp_66_6 ?_
          refine z_putI (y := 3) gi_66_7 rfl gk_44 ?_
          refine z_vret gi_66_10 gr_66 ?_
          show zW _ _ _ _ _ _ _ _ _ _
          refine z_goto gi_136_39 ?_
          refine z_pushJ gp_136_52 ?_
          refine z_iret gi_136_53 gr_136 ?_
          refine ⟨_, rfl, ?_⟩
          show zW _ _ _ _ [some (.ref 50), some (zi 3), some (zi b)] _ _ _ _ _
          refine z_iload1 gi_249_0 ?_
          refine z_cS1 gi_249_1 (Nat.le_of_ble_eq_true rfl) gc_248_I ?_
          refine z_iload0 gi_248_0 ?_
          refine z_pushJ gp_248_1 ?_
          refine z_pushJ gp_248_2 ?_
          refine z_cS3 gi_248_3 (Nat.le_of_ble_eq_true rfl) gc_148_III ?_
          refine z_iload0 gi_148_0 ?_
          refine z_iload1 gi_148_1 ?_
          refine z_icmp_ltF gi_148_2 zr_3 zr_0 (by decide) ?_
          refine z_iload0 gi_148_5 ?_
          refine z_iload2 gi_148_6 ?_
          refine z_icmp_gtF gi_148_7 zr_3 zr_5 (by decide) ?_
          refine z_pushJ gp_148_10 ?_
          refine z_goto gi_148_11 ?_
          refine z_bret1 gi_148_15 gr_148 ?_
          show zW _ _ _ _ _ _ _ _ _ _
          refine z_bret1 gi_248_6 gr_248 ?_
          show zW _ _ _ _ _ _ _ _ _ _
          refine z_if_eqF gi_249_4 zr_1 (by decide) ?_
          refine z_iload2 gi_249_7 ?_
          refine z_pushJ gp_249_8 ?_
          refine z_icmp_eq gi_249_9 (by omega) zrn_1 (fun h6 => ?_) (fun h6 => ?_)
          · refine z_aload0 gi_249_22 ?_
            refine z_getR (r := 83) gi_249_23 gk_50 (hRr _ rm_50_58 (by decide)) ?_
            refine z_iload1 gi_249_26 ?_
            refine z_iload2 gi_249_27 ?_
            refine z_iast (e := b) gi_249_28 gk_83 (by decide) (by decide) rfl ?_
            refine z_pushJ gp_249_29 ?_
            refine z_iret gi_249_30 gr_249 ?_
            refine ⟨?_, ?_⟩
            · first | rfl | exact congrArg (fun v => some (zi v)) (by omega) | (exfalso; omega)
            · have hk := (zK_x (a := 83) (x := 3) (v := b) (zK_x (a := 44) (x := 3) (v := 0) (zK_x (a := 44) (x := 0) (v := 0) (zK_r (k := (kL [] [(44, 0), (44, 3), (83, 3)])) (A := J)) rfl) rfl) rfl)
              exact ⟨hR, hG, RelY_k hk (by repeat' constructor) (fun p => by repeat' constructor) hY, RelD_k hk (by repeat' constructor) (fun p => by repeat' constructor) hD, RelP_k hk (by repeat' constructor) (fun p => by repeat' constructor) hP, RelC_k hk (by repeat' constructor) (fun p => by repeat' constructor) hC, RelA_k hk (by repeat' constructor) (fun p => by repeat' constructor) hAc, (RelS_one (J := J) (M := M) (c := 3) (fun t t1 t2 te => by have q : t = 0 ∨ t = 1 ∨ t = 2 ∨ t = 3 ∨ t = 4 ∨ t = 5 := (by omega); rcases q with rfl | rfl | rfl | rfl | rfl | rfl <;> first | exact absurd rfl te | exact ⟨fun j => rfl, rfl, rfl⟩) (fun t t1 t2 te => ⟨fun j => rfl, fun j j1 j2 => rfl⟩) rfl (show RelS1 _ _ _ from ⟨(show (-1 : Int) = b from by omega), (show (0 : Int) ≤ 0 ∧ (0 : Int) ≤ 2 from by decide), (hS 3 (by decide) (by decide)).2.2.1, (show (0 : Int) ≤ 0 ∧ (0 : Int) ≤ 60 from by decide), fun h => absurd (show (0 : Int) = 1 from h) (by decide), fun h => absurd (show (0 : Int) = 2 from h) (by decide)⟩) hS), RelT_k hk (by repeat' constructor) (fun p => by repeat' constructor) hTp, RelX_k hk (by repeat' constructor) (fun p => by repeat' constructor) hX, RelW_k hk ⟨rfl, rfl⟩ trivial hW⟩
          · refine z_aload0 gi_249_12 ?_
            refine z_iload2 gi_249_13 ?_
            refine z_cV1 gi_249_14 gk_50 go_230 (Nat.le_of_ble_eq_true rfl) gc_230_RI ?_
            refine z_iload1 gi_230_0 ?_
            refine z_pushJ gp_230_1 ?_
            refine z_aload0 gi_230_2 ?_
            refine z_getI (v := J 50 54) gi_230_3 gk_50 ((zU_n (by decide)).trans ((zU_n (by decide)).trans (rfl))) ?_
            refine z_pushJ gp_230_6 ?_
            refine z_isub (e := (J 50 54) - 1) gi_230_7 rfl ?_
            refine z_cS3 gi_230_8 (Nat.le_of_ble_eq_true rfl) gc_148_III ?_
            refine z_iload0 gi_148_0 ?_
            refine z_iload1 gi_148_1 ?_
            refine z_icmp_lt gi_148_2 (by omega) zr_0 (fun h7 => ?_) (fun h7 => ?_)
            · refine z_pushJ gp_148_14 ?_
              refine z_bret0 gi_148_15 gr_148 ?_
              show zW _ _ _ _ _ _ _ _ _ _
              refine z_bret0 gi_230_11 gr_230 ?_
              show zW _ _ _ _ _ _ _ _ _ _
              refine z_if_neF gi_249_17 zr_0 (by decide) ?_
              refine z_pushJ gp_249_20 ?_
              refine z_iret gi_249_21 gr_249 ?_
              refine ⟨?_, ?_⟩
              · first | rfl | exact congrArg (fun v => some (zi v)) (by omega) | (exfalso; omega)
              · exfalso
                omega
            · refine z_iload0 gi_148_5 ?_
              refine z_iload2 gi_148_6 ?_
              refine z_icmp_gt gi_148_7 (by omega) (by omega) (fun h8 => ?_) (fun h8 => ?_)
              · refine z_pushJ gp_148_14 ?_
                refine z_bret0 gi_148_15 gr_148 ?_
                show zW _ _ _ _ _ _ _ _ _ _
                refine z_bret0 gi_230_11 gr_230 ?_
                show zW _ _ _ _ _ _ _ _ _ _
                refine z_if_neF gi_249_17 zr_0 (by decide) ?_
                refine z_pushJ gp_249_20 ?_
                refine z_iret gi_249_21 gr_249 ?_
                refine ⟨?_, ?_⟩
                · first | rfl | exact congrArg (fun v => some (zi v)) (by omega) | (exfalso; omega)
                · exfalso
                  omega
              · refine z_pushJ gp_148_10 ?_
                refine z_goto gi_148_11 ?_
                refine z_bret1 gi_148_15 gr_148 ?_
                show zW _ _ _ _ _ _ _ _ _ _
                refine z_bret1 gi_230_11 gr_230 ?_
                show zW _ _ _ _ _ _ _ _ _ _
                refine z_if_neT gi_249_17 zr_1 (by decide) ?_
                refine z_aload0 gi_249_22 ?_
                refine z_getR (r := 83) gi_249_23 gk_50 (hRr _ rm_50_58 (by decide)) ?_
                refine z_iload1 gi_249_26 ?_
                refine z_iload2 gi_249_27 ?_
                refine z_iast (e := b) gi_249_28 gk_83 (by decide) (by decide) rfl ?_
                refine z_pushJ gp_249_29 ?_
                refine z_iret gi_249_30 gr_249 ?_
                refine ⟨?_, ?_⟩
                · first | rfl | exact congrArg (fun v => some (zi v)) (by omega) | (exfalso; omega)
                · have hk := (zK_x (a := 83) (x := 3) (v := b) (zK_x (a := 44) (x := 3) (v := 0) (zK_x (a := 44) (x := 0) (v := 0) (zK_r (k := (kL [] [(44, 0), (44, 3), (83, 3)])) (A := J)) rfl) rfl) rfl)
                  exact ⟨hR, hG, RelY_k hk (by repeat' constructor) (fun p => by repeat' constructor) hY, RelD_k hk (by repeat' constructor) (fun p => by repeat' constructor) hD, RelP_k hk (by repeat' constructor) (fun p => by repeat' constructor) hP, RelC_k hk (by repeat' constructor) (fun p => by repeat' constructor) hC, RelA_k hk (by repeat' constructor) (fun p => by repeat' constructor) hAc, (RelS_one (J := J) (M := M) (c := 3) (fun t t1 t2 te => by have q : t = 0 ∨ t = 1 ∨ t = 2 ∨ t = 3 ∨ t = 4 ∨ t = 5 := (by omega); rcases q with rfl | rfl | rfl | rfl | rfl | rfl <;> first | exact absurd rfl te | exact ⟨fun j => rfl, rfl, rfl⟩) (fun t t1 t2 te => ⟨fun j => rfl, fun j j1 j2 => rfl⟩) rfl (show RelS1 _ _ _ from ⟨(show (-1 : Int) = b from by omega), (show (0 : Int) ≤ 0 ∧ (0 : Int) ≤ 2 from by decide), (hS 3 (by decide) (by decide)).2.2.1, (show (0 : Int) ≤ 0 ∧ (0 : Int) ≤ 60 from by decide), fun h => absurd (show (0 : Int) = 1 from h) (by decide), fun h => absurd (show (0 : Int) = 2 from h) (by decide)⟩) hS), RelT_k hk (by repeat' constructor) (fun p => by repeat' constructor) hTp, RelX_k hk (by repeat' constructor) (fun p => by repeat' constructor) hX, RelW_k hk ⟨rfl, rfl⟩ trivial hW⟩
theorem st_keep_4 {X : Nat × (Nat → Int32)} {d : Nat} {J M : zA} {R : zR} {b : Int} (hr : Rel X J M R) (hb : -2147483648 ≤ b ∧ b < 2147483648)  : zW X (d + 20) 136 0 (gEn 136 [(.ref 0), (zi 4), (zi b)]) [] J M R (stP X (d + 20) 249 [(zi 4), (zi b)]) := by
  have hr0 := hr
  obtain ⟨hR, hG, hY, hD, hP, hC, hAc, hS, hTp, hX, hW⟩ := hr0
  have hRr : zRoR R := zRoR_of hR
  have hA0 := hAc
  obtain ⟨a1, a2, a3, a4, a5, a6⟩ := hA0
  show zW _ _ _ _ [some (.ref 0), some (zi 4), some (zi b)] _ _ _ _ _
  refine z_iload1 gi_136_0 ?_
  refine z_cS1 gi_136_1 (Nat.le_of_ble_eq_true rfl) gc_143_I ?_
  refine z_iload0 gi_143_0 ?_
  refine z_if_ltF gi_143_1 zr_4 (by decide) ?_
  refine z_iload0 gi_143_4 ?_
  refine z_pushJ gp_143_5 ?_
  refine z_icmp_geF gi_143_7 zr_4 zr_6 (by decide) ?_
  refine z_pushJ gp_143_10 ?_
  refine z_goto gi_143_11 ?_
  refine z_bret1 gi_143_15 gr_143 ?_
  show zW _ _ _ _ _ _ _ _ _ _
  refine z_if_eqF gi_136_4 zr_1 (by decide) ?_
  refine z_iload2 gi_136_7 ?_
  refine z_pushJ gp_136_8 ?_
  refine z_icmp_eq gi_136_9 (by omega) zrn_1 (fun h1 => ?_) (fun h1 => ?_)
  · refine z_iload2 gi_136_25 ?_
    refine z_pushJ gp_136_26 ?_
    refine z_icmp_ne gi_136_27 (by omega) zrn_1 (fun h2 => ?_) (fun h2 => ?_)
    · refine z_aload0 gi_136_42 ?_
      refine z_getR (r := 37) gi_136_43 gk_0 (hR _ rm_0_11) ?_
      refine z_iload1 gi_136_46 ?_
      refine z_aald (r := 46) gi_136_47 rfl (by decide) (by decide) (hR _ rm_37_4) ?_
      refine z_iload2 gi_136_48 ?_
      refine z_cV1 gi_136_49 gk_46 go_67 (Nat.le_of_ble_eq_true rfl) gc_67_RI ?_
      refine z_aload0 gi_67_0 ?_
      refine z_pushJ gp_67_1 ?_
      refine z_putI (y := 0) gi_67_2 rfl gk_46 ?_
      refine z_aload0 gi_67_5 ?_
      refine z_iload1 gi_67_6 ?_
      refine z_putI (y := 1) gi_67_7 rfl gk_46 ?_
      refine z_aload0 gi_67_10 ?_
      refine z_pushJ gp_67_11 ?_
      refine z_putI (y := 3) gi_67_12 rfl gk_46 ?_
      refine z_vret gi_67_15 gr_67 ?_
      show zW _ _ _ _ _ _ _ _ _ _
      refine z_pushJ gp_136_52 ?_
      refine z_iret gi_136_53 gr_136 ?_
      refine ⟨_, rfl, ?_⟩
      show zW _ _ _ _ [some (.ref 50), some (zi 4), some (zi b)] _ _ _ _ _
      refine z_iload1 gi_249_0 ?_
      refine z_cS1 gi_249_1 (Nat.le_of_ble_eq_true rfl) gc_248_I ?_
      refine z_iload0 gi_248_0 ?_
      refine z_pushJ gp_248_1 ?_
      refine z_pushJ gp_248_2 ?_
      refine z_cS3 gi_248_3 (Nat.le_of_ble_eq_true rfl) gc_148_III ?_
      refine z_iload0 gi_148_0 ?_
      refine z_iload1 gi_148_1 ?_
      refine z_icmp_ltF gi_148_2 zr_4 zr_0 (by decide) ?_
      refine z_iload0 gi_148_5 ?_
      refine z_iload2 gi_148_6 ?_
      refine z_icmp_gtF gi_148_7 zr_4 zr_5 (by decide) ?_
      refine z_pushJ gp_148_10 ?_
      refine z_goto gi_148_11 ?_
      refine z_bret1 gi_148_15 gr_148 ?_
      show zW _ _ _ _ _ _ _ _ _ _
      refine z_bret1 gi_248_6 gr_248 ?_
      show zW _ _ _ _ _ _ _ _ _ _
      refine z_if_eqF gi_249_4 zr_1 (by decide) ?_
      refine z_iload2 gi_249_7 ?_
      refine z_pushJ gp_249_8 ?_
      refine z_icmp_eq gi_249_9 (by omega) zrn_1 (fun h3 => ?_) (fun h3 => ?_)
      · refine z_aload0 gi_249_22 ?_
        refine z_getR (r := 83) gi_249_23 gk_50 (hRr _ rm_50_58 (by decide)) ?_
        refine z_iload1 gi_249_26 ?_
        refine z_iload2 gi_249_27 ?_
        refine z_iast (e := b) gi_249_28 gk_83 (by decide) (by decide) rfl ?_
        refine z_pushJ gp_249_29 ?_
        refine z_iret gi_249_30 gr_249 ?_
        refine ⟨?_, ?_⟩
        · first | rfl | exact congrArg (fun v => some (zi v)) (by omega) | (exfalso; omega)
        · have hk := (zK_x (a := 83) (x := 4) (v := b) (zK_x (a := 46) (x := 3) (v := 0) (zK_x (a := 46) (x := 1) (v := b) (zK_x (a := 46) (x := 0) (v := 1) (zK_r (k := (kL [] [(46, 0), (46, 1), (46, 3), (83, 4)])) (A := J)) rfl) rfl) rfl) rfl)
          exact ⟨hR, hG, RelY_k hk (by repeat' constructor) (fun p => by repeat' constructor) hY, RelD_k hk (by repeat' constructor) (fun p => by repeat' constructor) hD, RelP_k hk (by repeat' constructor) (fun p => by repeat' constructor) hP, RelC_k hk (by repeat' constructor) (fun p => by repeat' constructor) hC, RelA_k hk (by repeat' constructor) (fun p => by repeat' constructor) hAc, (RelS_one (J := J) (M := M) (c := 4) (fun t t1 t2 te => by have q : t = 0 ∨ t = 1 ∨ t = 2 ∨ t = 3 ∨ t = 4 ∨ t = 5 := (by omega); rcases q with rfl | rfl | rfl | rfl | rfl | rfl <;> first | exact absurd rfl te | exact ⟨fun j => rfl, rfl, rfl⟩) (fun t t1 t2 te => ⟨fun j => rfl, fun j j1 j2 => rfl⟩) rfl (show RelS1 _ _ _ from ⟨rfl, (show (0 : Int) ≤ 1 ∧ (1 : Int) ≤ 2 from by decide), (hS 4 (by decide) (by decide)).2.2.1, (show (0 : Int) ≤ 0 ∧ (0 : Int) ≤ 60 from by decide), fun _ => (show 0 ≤ b ∧ b < J 34 1 from by omega), fun h => absurd (show (1 : Int) = 2 from h) (by decide)⟩) hS), RelT_k hk (by repeat' constructor) (fun p => by repeat' constructor) hTp, RelX_k hk (by repeat' constructor) (fun p => by repeat' constructor) hX, RelW_k hk ⟨rfl, rfl⟩ trivial hW⟩
      · refine z_aload0 gi_249_12 ?_
        refine z_iload2 gi_249_13 ?_
        refine z_cV1 gi_249_14 gk_50 go_230 (Nat.le_of_ble_eq_true rfl) gc_230_RI ?_
        refine z_iload1 gi_230_0 ?_
        refine z_pushJ gp_230_1 ?_
        refine z_aload0 gi_230_2 ?_
        refine z_getI (v := J 50 54) gi_230_3 gk_50 ((zU_n (by decide)).trans ((zU_n (by decide)).trans ((zU_n (by decide)).trans (rfl)))) ?_
        refine z_pushJ gp_230_6 ?_
        refine z_isub (e := (J 50 54) - 1) gi_230_7 rfl ?_
        refine z_cS3 gi_230_8 (Nat.le_of_ble_eq_true rfl) gc_148_III ?_
        refine z_iload0 gi_148_0 ?_
        refine z_iload1 gi_148_1 ?_
        refine z_icmp_lt gi_148_2 (by omega) zr_0 (fun h4 => ?_) (fun h4 => ?_)
        · refine z_pushJ gp_148_14 ?_
          refine z_bret0 gi_148_15 gr_148 ?_
          show zW _ _ _ _ _ _ _ _ _ _
          refine z_bret0 gi_230_11 gr_230 ?_
          show zW _ _ _ _ _ _ _ _ _ _
          refine z_if_neF gi_249_17 zr_0 (by decide) ?_
          refine z_pushJ gp_249_20 ?_
          refine z_iret gi_249_21 gr_249 ?_
          refine ⟨?_, ?_⟩
          · first | rfl | exact congrArg (fun v => some (zi v)) (by omega) | (exfalso; omega)
          · exfalso
            omega
        · refine z_iload0 gi_148_5 ?_
          refine z_iload2 gi_148_6 ?_
          refine z_icmp_gt gi_148_7 (by omega) (by omega) (fun h5 => ?_) (fun h5 => ?_)
          · refine z_pushJ gp_148_14 ?_
            refine z_bret0 gi_148_15 gr_148 ?_
            show zW _ _ _ _ _ _ _ _ _ _
            refine z_bret0 gi_230_11 gr_230 ?_
            show zW _ _ _ _ _ _ _ _ _ _
            refine z_if_neF gi_249_17 zr_0 (by decide) ?_
            refine z_pushJ gp_249_20 ?_
            refine z_iret gi_249_21 gr_249 ?_
            refine ⟨?_, ?_⟩
            · first | rfl | exact congrArg (fun v => some (zi v)) (by omega) | (exfalso; omega)
            · exfalso
              omega
          · refine z_pushJ gp_148_10 ?_
            refine z_goto gi_148_11 ?_
            refine z_bret1 gi_148_15 gr_148 ?_
            show zW _ _ _ _ _ _ _ _ _ _
            refine z_bret1 gi_230_11 gr_230 ?_
            show zW _ _ _ _ _ _ _ _ _ _
            refine z_if_neT gi_249_17 zr_1 (by decide) ?_
            refine z_aload0 gi_249_22 ?_
            refine z_getR (r := 83) gi_249_23 gk_50 (hRr _ rm_50_58 (by decide)) ?_
            refine z_iload1 gi_249_26 ?_
            refine z_iload2 gi_249_27 ?_
            refine z_iast (e := b) gi_249_28 gk_83 (by decide) (by decide) rfl ?_
            refine z_pushJ gp_249_29 ?_
            refine z_iret gi_249_30 gr_249 ?_
            refine ⟨?_, ?_⟩
            · first | rfl | exact congrArg (fun v => some (zi v)) (by omega) | (exfalso; omega)
            · have hk := (zK_x (a := 83) (x := 4) (v := b) (zK_x (a := 46) (x := 3) (v := 0) (zK_x (a := 46) (x := 1) (v := b) (zK_x (a := 46) (x := 0) (v := 1) (zK_r (k := (kL [] [(46, 0), (46, 1), (46, 3), (83, 4)])) (A := J)) rfl) rfl) rfl) rfl)
              exact ⟨hR, hG, RelY_k hk (by repeat' constructor) (fun p => by repeat' constructor) hY, RelD_k hk (by repeat' constructor) (fun p => by repeat' constructor) hD, RelP_k hk (by repeat' constructor) (fun p => by repeat' constructor) hP, RelC_k hk (by repeat' constructor) (fun p => by repeat' constructor) hC, RelA_k hk (by repeat' constructor) (fun p => by repeat' constructor) hAc, (RelS_one (J := J) (M := M) (c := 4) (fun t t1 t2 te => by have q : t = 0 ∨ t = 1 ∨ t = 2 ∨ t = 3 ∨ t = 4 ∨ t = 5 := (by omega); rcases q with rfl | rfl | rfl | rfl | rfl | rfl <;> first | exact absurd rfl te | exact ⟨fun j => rfl, rfl, rfl⟩) (fun t t1 t2 te => ⟨fun j => rfl, fun j j1 j2 => rfl⟩) rfl (show RelS1 _ _ _ from ⟨rfl, (show (0 : Int) ≤ 1 ∧ (1 : Int) ≤ 2 from by decide), (hS 4 (by decide) (by decide)).2.2.1, (show (0 : Int) ≤ 0 ∧ (0 : Int) ≤ 60 from by decide), fun _ => (show 0 ≤ b ∧ b < J 34 1 from by omega), fun h => absurd (show (1 : Int) = 2 from h) (by decide)⟩) hS), RelT_k hk (by repeat' constructor) (fun p => by repeat' constructor) hTp, RelX_k hk (by repeat' constructor) (fun p => by repeat' constructor) hX, RelW_k hk ⟨rfl, rfl⟩ trivial hW⟩
    · refine z_aload0 gi_136_30 ?_
      refine z_getR (r := 37) gi_136_31 gk_0 (hR _ rm_0_11) ?_
      refine z_iload1 gi_136_34 ?_
      refine z_aald (r := 46) gi_136_35 rfl (by decide) (by decide) (hR _ rm_37_4) ?_
      refine z_cV0 gi_136_36 gk_46 go_66 (Nat.le_of_ble_eq_true rfl) gc_66_R ?_
      refine z_aload0 gi_66_0 ?_
      refine z_pushJ gp_66_1 ?_
      refine z_putI (y := 0) gi_66_2 rfl gk_46 ?_
      refine z_aload0 gi_66_5 ?_
      refine z_pushJ gp_66_6 ?_
      refine z_putI (y := 3) gi_66_7 rfl gk_46 ?_
      refine z_vret gi_66_10 gr_66 ?_
      show zW _ _ _ _ _ _ _ _ _ _
      refine z_goto gi_136_39 ?_
      refine z_pushJ gp_136_52 ?_
      refine z_iret gi_136_53 gr_136 ?_
      refine ⟨_, rfl, ?_⟩
      show zW _ _ _ _ [some (.ref 50), some (zi 4), some (zi b)] _ _ _ _ _
      refine z_iload1 gi_249_0 ?_
      refine z_cS1 gi_249_1 (Nat.le_of_ble_eq_true rfl) gc_248_I ?_
      refine z_iload0 gi_248_0 ?_
      refine z_pushJ gp_248_1 ?_
      refine z_pushJ gp_248_2 ?_
      refine z_cS3 gi_248_3 (Nat.le_of_ble_eq_true rfl) gc_148_III ?_
      refine z_iload0 gi_148_0 ?_
      refine z_iload1 gi_148_1 ?_
      refine z_icmp_ltF gi_148_2 zr_4 zr_0 (by decide) ?_
      refine z_iload0 gi_148_5 ?_
      refine z_iload2 gi_148_6 ?_
      refine z_icmp_gtF gi_148_7 zr_4 zr_5 (by decide) ?_
      refine z_pushJ gp_148_10 ?_
      refine z_goto gi_148_11 ?_
      refine z_bret1 gi_148_15 gr_148 ?_
      show zW _ _ _ _ _ _ _ _ _ _
      refine z_bret1 gi_248_6 gr_248 ?_
      show zW _ _ _ _ _ _ _ _ _ _
      refine z_if_eqF gi_249_4 zr_1 (by decide) ?_
      refine z_iload2 gi_249_7 ?_
      refine z_pushJ gp_249_8 ?_
      refine z_icmp_eq gi_249_9 (by omega) zrn_1 (fun h3 => ?_) (fun h3 => ?_)
      · refine z_aload0 gi_249_22 ?_
        refine z_getR (r := 83) gi_249_23 gk_50 (hRr _ rm_50_58 (by decide)) ?_
        refine z_iload1 gi_249_26 ?_
        refine z_iload2 gi_249_27 ?_
        refine z_iast (e := b) gi_249_28 gk_83 (by decide) (by decide) rfl ?_
        refine z_pushJ gp_249_29 ?_
        refine z_iret gi_249_30 gr_249 ?_
        refine ⟨?_, ?_⟩
        · first | rfl | exact congrArg (fun v => some (zi v)) (by omega) | (exfalso; omega)
        · have hk := (zK_x (a := 83) (x := 4) (v := b) (zK_x (a := 46) (x := 3) (v := 0) (zK_x (a := 46) (x := 0) (v := 0) (zK_r (k := (kL [] [(46, 0), (46, 3), (83, 4)])) (A := J)) rfl) rfl) rfl)
          exact ⟨hR, hG, RelY_k hk (by repeat' constructor) (fun p => by repeat' constructor) hY, RelD_k hk (by repeat' constructor) (fun p => by repeat' constructor) hD, RelP_k hk (by repeat' constructor) (fun p => by repeat' constructor) hP, RelC_k hk (by repeat' constructor) (fun p => by repeat' constructor) hC, RelA_k hk (by repeat' constructor) (fun p => by repeat' constructor) hAc, (RelS_one (J := J) (M := M) (c := 4) (fun t t1 t2 te => by have q : t = 0 ∨ t = 1 ∨ t = 2 ∨ t = 3 ∨ t = 4 ∨ t = 5 := (by omega); rcases q with rfl | rfl | rfl | rfl | rfl | rfl <;> first | exact absurd rfl te | exact ⟨fun j => rfl, rfl, rfl⟩) (fun t t1 t2 te => ⟨fun j => rfl, fun j j1 j2 => rfl⟩) rfl (show RelS1 _ _ _ from ⟨(show (-1 : Int) = b from by omega), (show (0 : Int) ≤ 0 ∧ (0 : Int) ≤ 2 from by decide), (hS 4 (by decide) (by decide)).2.2.1, (show (0 : Int) ≤ 0 ∧ (0 : Int) ≤ 60 from by decide), fun h => absurd (show (0 : Int) = 1 from h) (by decide), fun h => absurd (show (0 : Int) = 2 from h) (by decide)⟩) hS), RelT_k hk (by repeat' constructor) (fun p => by repeat' constructor) hTp, RelX_k hk (by repeat' constructor) (fun p => by repeat' constructor) hX, RelW_k hk ⟨rfl, rfl⟩ trivial hW⟩
      · refine z_aload0 gi_249_12 ?_
        refine z_iload2 gi_249_13 ?_
        refine z_cV1 gi_249_14 gk_50 go_230 (Nat.le_of_ble_eq_true rfl) gc_230_RI ?_
        refine z_iload1 gi_230_0 ?_
        refine z_pushJ gp_230_1 ?_
        refine z_aload0 gi_230_2 ?_
        refine z_getI (v := J 50 54) gi_230_3 gk_50 ((zU_n (by decide)).trans ((zU_n (by decide)).trans (rfl))) ?_
        refine z_pushJ gp_230_6 ?_
        refine z_isub (e := (J 50 54) - 1) gi_230_7 rfl ?_
        refine z_cS3 gi_230_8 (Nat.le_of_ble_eq_true rfl) gc_148_III ?_
        refine z_iload0 gi_148_0 ?_
        refine z_iload1 gi_148_1 ?_
        refine z_icmp_lt gi_148_2 (by omega) zr_0 (fun h4 => ?_) (fun h4 => ?_)
        · refine z_pushJ gp_148_14 ?_
          refine z_bret0 gi_148_15 gr_148 ?_
          show zW _ _ _ _ _ _ _ _ _ _
          refine z_bret0 gi_230_11 gr_230 ?_
          show zW _ _ _ _ _ _ _ _ _ _
          refine z_if_neF gi_249_17 zr_0 (by decide) ?_
          refine z_pushJ gp_249_20 ?_
          refine z_iret gi_249_21 gr_249 ?_
          refine ⟨?_, ?_⟩
          · first | rfl | exact congrArg (fun v => some (zi v)) (by omega) | (exfalso; omega)
          · exfalso
            omega
        · refine z_iload0 gi_148_5 ?_
          refine z_iload2 gi_148_6 ?_
          refine z_icmp_gt gi_148_7 (by omega) (by omega) (fun h5 => ?_) (fun h5 => ?_)
          · refine z_pushJ gp_148_14 ?_
            refine z_bret0 gi_148_15 gr_148 ?_
            show zW _ _ _ _ _ _ _ _ _ _
            refine z_bret0 gi_230_11 gr_230 ?_
            show zW _ _ _ _ _ _ _ _ _ _
            refine z_if_neF gi_249_17 zr_0 (by decide) ?_
            refine z_pushJ gp_249_20 ?_
            refine z_iret gi_249_21 gr_249 ?_
            refine ⟨?_, ?_⟩
            · first | rfl | exact congrArg (fun v => some (zi v)) (by omega) | (exfalso; omega)
            · exfalso
              omega
          · refine z_pushJ gp_148_10 ?_
            refine z_goto gi_148_11 ?_
            refine z_bret1 gi_148_15 gr_148 ?_
            show zW _ _ _ _ _ _ _ _ _ _
            refine z_bret1 gi_230_11 gr_230 ?_
            show zW _ _ _ _ _ _ _ _ _ _
            refine z_if_neT gi_249_17 zr_1 (by decide) ?_
            refine z_aload0 gi_249_22 ?_
            refine z_getR (r := 83) gi_249_23 gk_50 (hRr _ rm_50_58 (by decide)) ?_
            refine z_iload1 gi_249_26 ?_
            refine z_iload2 gi_249_27 ?_
            refine z_iast (e := b) gi_249_28 gk_83 (by decide) (by decide) rfl ?_
            refine z_pushJ gp_249_29 ?_
            refine z_iret gi_249_30 gr_249 ?_
            refine ⟨?_, ?_⟩
            · first | rfl | exact congrArg (fun v => some (zi v)) (by omega) | (exfalso; omega)
            · have hk := (zK_x (a := 83) (x := 4) (v := b) (zK_x (a := 46) (x := 3) (v := 0) (zK_x (a := 46) (x := 0) (v := 0) (zK_r (k := (kL [] [(46, 0), (46, 3), (83, 4)])) (A := J)) rfl) rfl) rfl)
              exact ⟨hR, hG, RelY_k hk (by repeat' constructor) (fun p => by repeat' constructor) hY, RelD_k hk (by repeat' constructor) (fun p => by repeat' constructor) hD, RelP_k hk (by repeat' constructor) (fun p => by repeat' constructor) hP, RelC_k hk (by repeat' constructor) (fun p => by repeat' constructor) hC, RelA_k hk (by repeat' constructor) (fun p => by repeat' constructor) hAc, (RelS_one (J := J) (M := M) (c := 4) (fun t t1 t2 te => by have q : t = 0 ∨ t = 1 ∨ t = 2 ∨ t = 3 ∨ t = 4 ∨ t = 5 := (by omega); rcases q with rfl | rfl | rfl | rfl | rfl | rfl <;> first | exact absurd rfl te | exact ⟨fun j => rfl, rfl, rfl⟩) (fun t t1 t2 te => ⟨fun j => rfl, fun j j1 j2 => rfl⟩) rfl (show RelS1 _ _ _ from ⟨(show (-1 : Int) = b from by omega), (show (0 : Int) ≤ 0 ∧ (0 : Int) ≤ 2 from by decide), (hS 4 (by decide) (by decide)).2.2.1, (show (0 : Int) ≤ 0 ∧ (0 : Int) ≤ 60 from by decide), fun h => absurd (show (0 : Int) = 1 from h) (by decide), fun h => absurd (show (0 : Int) = 2 from h) (by decide)⟩) hS), RelT_k hk (by repeat' constructor) (fun p => by repeat' constructor) hTp, RelX_k hk (by repeat' constructor) (fun p => by repeat' constructor) hX, RelW_k hk ⟨rfl, rfl⟩ trivial hW⟩
  · refine z_aload0 gi_136_12 ?_
    refine z_getR (r := 34) gi_136_13 gk_0 (hR _ rm_0_10) ?_
    refine z_iload2 gi_136_16 ?_
    refine z_cV1 gi_136_17 gk_34 go_3 (Nat.le_of_ble_eq_true rfl) gc_3_RI ?_
    refine z_iload1 gi_3_0 ?_
    refine z_if_lt gi_3_1 (by omega) (fun h3 => ?_) (fun h3 => ?_)
    · refine z_pushJ gp_3_16 ?_
      refine z_bret0 gi_3_17 gr_3 ?_
      show zW _ _ _ _ _ _ _ _ _ _
      refine z_if_neF gi_136_20 zr_0 (by decide) ?_
      refine z_pushJ gp_136_23 ?_
      refine z_iret gi_136_24 gr_136 ?_
      refine ⟨_, rfl, ?_⟩
      show zW _ _ _ _ [some (.ref 50), some (zi 4), some (zi b)] _ _ _ _ _
      refine z_iload1 gi_249_0 ?_
      refine z_cS1 gi_249_1 (Nat.le_of_ble_eq_true rfl) gc_248_I ?_
      refine z_iload0 gi_248_0 ?_
      refine z_pushJ gp_248_1 ?_
      refine z_pushJ gp_248_2 ?_
      refine z_cS3 gi_248_3 (Nat.le_of_ble_eq_true rfl) gc_148_III ?_
      refine z_iload0 gi_148_0 ?_
      refine z_iload1 gi_148_1 ?_
      refine z_icmp_ltF gi_148_2 zr_4 zr_0 (by decide) ?_
      refine z_iload0 gi_148_5 ?_
      refine z_iload2 gi_148_6 ?_
      refine z_icmp_gtF gi_148_7 zr_4 zr_5 (by decide) ?_
      refine z_pushJ gp_148_10 ?_
      refine z_goto gi_148_11 ?_
      refine z_bret1 gi_148_15 gr_148 ?_
      show zW _ _ _ _ _ _ _ _ _ _
      refine z_bret1 gi_248_6 gr_248 ?_
      show zW _ _ _ _ _ _ _ _ _ _
      refine z_if_eqF gi_249_4 zr_1 (by decide) ?_
      refine z_iload2 gi_249_7 ?_
      refine z_pushJ gp_249_8 ?_
      refine z_icmp_eq gi_249_9 (by omega) zrn_1 (fun h4 => ?_) (fun h4 => ?_)
      · refine z_aload0 gi_249_22 ?_
        refine z_getR (r := 83) gi_249_23 gk_50 (hRr _ rm_50_58 (by decide)) ?_
        refine z_iload1 gi_249_26 ?_
        refine z_iload2 gi_249_27 ?_
        refine z_iast (e := b) gi_249_28 gk_83 (by decide) (by decide) rfl ?_
        refine z_pushJ gp_249_29 ?_
        refine z_iret gi_249_30 gr_249 ?_
        refine ⟨?_, ?_⟩
        · first | rfl | exact congrArg (fun v => some (zi v)) (by omega) | (exfalso; omega)
        · exfalso
          omega
      · refine z_aload0 gi_249_12 ?_
        refine z_iload2 gi_249_13 ?_
        refine z_cV1 gi_249_14 gk_50 go_230 (Nat.le_of_ble_eq_true rfl) gc_230_RI ?_
        refine z_iload1 gi_230_0 ?_
        refine z_pushJ gp_230_1 ?_
        refine z_aload0 gi_230_2 ?_
        refine z_getI (v := J 50 54) gi_230_3 gk_50 (rfl) ?_
        refine z_pushJ gp_230_6 ?_
        refine z_isub (e := (J 50 54) - 1) gi_230_7 rfl ?_
        refine z_cS3 gi_230_8 (Nat.le_of_ble_eq_true rfl) gc_148_III ?_
        refine z_iload0 gi_148_0 ?_
        refine z_iload1 gi_148_1 ?_
        refine z_icmp_lt gi_148_2 (by omega) zr_0 (fun h5 => ?_) (fun h5 => ?_)
        · refine z_pushJ gp_148_14 ?_
          refine z_bret0 gi_148_15 gr_148 ?_
          show zW _ _ _ _ _ _ _ _ _ _
          refine z_bret0 gi_230_11 gr_230 ?_
          show zW _ _ _ _ _ _ _ _ _ _
          refine z_if_neF gi_249_17 zr_0 (by decide) ?_
          refine z_pushJ gp_249_20 ?_
          refine z_iret gi_249_21 gr_249 ?_
          refine ⟨?_, ?_⟩
          · first | rfl | exact congrArg (fun v => some (zi v)) (by omega) | (exfalso; omega)
          · exact hr
        · refine z_iload0 gi_148_5 ?_
          refine z_iload2 gi_148_6 ?_
          refine z_icmp_gt gi_148_7 (by omega) (by omega) (fun h6 => ?_) (fun h6 => ?_)
          · refine z_pushJ gp_148_14 ?_
            refine z_bret0 gi_148_15 gr_148 ?_
            show zW _ _ _ _ _ _ _ _ _ _
            refine z_bret0 gi_230_11 gr_230 ?_
            show zW _ _ _ _ _ _ _ _ _ _
            refine z_if_neF gi_249_17 zr_0 (by decide) ?_
            refine z_pushJ gp_249_20 ?_
            refine z_iret gi_249_21 gr_249 ?_
            refine ⟨?_, ?_⟩
            · first | rfl | exact congrArg (fun v => some (zi v)) (by omega) | (exfalso; omega)
            · exact hr
          · refine z_pushJ gp_148_10 ?_
            refine z_goto gi_148_11 ?_
            refine z_bret1 gi_148_15 gr_148 ?_
            show zW _ _ _ _ _ _ _ _ _ _
            refine z_bret1 gi_230_11 gr_230 ?_
            show zW _ _ _ _ _ _ _ _ _ _
            refine z_if_neT gi_249_17 zr_1 (by decide) ?_
            refine z_aload0 gi_249_22 ?_
            refine z_getR (r := 83) gi_249_23 gk_50 (hRr _ rm_50_58 (by decide)) ?_
            refine z_iload1 gi_249_26 ?_
            refine z_iload2 gi_249_27 ?_
            refine z_iast (e := b) gi_249_28 gk_83 (by decide) (by decide) rfl ?_
            refine z_pushJ gp_249_29 ?_
            refine z_iret gi_249_30 gr_249 ?_
            refine ⟨?_, ?_⟩
            · first | rfl | exact congrArg (fun v => some (zi v)) (by omega) | (exfalso; omega)
            · exfalso
              omega
    · refine z_iload1 gi_3_4 ?_
      refine z_aload0 gi_3_5 ?_
      refine z_getI (v := J 34 1) gi_3_6 gk_34 (rfl) ?_
      refine z_icmp_ge gi_3_9 (by omega) (by omega) (fun h4 => ?_) (fun h4 => ?_)
      · refine z_pushJ gp_3_16 ?_
        refine z_bret0 gi_3_17 gr_3 ?_
        show zW _ _ _ _ _ _ _ _ _ _
        refine z_if_neF gi_136_20 zr_0 (by decide) ?_
        refine z_pushJ gp_136_23 ?_
        refine z_iret gi_136_24 gr_136 ?_
        refine ⟨_, rfl, ?_⟩
        show zW _ _ _ _ [some (.ref 50), some (zi 4), some (zi b)] _ _ _ _ _
        refine z_iload1 gi_249_0 ?_
        refine z_cS1 gi_249_1 (Nat.le_of_ble_eq_true rfl) gc_248_I ?_
        refine z_iload0 gi_248_0 ?_
        refine z_pushJ gp_248_1 ?_
        refine z_pushJ gp_248_2 ?_
        refine z_cS3 gi_248_3 (Nat.le_of_ble_eq_true rfl) gc_148_III ?_
        refine z_iload0 gi_148_0 ?_
        refine z_iload1 gi_148_1 ?_
        refine z_icmp_ltF gi_148_2 zr_4 zr_0 (by decide) ?_
        refine z_iload0 gi_148_5 ?_
        refine z_iload2 gi_148_6 ?_
        refine z_icmp_gtF gi_148_7 zr_4 zr_5 (by decide) ?_
        refine z_pushJ gp_148_10 ?_
        refine z_goto gi_148_11 ?_
        refine z_bret1 gi_148_15 gr_148 ?_
        show zW _ _ _ _ _ _ _ _ _ _
        refine z_bret1 gi_248_6 gr_248 ?_
        show zW _ _ _ _ _ _ _ _ _ _
        refine z_if_eqF gi_249_4 zr_1 (by decide) ?_
        refine z_iload2 gi_249_7 ?_
        refine z_pushJ gp_249_8 ?_
        refine z_icmp_eq gi_249_9 (by omega) zrn_1 (fun h5 => ?_) (fun h5 => ?_)
        · refine z_aload0 gi_249_22 ?_
          refine z_getR (r := 83) gi_249_23 gk_50 (hRr _ rm_50_58 (by decide)) ?_
          refine z_iload1 gi_249_26 ?_
          refine z_iload2 gi_249_27 ?_
          refine z_iast (e := b) gi_249_28 gk_83 (by decide) (by decide) rfl ?_
          refine z_pushJ gp_249_29 ?_
          refine z_iret gi_249_30 gr_249 ?_
          refine ⟨?_, ?_⟩
          · first | rfl | exact congrArg (fun v => some (zi v)) (by omega) | (exfalso; omega)
          · exfalso
            omega
        · refine z_aload0 gi_249_12 ?_
          refine z_iload2 gi_249_13 ?_
          refine z_cV1 gi_249_14 gk_50 go_230 (Nat.le_of_ble_eq_true rfl) gc_230_RI ?_
          refine z_iload1 gi_230_0 ?_
          refine z_pushJ gp_230_1 ?_
          refine z_aload0 gi_230_2 ?_
          refine z_getI (v := J 50 54) gi_230_3 gk_50 (rfl) ?_
          refine z_pushJ gp_230_6 ?_
          refine z_isub (e := (J 50 54) - 1) gi_230_7 rfl ?_
          refine z_cS3 gi_230_8 (Nat.le_of_ble_eq_true rfl) gc_148_III ?_
          refine z_iload0 gi_148_0 ?_
          refine z_iload1 gi_148_1 ?_
          refine z_icmp_lt gi_148_2 (by omega) zr_0 (fun h6 => ?_) (fun h6 => ?_)
          · refine z_pushJ gp_148_14 ?_
            refine z_bret0 gi_148_15 gr_148 ?_
            show zW _ _ _ _ _ _ _ _ _ _
            refine z_bret0 gi_230_11 gr_230 ?_
            show zW _ _ _ _ _ _ _ _ _ _
            refine z_if_neF gi_249_17 zr_0 (by decide) ?_
            refine z_pushJ gp_249_20 ?_
            refine z_iret gi_249_21 gr_249 ?_
            refine ⟨?_, ?_⟩
            · first | rfl | exact congrArg (fun v => some (zi v)) (by omega) | (exfalso; omega)
            · exact hr
          · refine z_iload0 gi_148_5 ?_
            refine z_iload2 gi_148_6 ?_
            refine z_icmp_gt gi_148_7 (by omega) (by omega) (fun h7 => ?_) (fun h7 => ?_)
            · refine z_pushJ gp_148_14 ?_
              refine z_bret0 gi_148_15 gr_148 ?_
              show zW _ _ _ _ _ _ _ _ _ _
              refine z_bret0 gi_230_11 gr_230 ?_
              show zW _ _ _ _ _ _ _ _ _ _
              refine z_if_neF gi_249_17 zr_0 (by decide) ?_
              refine z_pushJ gp_249_20 ?_
              refine z_iret gi_249_21 gr_249 ?_
              refine ⟨?_, ?_⟩
              · first | rfl | exact congrArg (fun v => some (zi v)) (by omega) | (exfalso; omega)
              · exact hr
            · refine z_pushJ gp_148_10 ?_
              refine z_goto gi_148_11 ?_
              refine z_bret1 gi_148_15 gr_148 ?_
              show zW _ _ _ _ _ _ _ _ _ _
              refine z_bret1 gi_230_11 gr_230 ?_
              show zW _ _ _ _ _ _ _ _ _ _
              refine z_if_neT gi_249_17 zr_1 (by decide) ?_
              refine z_aload0 gi_249_22 ?_
              refine z_getR (r := 83) gi_249_23 gk_50 (hRr _ rm_50_58 (by decide)) ?_
              refine z_iload1 gi_249_26 ?_
              refine z_iload2 gi_249_27 ?_
              refine z_iast (e := b) gi_249_28 gk_83 (by decide) (by decide) rfl ?_
              refine z_pushJ gp_249_29 ?_
              refine z_iret gi_249_30 gr_249 ?_
              refine ⟨?_, ?_⟩
              · first | rfl | exact congrArg (fun v => some (zi v)) (by omega) | (exfalso; omega)
              · exfalso
                omega
      · refine z_pushJ gp_3_12 ?_
        refine z_goto gi_3_13 ?_
        refine z_bret1 gi_3_17 gr_3 ?_
        show zW _ _ _ _ _ _ _ _ _ _
        refine z_if_neT gi_136_20 zr_1 (by decide) ?_
        refine z_iload2 gi_136_25 ?_
        refine z_pushJ gp_136_26 ?_
        refine z_icmp_ne gi_136_27 (by omega) zrn_1 (fun h5 => ?_) (fun h5 => ?_)
        · refine z_aload0 gi_136_42 ?_
          refine z_getR (r := 37) gi_136_43 gk_0 (hR _ rm_0_11) ?_
          refine z_iload1 gi_136_46 ?_
          refine z_aald (r := 46) gi_136_47 rfl (by decide) (by decide) (hR _ rm_37_4) ?_
          refine z_iload2 gi_136_48 ?_
          refine z_cV1 gi_136_49 gk_46 go_67 (Nat.le_of_ble_eq_true rfl) gc_67_RI ?_
          refine z_aload0 gi_67_0 ?_
          refine z_pushJ gp_67_1 ?_
          refine z_putI (y := 0) gi_67_2 rfl gk_46 ?_
          refine z_aload0 gi_67_5 ?_
          refine z_iload1 gi_67_6 ?_
          refine z_putI (y := 1) gi_67_7 rfl gk_46 ?_
          refine z_aload0 gi_67_10 ?_
          refine z_pushJ gp_67_11 ?_
          refine z_putI (y := 3) gi_67_12 rfl gk_46 ?_
          refine z_vret gi_67_15 gr_67 ?_
          show zW _ _ _ _ _ _ _ _ _ _
          refine z_pushJ gp_136_52 ?_
          refine z_iret gi_136_53 gr_136 ?_
          refine ⟨_, rfl, ?_⟩
          show zW _ _ _ _ [some (.ref 50), some (zi 4), some (zi b)] _ _ _ _ _
          refine z_iload1 gi_249_0 ?_
          refine z_cS1 gi_249_1 (Nat.le_of_ble_eq_true rfl) gc_248_I ?_
          refine z_iload0 gi_248_0 ?_
          refine z_pushJ gp_248_1 ?_
          refine z_pushJ gp_248_2 ?_
          refine z_cS3 gi_248_3 (Nat.le_of_ble_eq_true rfl) gc_148_III ?_
          refine z_iload0 gi_148_0 ?_
          refine z_iload1 gi_148_1 ?_
          refine z_icmp_ltF gi_148_2 zr_4 zr_0 (by decide) ?_
          refine z_iload0 gi_148_5 ?_
          refine z_iload2 gi_148_6 ?_
          refine z_icmp_gtF gi_148_7 zr_4 zr_5 (by decide) ?_
          refine z_pushJ gp_148_10 ?_
          refine z_goto gi_148_11 ?_
          refine z_bret1 gi_148_15 gr_148 ?_
          show zW _ _ _ _ _ _ _ _ _ _
          refine z_bret1 gi_248_6 gr_248 ?_
          show zW _ _ _ _ _ _ _ _ _ _
          refine z_if_eqF gi_249_4 zr_1 (by decide) ?_
          refine z_iload2 gi_249_7 ?_
          refine z_pushJ gp_249_8 ?_
          refine z_icmp_eq gi_249_9 (by omega) zrn_1 (fun h6 => ?_) (fun h6 => ?_)
          · refine z_aload0 gi_249_22 ?_
            refine z_getR (r := 83) gi_249_23 gk_50 (hRr _ rm_50_58 (by decide)) ?_
            refine z_iload1 gi_249_26 ?_
            refine z_iload2 gi_249_27 ?_
            refine z_iast (e := b) gi_249_28 gk_83 (by decide) (by decide) rfl ?_
            refine z_pushJ gp_249_29 ?_
            refine z_iret gi_249_30 gr_249 ?_
            refine ⟨?_, ?_⟩
            · first | rfl | exact congrArg (fun v => some (zi v)) (by omega) | (exfalso; omega)
            · have hk := (zK_x (a := 83) (x := 4) (v := b) (zK_x (a := 46) (x := 3) (v := 0) (zK_x (a := 46) (x := 1) (v := b) (zK_x (a := 46) (x := 0) (v := 1) (zK_r (k := (kL [] [(46, 0), (46, 1), (46, 3), (83, 4)])) (A := J)) rfl) rfl) rfl) rfl)
              exact ⟨hR, hG, RelY_k hk (by repeat' constructor) (fun p => by repeat' constructor) hY, RelD_k hk (by repeat' constructor) (fun p => by repeat' constructor) hD, RelP_k hk (by repeat' constructor) (fun p => by repeat' constructor) hP, RelC_k hk (by repeat' constructor) (fun p => by repeat' constructor) hC, RelA_k hk (by repeat' constructor) (fun p => by repeat' constructor) hAc, (RelS_one (J := J) (M := M) (c := 4) (fun t t1 t2 te => by have q : t = 0 ∨ t = 1 ∨ t = 2 ∨ t = 3 ∨ t = 4 ∨ t = 5 := (by omega); rcases q with rfl | rfl | rfl | rfl | rfl | rfl <;> first | exact absurd rfl te | exact ⟨fun j => rfl, rfl, rfl⟩) (fun t t1 t2 te => ⟨fun j => rfl, fun j j1 j2 => rfl⟩) rfl (show RelS1 _ _ _ from ⟨rfl, (show (0 : Int) ≤ 1 ∧ (1 : Int) ≤ 2 from by decide), (hS 4 (by decide) (by decide)).2.2.1, (show (0 : Int) ≤ 0 ∧ (0 : Int) ≤ 60 from by decide), fun _ => (show 0 ≤ b ∧ b < J 34 1 from by omega), fun h => absurd (show (1 : Int) = 2 from h) (by decide)⟩) hS), RelT_k hk (by repeat' constructor) (fun p => by repeat' constructor) hTp, RelX_k hk (by repeat' constructor) (fun p => by repeat' constructor) hX, RelW_k hk ⟨rfl, rfl⟩ trivial hW⟩
          · refine z_aload0 gi_249_12 ?_
            refine z_iload2 gi_249_13 ?_
            refine z_cV1 gi_249_14 gk_50 go_230 (Nat.le_of_ble_eq_true rfl) gc_230_RI ?_
            refine z_iload1 gi_230_0 ?_
            refine z_pushJ gp_230_1 ?_
            refine z_aload0 gi_230_2 ?_
            refine z_getI (v := J 50 54) gi_230_3 gk_50 ((zU_n (by decide)).trans ((zU_n (by decide)).trans ((zU_n (by decide)).trans (rfl)))) ?_
            refine z_pushJ gp_230_6 ?_
            refine z_isub (e := (J 50 54) - 1) gi_230_7 rfl ?_
            refine z_cS3 gi_230_8 (Nat.le_of_ble_eq_true rfl) gc_148_III ?_
            refine z_iload0 gi_148_0 ?_
            refine z_iload1 gi_148_1 ?_
            refine z_icmp_lt gi_148_2 (by omega) zr_0 (fun h7 => ?_) (fun h7 => ?_)
            · refine z_pushJ gp_148_14 ?_
              refine z_bret0 gi_148_15 gr_148 ?_
              show zW _ _ _ _ _ _ _ _ _ _
              refine z_bret0 gi_230_11 gr_230 ?_
              show zW _ _ _ _ _ _ _ _ _ _
              refine z_if_neF gi_249_17 zr_0 (by decide) ?_
              refine z_pushJ gp_249_20 ?_
              refine z_iret gi_249_21 gr_249 ?_
              refine ⟨?_, ?_⟩
              · first | rfl | exact congrArg (fun v => some (zi v)) (by omega) | (exfalso; omega)
              · exfalso
                omega
            · refine z_iload0 gi_148_5 ?_
              refine z_iload2 gi_148_6 ?_
              refine z_icmp_gt gi_148_7 (by omega) (by omega) (fun h8 => ?_) (fun h8 => ?_)
              · refine z_pushJ gp_148_14 ?_
                refine z_bret0 gi_148_15 gr_148 ?_
                show zW _ _ _ _ _ _ _ _ _ _
                refine z_bret0 gi_230_11 gr_230 ?_
                show zW _ _ _ _ _ _ _ _ _ _
                refine z_if_neF gi_249_17 zr_0 (by decide) ?_
                refine z_pushJ gp_249_20 ?_
                refine z_iret gi_249_21 gr_249 ?_
                refine ⟨?_, ?_⟩
                · first | rfl | exact congrArg (fun v => some (zi v)) (by omega) | (exfalso; omega)
                · exfalso
                  omega
              · refine z_pushJ gp_148_10 ?_
                refine z_goto gi_148_11 ?_
                refine z_bret1 gi_148_15 gr_148 ?_
                show zW _ _ _ _ _ _ _ _ _ _
                refine z_bret1 gi_230_11 gr_230 ?_
                show zW _ _ _ _ _ _ _ _ _ _
                refine z_if_neT gi_249_17 zr_1 (by decide) ?_
                refine z_aload0 gi_249_22 ?_
                refine z_getR (r := 83) gi_249_23 gk_50 (hRr _ rm_50_58 (by decide)) ?_
                refine z_iload1 gi_249_26 ?_
                refine z_iload2 gi_249_27 ?_
                refine z_iast (e := b) gi_249_28 gk_83 (by decide) (by decide) rfl ?_
                refine z_pushJ gp_249_29 ?_
                refine z_iret gi_249_30 gr_249 ?_
                refine ⟨?_, ?_⟩
                · first | rfl | exact congrArg (fun v => some (zi v)) (by omega) | (exfalso; omega)
                · have hk := (zK_x (a := 83) (x := 4) (v := b) (zK_x (a := 46) (x := 3) (v := 0) (zK_x (a := 46) (x := 1) (v := b) (zK_x (a := 46) (x := 0) (v := 1) (zK_r (k := (kL [] [(46, 0), (46, 1), (46, 3), (83, 4)])) (A := J)) rfl) rfl) rfl) rfl)
                  exact ⟨hR, hG, RelY_k hk (by repeat' constructor) (fun p => by repeat' constructor) hY, RelD_k hk (by repeat' constructor) (fun p => by repeat' constructor) hD, RelP_k hk (by repeat' constructor) (fun p => by repeat' constructor) hP, RelC_k hk (by repeat' constructor) (fun p => by repeat' constructor) hC, RelA_k hk (by repeat' constructor) (fun p => by repeat' constructor) hAc, (RelS_one (J := J) (M := M) (c := 4) (fun t t1 t2 te => by have q : t = 0 ∨ t = 1 ∨ t = 2 ∨ t = 3 ∨ t = 4 ∨ t = 5 := (by omega); rcases q with rfl | rfl | rfl | rfl | rfl | rfl <;> first | exact absurd rfl te | exact ⟨fun j => rfl, rfl, rfl⟩) (fun t t1 t2 te => ⟨fun j => rfl, fun j j1 j2 => rfl⟩) rfl (show RelS1 _ _ _ from ⟨rfl, (show (0 : Int) ≤ 1 ∧ (1 : Int) ≤ 2 from by decide), (hS 4 (by decide) (by decide)).2.2.1, (show (0 : Int) ≤ 0 ∧ (0 : Int) ≤ 60 from by decide), fun _ => (show 0 ≤ b ∧ b < J 34 1 from by omega), fun h => absurd (show (1 : Int) = 2 from h) (by decide)⟩) hS), RelT_k hk (by repeat' constructor) (fun p => by repeat' constructor) hTp, RelX_k hk (by repeat' constructor) (fun p => by repeat' constructor) hX, RelW_k hk ⟨rfl, rfl⟩ trivial hW⟩
        · refine z_aload0 gi_136_30 ?_
          refine z_getR (r := 37) gi_136_31 gk_0 (hR _ rm_0_11) ?_
          refine z_iload1 gi_136_34 ?_
          refine z_aald (r := 46) gi_136_35 rfl (by decide) (by decide) (hR _ rm_37_4) ?_
          refine z_cV0 gi_136_36 gk_46 go_66 (Nat.le_of_ble_eq_true rfl) gc_66_R ?_
          refine z_aload0 gi_66_0 ?_
          refine z_pushJ gp_66_1 ?_
          refine z_putI (y := 0) gi_66_2 rfl gk_46 ?_
          refine z_aload0 gi_66_5 ?_
          refine z_pushJ gp_66_6 ?_
          refine z_putI (y := 3) gi_66_7 rfl gk_46 ?_
          refine z_vret gi_66_10 gr_66 ?_
          show zW _ _ _ _ _ _ _ _ _ _
          refine z_goto gi_136_39 ?_
          refine z_pushJ gp_136_52 ?_
          refine z_iret gi_136_53 gr_136 ?_
          refine ⟨_, rfl, ?_⟩
          show zW _ _ _ _ [some (.ref 50), some (zi 4), some (zi b)] _ _ _ _ _
          refine z_iload1 gi_249_0 ?_
          refine z_cS1 gi_249_1 (Nat.le_of_ble_eq_true rfl) gc_248_I ?_
          refine z_iload0 gi_248_0 ?_
          refine z_pushJ gp_248_1 ?_
          refine z_pushJ gp_248_2 ?_
          refine z_cS3 gi_248_3 (Nat.le_of_ble_eq_true rfl) gc_148_III ?_
          refine z_iload0 gi_148_0 ?_
          refine z_iload1 gi_148_1 ?_
          refine z_icmp_ltF gi_148_2 zr_4 zr_0 (by decide) ?_
          refine z_iload0 gi_148_5 ?_
          refine z_iload2 gi_148_6 ?_
          refine z_icmp_gtF gi_148_7 zr_4 zr_5 (by decide) ?_
          refine z_pushJ gp_148_10 ?_
          refine z_goto gi_148_11 ?_
          refine z_bret1 gi_148_15 gr_148 ?_
          show zW _ _ _ _ _ _ _ _ _ _
          refine z_bret1 gi_248_6 gr_248 ?_
          show zW _ _ _ _ _ _ _ _ _ _
          refine z_if_eqF gi_249_4 zr_1 (by decide) ?_
          refine z_iload2 gi_249_7 ?_
          refine z_pushJ gp_249_8 ?_
          refine z_icmp_eq gi_249_9 (by omega) zrn_1 (fun h6 => ?_) (fun h6 => ?_)
          · refine z_aload0 gi_249_22 ?_
            refine z_getR (r := 83) gi_249_23 gk_50 (hRr _ rm_50_58 (by decide)) ?_
            refine z_iload1 gi_249_26 ?_
            refine z_iload2 gi_249_27 ?_
            refine z_iast (e := b) gi_249_28 gk_83 (by decide) (by decide) rfl ?_
            refine z_pushJ gp_249_29 ?_
            refine z_iret gi_249_30 gr_249 ?_
            refine ⟨?_, ?_⟩
            · first | rfl | exact congrArg (fun v => some (zi v)) (by omega) | (exfalso; omega)
            · have hk := (zK_x (a := 83) (x := 4) (v := b) (zK_x (a := 46) (x := 3) (v := 0) (zK_x (a := 46) (x := 0) (v := 0) (zK_r (k := (kL [] [(46, 0), (46, 3), (83, 4)])) (A := J)) rfl) rfl) rfl)
              exact ⟨hR, hG, RelY_k hk (by repeat' constructor) (fun p => by repeat' constructor) hY, RelD_k hk (by repeat' constructor) (fun p => by repeat' constructor) hD, RelP_k hk (by repeat' constructor) (fun p => by repeat' constructor) hP, RelC_k hk (by repeat' constructor) (fun p => by repeat' constructor) hC, RelA_k hk (by repeat' constructor) (fun p => by repeat' constructor) hAc, (RelS_one (J := J) (M := M) (c := 4) (fun t t1 t2 te => by have q : t = 0 ∨ t = 1 ∨ t = 2 ∨ t = 3 ∨ t = 4 ∨ t = 5 := (by omega); rcases q with rfl | rfl | rfl | rfl | rfl | rfl <;> first | exact absurd rfl te | exact ⟨fun j => rfl, rfl, rfl⟩) (fun t t1 t2 te => ⟨fun j => rfl, fun j j1 j2 => rfl⟩) rfl (show RelS1 _ _ _ from ⟨(show (-1 : Int) = b from by omega), (show (0 : Int) ≤ 0 ∧ (0 : Int) ≤ 2 from by decide), (hS 4 (by decide) (by decide)).2.2.1, (show (0 : Int) ≤ 0 ∧ (0 : Int) ≤ 60 from by decide), fun h => absurd (show (0 : Int) = 1 from h) (by decide), fun h => absurd (show (0 : Int) = 2 from h) (by decide)⟩) hS), RelT_k hk (by repeat' constructor) (fun p => by repeat' constructor) hTp, RelX_k hk (by repeat' constructor) (fun p => by repeat' constructor) hX, RelW_k hk ⟨rfl, rfl⟩ trivial hW⟩
          · refine z_aload0 gi_249_12 ?_
            refine z_iload2 gi_249_13 ?_
            refine z_cV1 gi_249_14 gk_50 go_230 (Nat.le_of_ble_eq_true rfl) gc_230_RI ?_
            refine z_iload1 gi_230_0 ?_
            refine z_pushJ gp_230_1 ?_
            refine z_aload0 gi_230_2 ?_
            refine z_getI (v := J 50 54) gi_230_3 gk_50 ((zU_n (by decide)).trans ((zU_n (by decide)).trans (rfl))) ?_
            refine z_pushJ gp_230_6 ?_
            refine z_isub (e := (J 50 54) - 1) gi_230_7 rfl ?_
            refine z_cS3 gi_230_8 (Nat.le_of_ble_eq_true rfl) gc_148_III ?_
            refine z_iload0 gi_148_0 ?_
            refine z_iload1 gi_148_1 ?_
            refine z_icmp_lt gi_148_2 (by omega) zr_0 (fun h7 => ?_) (fun h7 => ?_)
            · refine z_pushJ gp_148_14 ?_
              refine z_bret0 gi_148_15 gr_148 ?_
              show zW _ _ _ _ _ _ _ _ _ _
              refine z_bret0 gi_230_11 gr_230 ?_
              show zW _ _ _ _ _ _ _ _ _ _
              refine z_if_neF gi_249_17 zr_0 (by decide) ?_
              refine z_pushJ gp_249_20 ?_
              refine z_iret gi_249_21 gr_249 ?_
              refine ⟨?_, ?_⟩
              · first | rfl | exact congrArg (fun v => some (zi v)) (by omega) | (exfalso; omega)
              · exfalso
                omega
            · refine z_iload0 gi_148_5 ?_
              refine z_iload2 gi_148_6 ?_
              refine z_icmp_gt gi_148_7 (by omega) (by omega) (fun h8 => ?_) (fun h8 => ?_)
              · refine z_pushJ gp_148_14 ?_
                refine z_bret0 gi_148_15 gr_148 ?_
                show zW _ _ _ _ _ _ _ _ _ _
                refine z_bret0 gi_230_11 gr_230 ?_
                show zW _ _ _ _ _ _ _ _ _ _
                refine z_if_neF gi_249_17 zr_0 (by decide) ?_
                refine z_pushJ gp_249_20 ?_
                refine z_iret gi_249_21 gr_249 ?_
                refine ⟨?_, ?_⟩
                · first | rfl | exact congrArg (fun v => some (zi v)) (by omega) | (exfalso; omega)
                · exfalso
                  omega
              · refine z_pushJ gp_148_10 ?_
                refine z_goto gi_148_11 ?_
                refine z_bret1 gi_148_15 gr_148 ?_
                show zW _ _ _ _ _ _ _ _ _ _
                refine z_bret1 gi_230_11 gr_230 ?_
                show zW _ _ _ _ _ _ _ _ _ _
                refine z_if_neT gi_249_17 zr_1 (by decide) ?_
                refine z_aload0 gi_249_22 ?_
                refine z_getR (r := 83) gi_249_23 gk_50 (hRr _ rm_50_58 (by decide)) ?_
                refine z_iload1 gi_249_26 ?_
                refine z_iload2 gi_249_27 ?_
                refine z_iast (e := b) gi_249_28 gk_83 (by decide) (by decide) rfl ?_
                refine z_pushJ gp_249_29 ?_
                refine z_iret gi_249_30 gr_249 ?_
                refine ⟨?_, ?_⟩
                · first | rfl | exact congrArg (fun v => some (zi v)) (by omega) | (exfalso; omega)
                · have hk := (zK_x (a := 83) (x := 4) (v := b) (zK_x (a := 46) (x := 3) (v := 0) (zK_x (a := 46) (x := 0) (v := 0) (zK_r (k := (kL [] [(46, 0), (46, 3), (83, 4)])) (A := J)) rfl) rfl) rfl)
                  exact ⟨hR, hG, RelY_k hk (by repeat' constructor) (fun p => by repeat' constructor) hY, RelD_k hk (by repeat' constructor) (fun p => by repeat' constructor) hD, RelP_k hk (by repeat' constructor) (fun p => by repeat' constructor) hP, RelC_k hk (by repeat' constructor) (fun p => by repeat' constructor) hC, RelA_k hk (by repeat' constructor) (fun p => by repeat' constructor) hAc, (RelS_one (J := J) (M := M) (c := 4) (fun t t1 t2 te => by have q : t = 0 ∨ t = 1 ∨ t = 2 ∨ t = 3 ∨ t = 4 ∨ t = 5 := (by omega); rcases q with rfl | rfl | rfl | rfl | rfl | rfl <;> first | exact absurd rfl te | exact ⟨fun j => rfl, rfl, rfl⟩) (fun t t1 t2 te => ⟨fun j => rfl, fun j j1 j2 => rfl⟩) rfl (show RelS1 _ _ _ from ⟨(show (-1 : Int) = b from by omega), (show (0 : Int) ≤ 0 ∧ (0 : Int) ≤ 2 from by decide), (hS 4 (by decide) (by decide)).2.2.1, (show (0 : Int) ≤ 0 ∧ (0 : Int) ≤ 60 from by decide), fun h => absurd (show (0 : Int) = 1 from h) (by decide), fun h => absurd (show (0 : Int) = 2 from h) (by decide)⟩) hS), RelT_k hk (by repeat' constructor) (fun p => by repeat' constructor) hTp, RelX_k hk (by repeat' constructor) (fun p => by repeat' constructor) hX, RelW_k hk ⟨rfl, rfl⟩ trivial hW⟩
theorem st_keep_5 {X : Nat × (Nat → Int32)} {d : Nat} {J M : zA} {R : zR} {b : Int} (hr : Rel X J M R) (hb : -2147483648 ≤ b ∧ b < 2147483648)  : zW X (d + 20) 136 0 (gEn 136 [(.ref 0), (zi 5), (zi b)]) [] J M R (stP X (d + 20) 249 [(zi 5), (zi b)]) := by
  have hr0 := hr
  obtain ⟨hR, hG, hY, hD, hP, hC, hAc, hS, hTp, hX, hW⟩ := hr0
  have hRr : zRoR R := zRoR_of hR
  have hA0 := hAc
  obtain ⟨a1, a2, a3, a4, a5, a6⟩ := hA0
  show zW _ _ _ _ [some (.ref 0), some (zi 5), some (zi b)] _ _ _ _ _
  refine z_iload1 gi_136_0 ?_
  refine z_cS1 gi_136_1 (Nat.le_of_ble_eq_true rfl) gc_143_I ?_
  refine z_iload0 gi_143_0 ?_
  refine z_if_ltF gi_143_1 zr_5 (by decide) ?_
  refine z_iload0 gi_143_4 ?_
  refine z_pushJ gp_143_5 ?_
  refine z_icmp_geF gi_143_7 zr_5 zr_6 (by decide) ?_
  refine z_pushJ gp_143_10 ?_
  refine z_goto gi_143_11 ?_
  refine z_bret1 gi_143_15 gr_143 ?_
  show zW _ _ _ _ _ _ _ _ _ _
  refine z_if_eqF gi_136_4 zr_1 (by decide) ?_
  refine z_iload2 gi_136_7 ?_
  refine z_pushJ gp_136_8 ?_
  refine z_icmp_eq gi_136_9 (by omega) zrn_1 (fun h1 => ?_) (fun h1 => ?_)
  · refine z_iload2 gi_136_25 ?_
    refine z_pushJ gp_136_26 ?_
    refine z_icmp_ne gi_136_27 (by omega) zrn_1 (fun h2 => ?_) (fun h2 => ?_)
    · refine z_aload0 gi_136_42 ?_
      refine z_getR (r := 37) gi_136_43 gk_0 (hR _ rm_0_11) ?_
      refine z_iload1 gi_136_46 ?_
      refine z_aald (r := 48) gi_136_47 rfl (by decide) (by decide) (hR _ rm_37_5) ?_
      refine z_iload2 gi_136_48 ?_
      refine z_cV1 gi_136_49 gk_48 go_67 (Nat.le_of_ble_eq_true rfl) gc_67_RI ?_
      refine z_aload0 gi_67_0 ?_
      refine z_pushJ gp_67_1 ?_
      refine z_putI (y := 0) gi_67_2 rfl gk_48 ?_
      refine z_aload0 gi_67_5 ?_
      refine z_iload1 gi_67_6 ?_
      refine z_putI (y := 1) gi_67_7 rfl gk_48 ?_
      refine z_aload0 gi_67_10 ?_
      refine z_pushJ gp_67_11 ?_
      refine z_putI (y := 3) gi_67_12 rfl gk_48 ?_
      refine z_vret gi_67_15 gr_67 ?_
      show zW _ _ _ _ _ _ _ _ _ _
      refine z_pushJ gp_136_52 ?_
      refine z_iret gi_136_53 gr_136 ?_
      refine ⟨_, rfl, ?_⟩
      show zW _ _ _ _ [some (.ref 50), some (zi 5), some (zi b)] _ _ _ _ _
      refine z_iload1 gi_249_0 ?_
      refine z_cS1 gi_249_1 (Nat.le_of_ble_eq_true rfl) gc_248_I ?_
      refine z_iload0 gi_248_0 ?_
      refine z_pushJ gp_248_1 ?_
      refine z_pushJ gp_248_2 ?_
      refine z_cS3 gi_248_3 (Nat.le_of_ble_eq_true rfl) gc_148_III ?_
      refine z_iload0 gi_148_0 ?_
      refine z_iload1 gi_148_1 ?_
      refine z_icmp_ltF gi_148_2 zr_5 zr_0 (by decide) ?_
      refine z_iload0 gi_148_5 ?_
      refine z_iload2 gi_148_6 ?_
      refine z_icmp_gtF gi_148_7 zr_5 zr_5 (by decide) ?_
      refine z_pushJ gp_148_10 ?_
      refine z_goto gi_148_11 ?_
      refine z_bret1 gi_148_15 gr_148 ?_
      show zW _ _ _ _ _ _ _ _ _ _
      refine z_bret1 gi_248_6 gr_248 ?_
      show zW _ _ _ _ _ _ _ _ _ _
      refine z_if_eqF gi_249_4 zr_1 (by decide) ?_
      refine z_iload2 gi_249_7 ?_
      refine z_pushJ gp_249_8 ?_
      refine z_icmp_eq gi_249_9 (by omega) zrn_1 (fun h3 => ?_) (fun h3 => ?_)
      · refine z_aload0 gi_249_22 ?_
        refine z_getR (r := 83) gi_249_23 gk_50 (hRr _ rm_50_58 (by decide)) ?_
        refine z_iload1 gi_249_26 ?_
        refine z_iload2 gi_249_27 ?_
        refine z_iast (e := b) gi_249_28 gk_83 (by decide) (by decide) rfl ?_
        refine z_pushJ gp_249_29 ?_
        refine z_iret gi_249_30 gr_249 ?_
        refine ⟨?_, ?_⟩
        · first | rfl | exact congrArg (fun v => some (zi v)) (by omega) | (exfalso; omega)
        · have hk := (zK_x (a := 83) (x := 5) (v := b) (zK_x (a := 48) (x := 3) (v := 0) (zK_x (a := 48) (x := 1) (v := b) (zK_x (a := 48) (x := 0) (v := 1) (zK_r (k := (kL [] [(48, 0), (48, 1), (48, 3), (83, 5)])) (A := J)) rfl) rfl) rfl) rfl)
          exact ⟨hR, hG, RelY_k hk (by repeat' constructor) (fun p => by repeat' constructor) hY, RelD_k hk (by repeat' constructor) (fun p => by repeat' constructor) hD, RelP_k hk (by repeat' constructor) (fun p => by repeat' constructor) hP, RelC_k hk (by repeat' constructor) (fun p => by repeat' constructor) hC, RelA_k hk (by repeat' constructor) (fun p => by repeat' constructor) hAc, (RelS_one (J := J) (M := M) (c := 5) (fun t t1 t2 te => by have q : t = 0 ∨ t = 1 ∨ t = 2 ∨ t = 3 ∨ t = 4 ∨ t = 5 := (by omega); rcases q with rfl | rfl | rfl | rfl | rfl | rfl <;> first | exact absurd rfl te | exact ⟨fun j => rfl, rfl, rfl⟩) (fun t t1 t2 te => ⟨fun j => rfl, fun j j1 j2 => rfl⟩) rfl (show RelS1 _ _ _ from ⟨rfl, (show (0 : Int) ≤ 1 ∧ (1 : Int) ≤ 2 from by decide), (hS 5 (by decide) (by decide)).2.2.1, (show (0 : Int) ≤ 0 ∧ (0 : Int) ≤ 60 from by decide), fun _ => (show 0 ≤ b ∧ b < J 34 1 from by omega), fun h => absurd (show (1 : Int) = 2 from h) (by decide)⟩) hS), RelT_k hk (by repeat' constructor) (fun p => by repeat' constructor) hTp, RelX_k hk (by repeat' constructor) (fun p => by repeat' constructor) hX, RelW_k hk ⟨rfl, rfl⟩ trivial hW⟩
      · refine z_aload0 gi_249_12 ?_
        refine z_iload2 gi_249_13 ?_
        refine z_cV1 gi_249_14 gk_50 go_230 (Nat.le_of_ble_eq_true rfl) gc_230_RI ?_
        refine z_iload1 gi_230_0 ?_
        refine z_pushJ gp_230_1 ?_
        refine z_aload0 gi_230_2 ?_
        refine z_getI (v := J 50 54) gi_230_3 gk_50 ((zU_n (by decide)).trans ((zU_n (by decide)).trans ((zU_n (by decide)).trans (rfl)))) ?_
        refine z_pushJ gp_230_6 ?_
        refine z_isub (e := (J 50 54) - 1) gi_230_7 rfl ?_
        refine z_cS3 gi_230_8 (Nat.le_of_ble_eq_true rfl) gc_148_III ?_
        refine z_iload0 gi_148_0 ?_
        refine z_iload1 gi_148_1 ?_
        refine z_icmp_lt gi_148_2 (by omega) zr_0 (fun h4 => ?_) (fun h4 => ?_)
        · refine z_pushJ gp_148_14 ?_
          refine z_bret0 gi_148_15 gr_148 ?_
          show zW _ _ _ _ _ _ _ _ _ _
          refine z_bret0 gi_230_11 gr_230 ?_
          show zW _ _ _ _ _ _ _ _ _ _
          refine z_if_neF gi_249_17 zr_0 (by decide) ?_
          refine z_pushJ gp_249_20 ?_
          refine z_iret gi_249_21 gr_249 ?_
          refine ⟨?_, ?_⟩
          · first | rfl | exact congrArg (fun v => some (zi v)) (by omega) | (exfalso; omega)
          · exfalso
            omega
        · refine z_iload0 gi_148_5 ?_
          refine z_iload2 gi_148_6 ?_
          refine z_icmp_gt gi_148_7 (by omega) (by omega) (fun h5 => ?_) (fun h5 => ?_)
          · refine z_pushJ gp_148_14 ?_
            refine z_bret0 gi_148_15 gr_148 ?_
            show zW _ _ _ _ _ _ _ _ _ _
            refine z_bret0 gi_230_11 gr_230 ?_
            show zW _ _ _ _ _ _ _ _ _ _
            refine z_if_neF gi_249_17 zr_0 (by decide) ?_
            refine z_pushJ gp_249_20 ?_
            refine z_iret gi_249_21 gr_249 ?_
            refine ⟨?_, ?_⟩
            · first | rfl | exact congrArg (fun v => some (zi v)) (by omega) | (exfalso; omega)
            · exfalso
              omega
          · refine z_pushJ gp_148_10 ?_
            refine z_goto gi_148_11 ?_
            refine z_bret1 gi_148_15 gr_148 ?_
            show zW _ _ _ _ _ _ _ _ _ _
            refine z_bret1 gi_230_11 gr_230 ?_
            show zW _ _ _ _ _ _ _ _ _ _
            refine z_if_neT gi_249_17 zr_1 (by decide) ?_
            refine z_aload0 gi_249_22 ?_
            refine z_getR (r := 83) gi_249_23 gk_50 (hRr _ rm_50_58 (by decide)) ?_
            refine z_iload1 gi_249_26 ?_
            refine z_iload2 gi_249_27 ?_
            refine z_iast (e := b) gi_249_28 gk_83 (by decide) (by decide) rfl ?_
            refine z_pushJ gp_249_29 ?_
            refine z_iret gi_249_30 gr_249 ?_
            refine ⟨?_, ?_⟩
            · first | rfl | exact congrArg (fun v => some (zi v)) (by omega) | (exfalso; omega)
            · have hk := (zK_x (a := 83) (x := 5) (v := b) (zK_x (a := 48) (x := 3) (v := 0) (zK_x (a := 48) (x := 1) (v := b) (zK_x (a := 48) (x := 0) (v := 1) (zK_r (k := (kL [] [(48, 0), (48, 1), (48, 3), (83, 5)])) (A := J)) rfl) rfl) rfl) rfl)
              exact ⟨hR, hG, RelY_k hk (by repeat' constructor) (fun p => by repeat' constructor) hY, RelD_k hk (by repeat' constructor) (fun p => by repeat' constructor) hD, RelP_k hk (by repeat' constructor) (fun p => by repeat' constructor) hP, RelC_k hk (by repeat' constructor) (fun p => by repeat' constructor) hC, RelA_k hk (by repeat' constructor) (fun p => by repeat' constructor) hAc, (RelS_one (J := J) (M := M) (c := 5) (fun t t1 t2 te => by have q : t = 0 ∨ t = 1 ∨ t = 2 ∨ t = 3 ∨ t = 4 ∨ t = 5 := (by omega); rcases q with rfl | rfl | rfl | rfl | rfl | rfl <;> first | exact absurd rfl te | exact ⟨fun j => rfl, rfl, rfl⟩) (fun t t1 t2 te => ⟨fun j => rfl, fun j j1 j2 => rfl⟩) rfl (show RelS1 _ _ _ from ⟨rfl, (show (0 : Int) ≤ 1 ∧ (1 : Int) ≤ 2 from by decide), (hS 5 (by decide) (by decide)).2.2.1, (show (0 : Int) ≤ 0 ∧ (0 : Int) ≤ 60 from by decide), fun _ => (show 0 ≤ b ∧ b < J 34 1 from by omega), fun h => absurd (show (1 : Int) = 2 from h) (by decide)⟩) hS), RelT_k hk (by repeat' constructor) (fun p => by repeat' constructor) hTp, RelX_k hk (by repeat' constructor) (fun p => by repeat' constructor) hX, RelW_k hk ⟨rfl, rfl⟩ trivial hW⟩
    · refine z_aload0 gi_136_30 ?_
      refine z_getR (r := 37) gi_136_31 gk_0 (hR _ rm_0_11) ?_
      refine z_iload1 gi_136_34 ?_
      refine z_aald (r := 48) gi_136_35 rfl (by decide) (by decide) (hR _ rm_37_5) ?_
      refine z_cV0 gi_136_36 gk_48 go_66 (Nat.le_of_ble_eq_true rfl) gc_66_R ?_
      refine z_aload0 gi_66_0 ?_
      refine z_pushJ gp_66_1 ?_
      refine z_putI (y := 0) gi_66_2 rfl gk_48 ?_
      refine z_aload0 gi_66_5 ?_
      refine z_pushJ gp_66_6 ?_
      refine z_putI (y := 3) gi_66_7 rfl gk_48 ?_
      refine z_vret gi_66_10 gr_66 ?_
      show zW _ _ _ _ _ _ _ _ _ _
      refine z_goto gi_136_39 ?_
      refine z_pushJ gp_136_52 ?_
      refine z_iret gi_136_53 gr_136 ?_
      refine ⟨_, rfl, ?_⟩
      show zW _ _ _ _ [some (.ref 50), some (zi 5), some (zi b)] _ _ _ _ _
      refine z_iload1 gi_249_0 ?_
      refine z_cS1 gi_249_1 (Nat.le_of_ble_eq_true rfl) gc_248_I ?_
      refine z_iload0 gi_248_0 ?_
      refine z_pushJ gp_248_1 ?_
      refine z_pushJ gp_248_2 ?_
      refine z_cS3 gi_248_3 (Nat.le_of_ble_eq_true rfl) gc_148_III ?_
      refine z_iload0 gi_148_0 ?_
      refine z_iload1 gi_148_1 ?_
      refine z_icmp_ltF gi_148_2 zr_5 zr_0 (by decide) ?_
      refine z_iload0 gi_148_5 ?_
      refine z_iload2 gi_148_6 ?_
      refine z_icmp_gtF gi_148_7 zr_5 zr_5 (by decide) ?_
      refine z_pushJ gp_148_10 ?_
      refine z_goto gi_148_11 ?_
      refine z_bret1 gi_148_15 gr_148 ?_
      show zW _ _ _ _ _ _ _ _ _ _
      refine z_bret1 gi_248_6 gr_248 ?_
      show zW _ _ _ _ _ _ _ _ _ _
      refine z_if_eqF gi_249_4 zr_1 (by decide) ?_
      refine z_iload2 gi_249_7 ?_
      refine z_pushJ gp_249_8 ?_
      refine z_icmp_eq gi_249_9 (by omega) zrn_1 (fun h3 => ?_) (fun h3 => ?_)
      · refine z_aload0 gi_249_22 ?_
        refine z_getR (r := 83) gi_249_23 gk_50 (hRr _ rm_50_58 (by decide)) ?_
        refine z_iload1 gi_249_26 ?_
        refine z_iload2 gi_249_27 ?_
        refine z_iast (e := b) gi_249_28 gk_83 (by decide) (by decide) rfl ?_
        refine z_pushJ gp_249_29 ?_
        refine z_iret gi_249_30 gr_249 ?_
        refine ⟨?_, ?_⟩
        · first | rfl | exact congrArg (fun v => some (zi v)) (by omega) | (exfalso; omega)
        · have hk := (zK_x (a := 83) (x := 5) (v := b) (zK_x (a := 48) (x := 3) (v := 0) (zK_x (a := 48) (x := 0) (v := 0) (zK_r (k := (kL [] [(48, 0), (48, 3), (83, 5)])) (A := J)) rfl) rfl) rfl)
          exact ⟨hR, hG, RelY_k hk (by repeat' constructor) (fun p => by repeat' constructor) hY, RelD_k hk (by repeat' constructor) (fun p => by repeat' constructor) hD, RelP_k hk (by repeat' constructor) (fun p => by repeat' constructor) hP, RelC_k hk (by repeat' constructor) (fun p => by repeat' constructor) hC, RelA_k hk (by repeat' constructor) (fun p => by repeat' constructor) hAc, (RelS_one (J := J) (M := M) (c := 5) (fun t t1 t2 te => by have q : t = 0 ∨ t = 1 ∨ t = 2 ∨ t = 3 ∨ t = 4 ∨ t = 5 := (by omega); rcases q with rfl | rfl | rfl | rfl | rfl | rfl <;> first | exact absurd rfl te | exact ⟨fun j => rfl, rfl, rfl⟩) (fun t t1 t2 te => ⟨fun j => rfl, fun j j1 j2 => rfl⟩) rfl (show RelS1 _ _ _ from ⟨(show (-1 : Int) = b from by omega), (show (0 : Int) ≤ 0 ∧ (0 : Int) ≤ 2 from by decide), (hS 5 (by decide) (by decide)).2.2.1, (show (0 : Int) ≤ 0 ∧ (0 : Int) ≤ 60 from by decide), fun h => absurd (show (0 : Int) = 1 from h) (by decide), fun h => absurd (show (0 : Int) = 2 from h) (by decide)⟩) hS), RelT_k hk (by repeat' constructor) (fun p => by repeat' constructor) hTp, RelX_k hk (by repeat' constructor) (fun p => by repeat' constructor) hX, RelW_k hk ⟨rfl, rfl⟩ trivial hW⟩
      · refine z_aload0 gi_249_12 ?_
        refine z_iload2 gi_249_13 ?_
        refine z_cV1 gi_249_14 gk_50 go_230 (Nat.le_of_ble_eq_true rfl) gc_230_RI ?_
        refine z_iload1 gi_230_0 ?_
        refine z_pushJ gp_230_1 ?_
        refine z_aload0 gi_230_2 ?_
        refine z_getI (v := J 50 54) gi_230_3 gk_50 ((zU_n (by decide)).trans ((zU_n (by decide)).trans (rfl))) ?_
        refine z_pushJ gp_230_6 ?_
        refine z_isub (e := (J 50 54) - 1) gi_230_7 rfl ?_
        refine z_cS3 gi_230_8 (Nat.le_of_ble_eq_true rfl) gc_148_III ?_
        refine z_iload0 gi_148_0 ?_
        refine z_iload1 gi_148_1 ?_
        refine z_icmp_lt gi_148_2 (by omega) zr_0 (fun h4 => ?_) (fun h4 => ?_)
        · refine z_pushJ gp_148_14 ?_
          refine z_bret0 gi_148_15 gr_148 ?_
          show zW _ _ _ _ _ _ _ _ _ _
          refine z_bret0 gi_230_11 gr_230 ?_
          show zW _ _ _ _ _ _ _ _ _ _
          refine z_if_neF gi_249_17 zr_0 (by decide) ?_
          refine z_pushJ gp_249_20 ?_
          refine z_iret gi_249_21 gr_249 ?_
          refine ⟨?_, ?_⟩
          · first | rfl | exact congrArg (fun v => some (zi v)) (by omega) | (exfalso; omega)
          · exfalso
            omega
        · refine z_iload0 gi_148_5 ?_
          refine z_iload2 gi_148_6 ?_
          refine z_icmp_gt gi_148_7 (by omega) (by omega) (fun h5 => ?_) (fun h5 => ?_)
          · refine z_pushJ gp_148_14 ?_
            refine z_bret0 gi_148_15 gr_148 ?_
            show zW _ _ _ _ _ _ _ _ _ _
            refine z_bret0 gi_230_11 gr_230 ?_
            show zW _ _ _ _ _ _ _ _ _ _
            refine z_if_neF gi_249_17 zr_0 (by decide) ?_
            refine z_pushJ gp_249_20 ?_
            refine z_iret gi_249_21 gr_249 ?_
            refine ⟨?_, ?_⟩
            · first | rfl | exact congrArg (fun v => some (zi v)) (by omega) | (exfalso; omega)
            · exfalso
              omega
          · refine z_pushJ gp_148_10 ?_
            refine z_goto gi_148_11 ?_
            refine z_bret1 gi_148_15 gr_148 ?_
            show zW _ _ _ _ _ _ _ _ _ _
            refine z_bret1 gi_230_11 gr_230 ?_
            show zW _ _ _ _ _ _ _ _ _ _
            refine z_if_neT gi_249_17 zr_1 (by decide) ?_
            refine z_aload0 gi_249_22 ?_
            refine z_getR (r := 83) gi_249_23 gk_50 (hRr _ rm_50_58 (by decide)) ?_
            refine z_iload1 gi_249_26 ?_
            refine z_iload2 gi_249_27 ?_
            refine z_iast (e := b) gi_249_28 gk_83 (by decide) (by decide) rfl ?_
            refine z_pushJ gp_249_29 ?_
            refine z_iret gi_249_30 gr_249 ?_
            refine ⟨?_, ?_⟩
            · first | rfl | exact congrArg (fun v => some (zi v)) (by omega) | (exfalso; omega)
            · have hk := (zK_x (a := 83) (x := 5) (v := b) (zK_x (a := 48) (x := 3) (v := 0) (zK_x (a := 48) (x := 0) (v := 0) (zK_r (k := (kL [] [(48, 0), (48, 3), (83, 5)])) (A := J)) rfl) rfl) rfl)
              exact ⟨hR, hG, RelY_k hk (by repeat' constructor) (fun p => by repeat' constructor) hY, RelD_k hk (by repeat' constructor) (fun p => by repeat' constructor) hD, RelP_k hk (by repeat' constructor) (fun p => by repeat' constructor) hP, RelC_k hk (by repeat' constructor) (fun p => by repeat' constructor) hC, RelA_k hk (by repeat' constructor) (fun p => by repeat' constructor) hAc, (RelS_one (J := J) (M := M) (c := 5) (fun t t1 t2 te => by have q : t = 0 ∨ t = 1 ∨ t = 2 ∨ t = 3 ∨ t = 4 ∨ t = 5 := (by omega); rcases q with rfl | rfl | rfl | rfl | rfl | rfl <;> first | exact absurd rfl te | exact ⟨fun j => rfl, rfl, rfl⟩) (fun t t1 t2 te => ⟨fun j => rfl, fun j j1 j2 => rfl⟩) rfl (show RelS1 _ _ _ from ⟨(show (-1 : Int) = b from by omega), (show (0 : Int) ≤ 0 ∧ (0 : Int) ≤ 2 from by decide), (hS 5 (by decide) (by decide)).2.2.1, (show (0 : Int) ≤ 0 ∧ (0 : Int) ≤ 60 from by decide), fun h => absurd (show (0 : Int) = 1 from h) (by decide), fun h => absurd (show (0 : Int) = 2 from h) (by decide)⟩) hS), RelT_k hk (by repeat' constructor) (fun p => by repeat' constructor) hTp, RelX_k hk (by repeat' constructor) (fun p => by repeat' constructor) hX, RelW_k hk ⟨rfl, rfl⟩ trivial hW⟩
  · refine z_aload0 gi_136_12 ?_
    refine z_getR (r := 34) gi_136_13 gk_0 (hR _ rm_0_10) ?_
    refine z_iload2 gi_136_16 ?_
    refine z_cV1 gi_136_17 gk_34 go_3 (Nat.le_of_ble_eq_true rfl) gc_3_RI ?_
    refine z_iload1 gi_3_0 ?_
    refine z_if_lt gi_3_1 (by omega) (fun h3 => ?_) (fun h3 => ?_)
    · refine z_pushJ gp_3_16 ?_
      refine z_bret0 gi_3_17 gr_3 ?_
      show zW _ _ _ _ _ _ _ _ _ _
      refine z_if_neF gi_136_20 zr_0 (by decide) ?_
      refine z_pushJ gp_136_23 ?_
      refine z_iret gi_136_24 gr_136 ?_
      refine ⟨_, rfl, ?_⟩
      show zW _ _ _ _ [some (.ref 50), some (zi 5), some (zi b)] _ _ _ _ _
      refine z_iload1 gi_249_0 ?_
      refine z_cS1 gi_249_1 (Nat.le_of_ble_eq_true rfl) gc_248_I ?_
      refine z_iload0 gi_248_0 ?_
      refine z_pushJ gp_248_1 ?_
      refine z_pushJ gp_248_2 ?_
      refine z_cS3 gi_248_3 (Nat.le_of_ble_eq_true rfl) gc_148_III ?_
      refine z_iload0 gi_148_0 ?_
      refine z_iload1 gi_148_1 ?_
      refine z_icmp_ltF gi_148_2 zr_5 zr_0 (by decide) ?_
      refine z_iload0 gi_148_5 ?_
      refine z_iload2 gi_148_6 ?_
      refine z_icmp_gtF gi_148_7 zr_5 zr_5 (by decide) ?_
      refine z_pushJ gp_148_10 ?_
      refine z_goto gi_148_11 ?_
      refine z_bret1 gi_148_15 gr_148 ?_
      show zW _ _ _ _ _ _ _ _ _ _
      refine z_bret1 gi_248_6 gr_248 ?_
      show zW _ _ _ _ _ _ _ _ _ _
      refine z_if_eqF gi_249_4 zr_1 (by decide) ?_
      refine z_iload2 gi_249_7 ?_
      refine z_pushJ gp_249_8 ?_
      refine z_icmp_eq gi_249_9 (by omega) zrn_1 (fun h4 => ?_) (fun h4 => ?_)
      · refine z_aload0 gi_249_22 ?_
        refine z_getR (r := 83) gi_249_23 gk_50 (hRr _ rm_50_58 (by decide)) ?_
        refine z_iload1 gi_249_26 ?_
        refine z_iload2 gi_249_27 ?_
        refine z_iast (e := b) gi_249_28 gk_83 (by decide) (by decide) rfl ?_
        refine z_pushJ gp_249_29 ?_
        refine z_iret gi_249_30 gr_249 ?_
        refine ⟨?_, ?_⟩
        · first | rfl | exact congrArg (fun v => some (zi v)) (by omega) | (exfalso; omega)
        · exfalso
          omega
      · refine z_aload0 gi_249_12 ?_
        refine z_iload2 gi_249_13 ?_
        refine z_cV1 gi_249_14 gk_50 go_230 (Nat.le_of_ble_eq_true rfl) gc_230_RI ?_
        refine z_iload1 gi_230_0 ?_
        refine z_pushJ gp_230_1 ?_
        refine z_aload0 gi_230_2 ?_
        refine z_getI (v := J 50 54) gi_230_3 gk_50 (rfl) ?_
        refine z_pushJ gp_230_6 ?_
        refine z_isub (e := (J 50 54) - 1) gi_230_7 rfl ?_
        refine z_cS3 gi_230_8 (Nat.le_of_ble_eq_true rfl) gc_148_III ?_
        refine z_iload0 gi_148_0 ?_
        refine z_iload1 gi_148_1 ?_
        refine z_icmp_lt gi_148_2 (by omega) zr_0 (fun h5 => ?_) (fun h5 => ?_)
        · refine z_pushJ gp_148_14 ?_
          refine z_bret0 gi_148_15 gr_148 ?_
          show zW _ _ _ _ _ _ _ _ _ _
          refine z_bret0 gi_230_11 gr_230 ?_
          show zW _ _ _ _ _ _ _ _ _ _
          refine z_if_neF gi_249_17 zr_0 (by decide) ?_
          refine z_pushJ gp_249_20 ?_
          refine z_iret gi_249_21 gr_249 ?_
          refine ⟨?_, ?_⟩
          · first | rfl | exact congrArg (fun v => some (zi v)) (by omega) | (exfalso; omega)
          · exact hr
        · refine z_iload0 gi_148_5 ?_
          refine z_iload2 gi_148_6 ?_
          refine z_icmp_gt gi_148_7 (by omega) (by omega) (fun h6 => ?_) (fun h6 => ?_)
          · refine z_pushJ gp_148_14 ?_
            refine z_bret0 gi_148_15 gr_148 ?_
            show zW _ _ _ _ _ _ _ _ _ _
            refine z_bret0 gi_230_11 gr_230 ?_
            show zW _ _ _ _ _ _ _ _ _ _
            refine z_if_neF gi_249_17 zr_0 (by decide) ?_
            refine z_pushJ gp_249_20 ?_
            refine z_iret gi_249_21 gr_249 ?_
            refine ⟨?_, ?_⟩
            · first | rfl | exact congrArg (fun v => some (zi v)) (by omega) | (exfalso; omega)
            · exact hr
          · refine z_pushJ gp_148_10 ?_
            refine z_goto gi_148_11 ?_
            refine z_bret1 gi_148_15 gr_148 ?_
            show zW _ _ _ _ _ _ _ _ _ _
            refine z_bret1 gi_230_11 gr_230 ?_
            show zW _ _ _ _ _ _ _ _ _ _
            refine z_if_neT gi_249_17 zr_1 (by decide) ?_
            refine z_aload0 gi_249_22 ?_
            refine z_getR (r := 83) gi_249_23 gk_50 (hRr _ rm_50_58 (by decide)) ?_
            refine z_iload1 gi_249_26 ?_
            refine z_iload2 gi_249_27 ?_
            refine z_iast (e := b) gi_249_28 gk_83 (by decide) (by decide) rfl ?_
            refine z_pushJ gp_249_29 ?_
            refine z_iret gi_249_30 gr_249 ?_
            refine ⟨?_, ?_⟩
            · first | rfl | exact congrArg (fun v => some (zi v)) (by omega) | (exfalso; omega)
            · exfalso
              omega
    · refine z_iload1 gi_3_4 ?_
      refine z_aload0 gi_3_5 ?_
      refine z_getI (v := J 34 1) gi_3_6 gk_34 (rfl) ?_
      refine z_icmp_ge gi_3_9 (by omega) (by omega) (fun h4 => ?_) (fun h4 => ?_)
      · refine z_pushJ gp_3_16 ?_
        refine z_bret0 gi_3_17 gr_3 ?_
        show zW _ _ _ _ _ _ _ _ _ _
        refine z_if_neF gi_136_20 zr_0 (by decide) ?_
        refine z_pushJ gp_136_23 ?_
        refine z_iret gi_136_24 gr_136 ?_
        refine ⟨_, rfl, ?_⟩
        show zW _ _ _ _ [some (.ref 50), some (zi 5), some (zi b)] _ _ _ _ _
        refine z_iload1 gi_249_0 ?_
        refine z_cS1 gi_249_1 (Nat.le_of_ble_eq_true rfl) gc_248_I ?_
        refine z_iload0 gi_248_0 ?_
        refine z_pushJ gp_248_1 ?_
        refine z_pushJ gp_248_2 ?_
        refine z_cS3 gi_248_3 (Nat.le_of_ble_eq_true rfl) gc_148_III ?_
        refine z_iload0 gi_148_0 ?_
        refine z_iload1 gi_148_1 ?_
        refine z_icmp_ltF gi_148_2 zr_5 zr_0 (by decide) ?_
        refine z_iload0 gi_148_5 ?_
        refine z_iload2 gi_148_6 ?_
        refine z_icmp_gtF gi_148_7 zr_5 zr_5 (by decide) ?_
        refine z_pushJ gp_148_10 ?_
        refine z_goto gi_148_11 ?_
        refine z_bret1 gi_148_15 gr_148 ?_
        show zW _ _ _ _ _ _ _ _ _ _
        refine z_bret1 gi_248_6 gr_248 ?_
        show zW _ _ _ _ _ _ _ _ _ _
        refine z_if_eqF gi_249_4 zr_1 (by decide) ?_
        refine z_iload2 gi_249_7 ?_
        refine z_pushJ gp_249_8 ?_
        refine z_icmp_eq gi_249_9 (by omega) zrn_1 (fun h5 => ?_) (fun h5 => ?_)
        · refine z_aload0 gi_249_22 ?_
          refine z_getR (r := 83) gi_249_23 gk_50 (hRr _ rm_50_58 (by decide)) ?_
          refine z_iload1 gi_249_26 ?_
          refine z_iload2 gi_249_27 ?_
          refine z_iast (e := b) gi_249_28 gk_83 (by decide) (by decide) rfl ?_
          refine z_pushJ gp_249_29 ?_
          refine z_iret gi_249_30 gr_249 ?_
          refine ⟨?_, ?_⟩
          · first | rfl | exact congrArg (fun v => some (zi v)) (by omega) | (exfalso; omega)
          · exfalso
            omega
        · refine z_aload0 gi_249_12 ?_
          refine z_iload2 gi_249_13 ?_
          refine z_cV1 gi_249_14 gk_50 go_230 (Nat.le_of_ble_eq_true rfl) gc_230_RI ?_
          refine z_iload1 gi_230_0 ?_
          refine z_pushJ gp_230_1 ?_
          refine z_aload0 gi_230_2 ?_
          refine z_getI (v := J 50 54) gi_230_3 gk_50 (rfl) ?_
          refine z_pushJ gp_230_6 ?_
          refine z_isub (e := (J 50 54) - 1) gi_230_7 rfl ?_
          refine z_cS3 gi_230_8 (Nat.le_of_ble_eq_true rfl) gc_148_III ?_
          refine z_iload0 gi_148_0 ?_
          refine z_iload1 gi_148_1 ?_
          refine z_icmp_lt gi_148_2 (by omega) zr_0 (fun h6 => ?_) (fun h6 => ?_)
          · refine z_pushJ gp_148_14 ?_
            refine z_bret0 gi_148_15 gr_148 ?_
            show zW _ _ _ _ _ _ _ _ _ _
            refine z_bret0 gi_230_11 gr_230 ?_
            show zW _ _ _ _ _ _ _ _ _ _
            refine z_if_neF gi_249_17 zr_0 (by decide) ?_
            refine z_pushJ gp_249_20 ?_
            refine z_iret gi_249_21 gr_249 ?_
            refine ⟨?_, ?_⟩
            · first | rfl | exact congrArg (fun v => some (zi v)) (by omega) | (exfalso; omega)
            · exact hr
          · refine z_iload0 gi_148_5 ?_
            refine z_iload2 gi_148_6 ?_
            refine z_icmp_gt gi_148_7 (by omega) (by omega) (fun h7 => ?_) (fun h7 => ?_)
            · refine z_pushJ gp_148_14 ?_
              refine z_bret0 gi_148_15 gr_148 ?_
              show zW _ _ _ _ _ _ _ _ _ _
              refine z_bret0 gi_230_11 gr_230 ?_
              show zW _ _ _ _ _ _ _ _ _ _
              refine z_if_neF gi_249_17 zr_0 (by decide) ?_
              refine z_pushJ gp_249_20 ?_
              refine z_iret gi_249_21 gr_249 ?_
              refine ⟨?_, ?_⟩
              · first | rfl | exact congrArg (fun v => some (zi v)) (by omega) | (exfalso; omega)
              · exact hr
            · refine z_pushJ gp_148_10 ?_
              refine z_goto gi_148_11 ?_
              refine z_bret1 gi_148_15 gr_148 ?_
              show zW _ _ _ _ _ _ _ _ _ _
              refine z_bret1 gi_230_11 gr_230 ?_
              show zW _ _ _ _ _ _ _ _ _ _
              refine z_if_neT gi_249_17 zr_1 (by decide) ?_
              refine z_aload0 gi_249_22 ?_
              refine z_getR (r := 83) gi_249_23 gk_50 (hRr _ rm_50_58 (by decide)) ?_
              refine z_iload1 gi_249_26 ?_
              refine z_iload2 gi_249_27 ?_
              refine z_iast (e := b) gi_249_28 gk_83 (by decide) (by decide) rfl ?_
              refine z_pushJ gp_249_29 ?_
              refine z_iret gi_249_30 gr_249 ?_
              refine ⟨?_, ?_⟩
              · first | rfl | exact congrArg (fun v => some (zi v)) (by omega) | (exfalso; omega)
              · exfalso
                omega
      · refine z_pushJ gp_3_12 ?_
        refine z_goto gi_3_13 ?_
        refine z_bret1 gi_3_17 gr_3 ?_
        show zW _ _ _ _ _ _ _ _ _ _
        refine z_if_neT gi_136_20 zr_1 (by decide) ?_
        refine z_iload2 gi_136_25 ?_
        refine z_pushJ gp_136_26 ?_
        refine z_icmp_ne gi_136_27 (by omega) zrn_1 (fun h5 => ?_) (fun h5 => ?_)
        · refine z_aload0 gi_136_42 ?_
          refine z_getR (r := 37) gi_136_43 gk_0 (hR _ rm_0_11) ?_
          refine z_iload1 gi_136_46 ?_
          refine z_aald (r := 48) gi_136_47 rfl (by decide) (by decide) (hR _ rm_37_5) ?_
          refine z_iload2 gi_136_48 ?_
          refine z_cV1 gi_136_49 gk_48 go_67 (Nat.le_of_ble_eq_true rfl) gc_67_RI ?_
          refine z_aload0 gi_67_0 ?_
          refine z_pushJ gp_67_1 ?_
          refine z_putI (y := 0) gi_67_2 rfl gk_48 ?_
          refine z_aload0 gi_67_5 ?_
          refine z_iload1 gi_67_6 ?_
          refine z_putI (y := 1) gi_67_7 rfl gk_48 ?_
          refine z_aload0 gi_67_10 ?_
          refine z_pushJ gp_67_11 ?_
          refine z_putI (y := 3) gi_67_12 rfl gk_48 ?_
          refine z_vret gi_67_15 gr_67 ?_
          show zW _ _ _ _ _ _ _ _ _ _
          refine z_pushJ gp_136_52 ?_
          refine z_iret gi_136_53 gr_136 ?_
          refine ⟨_, rfl, ?_⟩
          show zW _ _ _ _ [some (.ref 50), some (zi 5), some (zi b)] _ _ _ _ _
          refine z_iload1 gi_249_0 ?_
          refine z_cS1 gi_249_1 (Nat.le_of_ble_eq_true rfl) gc_248_I ?_
          refine z_iload0 gi_248_0 ?_
          refine z_pushJ gp_248_1 ?_
          refine z_pushJ gp_248_2 ?_
          refine z_cS3 gi_248_3 (Nat.le_of_ble_eq_true rfl) gc_148_III ?_
          refine z_iload0 gi_148_0 ?_
          refine z_iload1 gi_148_1 ?_
          refine z_icmp_ltF gi_148_2 zr_5 zr_0 (by decide) ?_
          refine z_iload0 gi_148_5 ?_
          refine z_iload2 gi_148_6 ?_
          refine z_icmp_gtF gi_148_7 zr_5 zr_5 (by decide) ?_
          refine z_pushJ gp_148_10 ?_
          refine z_goto gi_148_11 ?_
          refine z_bret1 gi_148_15 gr_148 ?_
          show zW _ _ _ _ _ _ _ _ _ _
          refine z_bret1 gi_248_6 gr_248 ?_
          show zW _ _ _ _ _ _ _ _ _ _
          refine z_if_eqF gi_249_4 zr_1 (by decide) ?_
          refine z_iload2 gi_249_7 ?_
          refine z_pushJ gp_249_8 ?_
          refine z_icmp_eq gi_249_9 (by omega) zrn_1 (fun h6 => ?_) (fun h6 => ?_)
          · refine z_aload0 gi_249_22 ?_
            refine z_getR (r := 83) gi_249_23 gk_50 (hRr _ rm_50_58 (by decide)) ?_
            refine z_iload1 gi_249_26 ?_
            refine z_iload2 gi_249_27 ?_
            refine z_iast (e := b) gi_249_28 gk_83 (by decide) (by decide) rfl ?_
            refine z_pushJ gp_249_29 ?_
            refine z_iret gi_249_30 gr_249 ?_
            refine ⟨?_, ?_⟩
            · first | rfl | exact congrArg (fun v => some (zi v)) (by omega) | (exfalso; omega)
            · have hk := (zK_x (a := 83) (x := 5) (v := b) (zK_x (a := 48) (x := 3) (v := 0) (zK_x (a := 48) (x := 1) (v := b) (zK_x (a := 48) (x := 0) (v := 1) (zK_r (k := (kL [] [(48, 0), (48, 1), (48, 3), (83, 5)])) (A := J)) rfl) rfl) rfl) rfl)
              exact ⟨hR, hG, RelY_k hk (by repeat' constructor) (fun p => by repeat' constructor) hY, RelD_k hk (by repeat' constructor) (fun p => by repeat' constructor) hD, RelP_k hk (by repeat' constructor) (fun p => by repeat' constructor) hP, RelC_k hk (by repeat' constructor) (fun p => by repeat' constructor) hC, RelA_k hk (by repeat' constructor) (fun p => by repeat' constructor) hAc, (RelS_one (J := J) (M := M) (c := 5) (fun t t1 t2 te => by have q : t = 0 ∨ t = 1 ∨ t = 2 ∨ t = 3 ∨ t = 4 ∨ t = 5 := (by omega); rcases q with rfl | rfl | rfl | rfl | rfl | rfl <;> first | exact absurd rfl te | exact ⟨fun j => rfl, rfl, rfl⟩) (fun t t1 t2 te => ⟨fun j => rfl, fun j j1 j2 => rfl⟩) rfl (show RelS1 _ _ _ from ⟨rfl, (show (0 : Int) ≤ 1 ∧ (1 : Int) ≤ 2 from by decide), (hS 5 (by decide) (by decide)).2.2.1, (show (0 : Int) ≤ 0 ∧ (0 : Int) ≤ 60 from by decide), fun _ => (show 0 ≤ b ∧ b < J 34 1 from by omega), fun h => absurd (show (1 : Int) = 2 from h) (by decide)⟩) hS), RelT_k hk (by repeat' constructor) (fun p => by repeat' constructor) hTp, RelX_k hk (by repeat' constructor) (fun p => by repeat' constructor) hX, RelW_k hk ⟨rfl, rfl⟩ trivial hW⟩
          · refine z_aload0 gi_249_12 ?_
            refine z_iload2 gi_249_13 ?_
            refine z_cV1 gi_249_14 gk_50 go_230 (Nat.le_of_ble_eq_true rfl) gc_230_RI ?_
            refine z_iload1 gi_230_0 ?_
            refine z_pushJ gp_230_1 ?_
            refine z_aload0 gi_230_2 ?_
            refine z_getI (v := J 50 54) gi_230_3 gk_50 ((zU_n (by decide)).trans ((zU_n (by decide)).trans ((zU_n (by decide)).trans (rfl)))) ?_
            refine z_pushJ gp_230_6 ?_
            refine z_isub (e := (J 50 54) - 1) gi_230_7 rfl ?_
            refine z_cS3 gi_230_8 (Nat.le_of_ble_eq_true rfl) gc_148_III ?_
            refine z_iload0 gi_148_0 ?_
            refine z_iload1 gi_148_1 ?_
            refine z_icmp_lt gi_148_2 (by omega) zr_0 (fun h7 => ?_) (fun h7 => ?_)
            · refine z_pushJ gp_148_14 ?_
              refine z_bret0 gi_148_15 gr_148 ?_
              show zW _ _ _ _ _ _ _ _ _ _
              refine z_bret0 gi_230_11 gr_230 ?_
              show zW _ _ _ _ _ _ _ _ _ _
              refine z_if_neF gi_249_17 zr_0 (by decide) ?_
              refine z_pushJ gp_249_20 ?_
              refine z_iret gi_249_21 gr_249 ?_
              refine ⟨?_, ?_⟩
              · first | rfl | exact congrArg (fun v => some (zi v)) (by omega) | (exfalso; omega)
              · exfalso
                omega
            · refine z_iload0 gi_148_5 ?_
              refine z_iload2 gi_148_6 ?_
              refine z_icmp_gt gi_148_7 (by omega) (by omega) (fun h8 => ?_) (fun h8 => ?_)
              · refine z_pushJ gp_148_14 ?_
                refine z_bret0 gi_148_15 gr_148 ?_
                show zW _ _ _ _ _ _ _ _ _ _
                refine z_bret0 gi_230_11 gr_230 ?_
                show zW _ _ _ _ _ _ _ _ _ _
                refine z_if_neF gi_249_17 zr_0 (by decide) ?_
                refine z_pushJ gp_249_20 ?_
                refine z_iret gi_249_21 gr_249 ?_
                refine ⟨?_, ?_⟩
                · first | rfl | exact congrArg (fun v => some (zi v)) (by omega) | (exfalso; omega)
                · exfalso
                  omega
              · refine z_pushJ gp_148_10 ?_
                refine z_goto gi_148_11 ?_
                refine z_bret1 gi_148_15 gr_148 ?_
                show zW _ _ _ _ _ _ _ _ _ _
                refine z_bret1 gi_230_11 gr_230 ?_
                show zW _ _ _ _ _ _ _ _ _ _
                refine z_if_neT gi_249_17 zr_1 (by decide) ?_
                refine z_aload0 gi_249_22 ?_
                refine z_getR (r := 83) gi_249_23 gk_50 (hRr _ rm_50_58 (by decide)) ?_
                refine z_iload1 gi_249_26 ?_
                refine z_iload2 gi_249_27 ?_
                refine z_iast (e := b) gi_249_28 gk_83 (by decide) (by decide) rfl ?_
                refine z_pushJ gp_249_29 ?_
                refine z_iret gi_249_30 gr_249 ?_
                refine ⟨?_, ?_⟩
                · first | rfl | exact congrArg (fun v => some (zi v)) (by omega) | (exfalso; omega)
                · have hk := (zK_x (a := 83) (x := 5) (v := b) (zK_x (a := 48) (x := 3) (v := 0) (zK_x (a := 48) (x := 1) (v := b) (zK_x (a := 48) (x := 0) (v := 1) (zK_r (k := (kL [] [(48, 0), (48, 1), (48, 3), (83, 5)])) (A := J)) rfl) rfl) rfl) rfl)
                  exact ⟨hR, hG, RelY_k hk (by repeat' constructor) (fun p => by repeat' constructor) hY, RelD_k hk (by repeat' constructor) (fun p => by repeat' constructor) hD, RelP_k hk (by repeat' constructor) (fun p => by repeat' constructor) hP, RelC_k hk (by repeat' constructor) (fun p => by repeat' constructor) hC, RelA_k hk (by repeat' constructor) (fun p => by repeat' constructor) hAc, (RelS_one (J := J) (M := M) (c := 5) (fun t t1 t2 te => by have q : t = 0 ∨ t = 1 ∨ t = 2 ∨ t = 3 ∨ t = 4 ∨ t = 5 := (by omega); rcases q with rfl | rfl | rfl | rfl | rfl | rfl <;> first | exact absurd rfl te | exact ⟨fun j => rfl, rfl, rfl⟩) (fun t t1 t2 te => ⟨fun j => rfl, fun j j1 j2 => rfl⟩) rfl (show RelS1 _ _ _ from ⟨rfl, (show (0 : Int) ≤ 1 ∧ (1 : Int) ≤ 2 from by decide), (hS 5 (by decide) (by decide)).2.2.1, (show (0 : Int) ≤ 0 ∧ (0 : Int) ≤ 60 from by decide), fun _ => (show 0 ≤ b ∧ b < J 34 1 from by omega), fun h => absurd (show (1 : Int) = 2 from h) (by decide)⟩) hS), RelT_k hk (by repeat' constructor) (fun p => by repeat' constructor) hTp, RelX_k hk (by repeat' constructor) (fun p => by repeat' constructor) hX, RelW_k hk ⟨rfl, rfl⟩ trivial hW⟩
        · refine z_aload0 gi_136_30 ?_
          refine z_getR (r := 37) gi_136_31 gk_0 (hR _ rm_0_11) ?_
          refine z_iload1 gi_136_34 ?_
          refine z_aald (r := 48) gi_136_35 rfl (by decide) (by decide) (hR _ rm_37_5) ?_
          refine z_cV0 gi_136_36 gk_48 go_66 (Nat.le_of_ble_eq_true rfl) gc_66_R ?_
          refine z_aload0 gi_66_0 ?_
          refine z_pushJ gp_66_1 ?_
          refine z_putI (y := 0) gi_66_2 rfl gk_48 ?_
          refine z_aload0 gi_66_5 ?_
          refine z_pushJ gp_66_6 ?_
          refine z_putI (y := 3) gi_66_7 rfl gk_48 ?_
          refine z_vret gi_66_10 gr_66 ?_
          show zW _ _ _ _ _ _ _ _ _ _
          refine z_goto gi_136_39 ?_
          refine z_pushJ gp_136_52 ?_
          refine z_iret gi_136_53 gr_136 ?_
          refine ⟨_, rfl, ?_⟩
          show zW _ _ _ _ [some (.ref 50), some (zi 5), some (zi b)] _ _ _ _ _
          refine z_iload1 gi_249_0 ?_
          refine z_cS1 gi_249_1 (Nat.le_of_ble_eq_true rfl) gc_248_I ?_
          refine z_iload0 gi_248_0 ?_
          refine z_pushJ gp_248_1 ?_
          refine z_pushJ gp_248_2 ?_
          refine z_cS3 gi_248_3 (Nat.le_of_ble_eq_true rfl) gc_148_III ?_
          refine z_iload0 gi_148_0 ?_
          refine z_iload1 gi_148_1 ?_
          refine z_icmp_ltF gi_148_2 zr_5 zr_0 (by decide) ?_
          refine z_iload0 gi_148_5 ?_
          refine z_iload2 gi_148_6 ?_
          refine z_icmp_gtF gi_148_7 zr_5 zr_5 (by decide) ?_
          refine z_pushJ gp_148_10 ?_
          refine z_goto gi_148_11 ?_
          refine z_bret1 gi_148_15 gr_148 ?_
          show zW _ _ _ _ _ _ _ _ _ _
          refine z_bret1 gi_248_6 gr_248 ?_
          show zW _ _ _ _ _ _ _ _ _ _
          refine z_if_eqF gi_249_4 zr_1 (by decide) ?_
          refine z_iload2 gi_249_7 ?_
          refine z_pushJ gp_249_8 ?_
          refine z_icmp_eq gi_249_9 (by omega) zrn_1 (fun h6 => ?_) (fun h6 => ?_)
          · refine z_aload0 gi_249_22 ?_
            refine z_getR (r := 83) gi_249_23 gk_50 (hRr _ rm_50_58 (by decide)) ?_
            refine z_iload1 gi_249_26 ?_
            refine z_iload2 gi_249_27 ?_
            refine z_iast (e := b) gi_249_28 gk_83 (by decide) (by decide) rfl ?_
            refine z_pushJ gp_249_29 ?_
            refine z_iret gi_249_30 gr_249 ?_
            refine ⟨?_, ?_⟩
            · first | rfl | exact congrArg (fun v => some (zi v)) (by omega) | (exfalso; omega)
            · have hk := (zK_x (a := 83) (x := 5) (v := b) (zK_x (a := 48) (x := 3) (v := 0) (zK_x (a := 48) (x := 0) (v := 0) (zK_r (k := (kL [] [(48, 0), (48, 3), (83, 5)])) (A := J)) rfl) rfl) rfl)
              exact ⟨hR, hG, RelY_k hk (by repeat' constructor) (fun p => by repeat' constructor) hY, RelD_k hk (by repeat' constructor) (fun p => by repeat' constructor) hD, RelP_k hk (by repeat' constructor) (fun p => by repeat' constructor) hP, RelC_k hk (by repeat' constructor) (fun p => by repeat' constructor) hC, RelA_k hk (by repeat' constructor) (fun p => by repeat' constructor) hAc, (RelS_one (J := J) (M := M) (c := 5) (fun t t1 t2 te => by have q : t = 0 ∨ t = 1 ∨ t = 2 ∨ t = 3 ∨ t = 4 ∨ t = 5 := (by omega); rcases q with rfl | rfl | rfl | rfl | rfl | rfl <;> first | exact absurd rfl te | exact ⟨fun j => rfl, rfl, rfl⟩) (fun t t1 t2 te => ⟨fun j => rfl, fun j j1 j2 => rfl⟩) rfl (show RelS1 _ _ _ from ⟨(show (-1 : Int) = b from by omega), (show (0 : Int) ≤ 0 ∧ (0 : Int) ≤ 2 from by decide), (hS 5 (by decide) (by decide)).2.2.1, (show (0 : Int) ≤ 0 ∧ (0 : Int) ≤ 60 from by decide), fun h => absurd (show (0 : Int) = 1 from h) (by decide), fun h => absurd (show (0 : Int) = 2 from h) (by decide)⟩) hS), RelT_k hk (by repeat' constructor) (fun p => by repeat' constructor) hTp, RelX_k hk (by repeat' constructor) (fun p => by repeat' constructor) hX, RelW_k hk ⟨rfl, rfl⟩ trivial hW⟩
          · refine z_aload0 gi_249_12 ?_
            refine z_iload2 gi_249_13 ?_
            refine z_cV1 gi_249_14 gk_50 go_230 (Nat.le_of_ble_eq_true rfl) gc_230_RI ?_
            refine z_iload1 gi_230_0 ?_
            refine z_pushJ gp_230_1 ?_
            refine z_aload0 gi_230_2 ?_
            refine z_getI (v := J 50 54) gi_230_3 gk_50 ((zU_n (by decide)).trans ((zU_n (by decide)).trans (rfl))) ?_
            refine z_pushJ gp_230_6 ?_
            refine z_isub (e := (J 50 54) - 1) gi_230_7 rfl ?_
            refine z_cS3 gi_230_8 (Nat.le_of_ble_eq_true rfl) gc_148_III ?_
            refine z_iload0 gi_148_0 ?_
            refine z_iload1 gi_148_1 ?_
            refine z_icmp_lt gi_148_2 (by omega) zr_0 (fun h7 => ?_) (fun h7 => ?_)
            · refine z_pushJ gp_148_14 ?_
              refine z_bret0 gi_148_15 gr_148 ?_
              show zW _ _ _ _ _ _ _ _ _ _
              refine z_bret0 gi_230_11 gr_230 ?_
              show zW _ _ _ _ _ _ _ _ _ _
              refine z_if_neF gi_249_17 zr_0 (by decide) ?_
              refine z_pushJ gp_249_20 ?_
              refine z_iret gi_249_21 gr_249 ?_
              refine ⟨?_, ?_⟩
              · first | rfl | exact congrArg (fun v => some (zi v)) (by omega) | (exfalso; omega)
              · exfalso
                omega
            · refine z_iload0 gi_148_5 ?_
              refine z_iload2 gi_148_6 ?_
              refine z_icmp_gt gi_148_7 (by omega) (by omega) (fun h8 => ?_) (fun h8 => ?_)
              · refine z_pushJ gp_148_14 ?_
                refine z_bret0 gi_148_15 gr_148 ?_
                show zW _ _ _ _ _ _ _ _ _ _
                refine z_bret0 gi_230_11 gr_230 ?_
                show zW _ _ _ _ _ _ _ _ _ _
                refine z_if_neF gi_249_17 zr_0 (by decide) ?_
                refine z_pushJ gp_249_20 ?_
                refine z_iret gi_249_21 gr_249 ?_
                refine ⟨?_, ?_⟩
                · first | rfl | exact congrArg (fun v => some (zi v)) (by omega) | (exfalso; omega)
                · exfalso
                  omega
              · refine z_pushJ gp_148_10 ?_
                refine z_goto gi_148_11 ?_
                refine z_bret1 gi_148_15 gr_148 ?_
                show zW _ _ _ _ _ _ _ _ _ _
                refine z_bret1 gi_230_11 gr_230 ?_
                show zW _ _ _ _ _ _ _ _ _ _
                refine z_if_neT gi_249_17 zr_1 (by decide) ?_
                refine z_aload0 gi_249_22 ?_
                refine z_getR (r := 83) gi_249_23 gk_50 (hRr _ rm_50_58 (by decide)) ?_
                refine z_iload1 gi_249_26 ?_
                refine z_iload2 gi_249_27 ?_
                refine z_iast (e := b) gi_249_28 gk_83 (by decide) (by decide) rfl ?_
                refine z_pushJ gp_249_29 ?_
                refine z_iret gi_249_30 gr_249 ?_
                refine ⟨?_, ?_⟩
                · first | rfl | exact congrArg (fun v => some (zi v)) (by omega) | (exfalso; omega)
                · have hk := (zK_x (a := 83) (x := 5) (v := b) (zK_x (a := 48) (x := 3) (v := 0) (zK_x (a := 48) (x := 0) (v := 0) (zK_r (k := (kL [] [(48, 0), (48, 3), (83, 5)])) (A := J)) rfl) rfl) rfl)
                  exact ⟨hR, hG, RelY_k hk (by repeat' constructor) (fun p => by repeat' constructor) hY, RelD_k hk (by repeat' constructor) (fun p => by repeat' constructor) hD, RelP_k hk (by repeat' constructor) (fun p => by repeat' constructor) hP, RelC_k hk (by repeat' constructor) (fun p => by repeat' constructor) hC, RelA_k hk (by repeat' constructor) (fun p => by repeat' constructor) hAc, (RelS_one (J := J) (M := M) (c := 5) (fun t t1 t2 te => by have q : t = 0 ∨ t = 1 ∨ t = 2 ∨ t = 3 ∨ t = 4 ∨ t = 5 := (by omega); rcases q with rfl | rfl | rfl | rfl | rfl | rfl <;> first | exact absurd rfl te | exact ⟨fun j => rfl, rfl, rfl⟩) (fun t t1 t2 te => ⟨fun j => rfl, fun j j1 j2 => rfl⟩) rfl (show RelS1 _ _ _ from ⟨(show (-1 : Int) = b from by omega), (show (0 : Int) ≤ 0 ∧ (0 : Int) ≤ 2 from by decide), (hS 5 (by decide) (by decide)).2.2.1, (show (0 : Int) ≤ 0 ∧ (0 : Int) ≤ 60 from by decide), fun h => absurd (show (0 : Int) = 1 from h) (by decide), fun h => absurd (show (0 : Int) = 2 from h) (by decide)⟩) hS), RelT_k hk (by repeat' constructor) (fun p => by repeat' constructor) hTp, RelX_k hk (by repeat' constructor) (fun p => by repeat' constructor) hX, RelW_k hk ⟨rfl, rfl⟩ trivial hW⟩
