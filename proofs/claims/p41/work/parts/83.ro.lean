theorem zS_lo {J : zA} {c : Nat} {lo : Int} : zS J c (fun y => if lo ≤ y then 0 else J c y) lo = J := by
  funext x y
  by_cases h : x = c
  · subst h
    rw [zS_i]
    split
    · rw [if_neg (by omega)]
    · rfl
  · rw [zS_n h]
theorem zS_lo_o {J : zA} {c : Nat} {lo m y : Int} (h : y < lo ∨ m ≤ y) : zS J c (fun y => if lo ≤ y then 0 else J c y) m c y = J c y := by
  rw [zS_i]
  split
  · rw [if_neg (by omega)]
  · rfl
theorem zS_lo_i {J : zA} {c : Nat} {lo m y : Int} (h0 : 0 ≤ lo) (h : lo ≤ y ∧ y < m) : zS J c (fun y => if lo ≤ y then 0 else J c y) m c y = 0 := by
  rw [zS_at (by omega), if_pos h.1]
theorem zS_01m {X : Nat × (Nat → Int32)} {d k pc : Nat} {ls : List (Option Value)} {st : List Value} {J M : zA} {R : zR} {P : zP} {c : Nat} {f : Int → Int} (h : zW X d k pc ls st J (zS M c f 0) R P) : zW X d k pc ls st J M R P := by
  rw [zS_0] at h
  exact h
theorem rowC_z {X : Nat × (Nat → Int32)} {d : Nat} {J M : zA} {R : zR} {P : zP} {a b : Nat} {so n : Int} (hb : (gK 87)[b]? = some (7, 0)) (ha : (gK 87)[a]? = some (13, 60)) (hba : R b 4 = some a) : ∀ (j : Nat) (i : Int), i + j = 60 → 0 ≤ i → zW X d 68 36 [some (.ref (b)), some (zi so), some (zi n), some (zi 60)] [] J (zS M a (fun _ => 0) 60) R P → zW X d 68 17 [some (.ref (b)), some (zi so), some (zi n), some (zi i)] [] J (zS M a (fun _ => 0) i) R P := by
  intro j
  induction j with
  | zero =>
    intro i hi h0 K
    obtain rfl : i = 60 := by omega
    refine z_iload rfl rfl ?_
    refine z_pushI (z := 60) rfl rfl ?_
    exact z_icmp_geT rfl (by omega) (by omega) (by omega) K
  | succ j ih =>
    intro i hi h0 K
    refine z_iload3 rfl ?_
    refine z_pushJ gp_68_18 ?_
    refine z_icmp_geF rfl (by omega) zr_60 (by omega) ?_
    refine z_aload0 rfl ?_
    refine z_getR (r := a) rfl hb (hba) ?_
    refine z_iload3 rfl ?_
    refine z_pushL (z := 0) rfl rfl ?_
    refine z_last (e := 0) rfl ha (by decide) (by omega) rfl ?_
    refine z_iinc (c := 1) (e := i + 1) (ls1 := [some (.ref (b)), some (zi so), some (zi n), some (zi (i + 1))]) rfl rfl rfl rfl rfl ?_
    refine z_goto rfl ?_
    show zW _ _ _ _ [some (.ref (b)), some (zi so), some (zi n), some (zi (i + 1))] [] _ _ _ _
    rw [zS_s h0 rfl]
    exact ih (i + 1) (by omega) (by omega) K
theorem rowC_k {X : Nat × (Nat → Int32)} {d : Nat} {J M : zA} {R : zR} {P : zP} {a b : Nat} {so n : Int} (hb : (gK 87)[b]? = some (7, 0)) (ha : (gK 87)[a]? = some (13, 60)) (hba : R b 4 = some a) (K : zW X d 68 36 [some (.ref (b)), some (zi so), some (zi n), some (zi 60)] [] J (zS M a (fun _ => 0) 60) R P) : zW X d 68 17 [some (.ref (b)), some (zi so), some (zi n), some (zi 0)] [] J M R P := zS_01m (c := a) (f := fun _ => 0) (rowC_z hb ha hba 60 0 (by decide) (by decide) K)
theorem rowR_z {X : Nat × (Nat → Int32)} {d : Nat} {J M : zA} {R : zR} {P : zP} {s so n lo : Int} (hR : zRoR R) (hs : 0 ≤ s ∧ s < 6) (hlo : lo = 60 * s) : ∀ (j : Nat) (i : Int), i + j = 60 → 0 ≤ i → zW X d 250 80 [some (.ref 50), some (zi s), some (zi so), some (zi n), some (zi (lo + 60))] [] J (zS M 85 (fun y => if lo ≤ y then 0 else M 85 y) (lo + 60)) R P → zW X d 250 54 [some (.ref 50), some (zi s), some (zi so), some (zi n), some (zi (lo + i))] [] J (zS M 85 (fun y => if lo ≤ y then 0 else M 85 y) (lo + i)) R P := by
  intro j
  induction j with
  | zero =>
    intro i hi h0 K
    obtain rfl : i = 60 := by omega
    refine z_iload rfl rfl ?_
    refine z_pushI (z := 60) rfl rfl ?_
    refine z_iload rfl rfl ?_
    refine z_imul (e := 60 * s) rfl rfl ?_
    refine z_pushI (z := 60) rfl rfl ?_
    refine z_iadd (e := 60 * s + 60) rfl rfl ?_
    exact z_icmp_geT rfl (by omega) (by omega) (by omega) K
  | succ j ih =>
    intro i hi h0 K
    refine z_iload4 rfl ?_
    refine z_pushJ gp_250_56 ?_
    refine z_iload1 rfl ?_
    refine z_imul (e := 60 * s) rfl rfl ?_
    refine z_pushJ gp_250_60 ?_
    refine z_iadd (e := 60 * s + 60) rfl rfl ?_
    refine z_icmp_geF rfl (by omega) (by omega) (by omega) ?_
    refine z_aload0 rfl ?_
    refine z_getR (r := 85) rfl gk_50 (hR _ rm_50_60 (by decide)) ?_
    refine z_iload4 rfl ?_
    refine z_pushL (z := 0) rfl rfl ?_
    refine z_last (e := 0) rfl gk_85 (by decide) (by omega) rfl ?_
    refine z_iinc (c := 1) (e := lo + i + 1) (ls1 := [some (.ref 50), some (zi s), some (zi so), some (zi n), some (zi (lo + i + 1))]) rfl rfl rfl rfl rfl ?_
    refine z_goto rfl ?_
    show zW _ _ _ _ [some (.ref 50), some (zi s), some (zi so), some (zi n), some (zi (lo + i + 1))] [] _ _ _ _
    rw [zS_s (f := (fun y => if lo ≤ y then 0 else M 85 y)) (by omega) (show (if lo ≤ lo + i then (0 : Int) else M 85 (lo + i)) = 0 by rw [if_pos (by omega)]), show lo + i + 1 = lo + (i + 1) by omega]
    exact ih (i + 1) (by omega) (by omega) K
theorem rowR_k {X : Nat × (Nat → Int32)} {d : Nat} {J M : zA} {R : zR} {P : zP} {s so n lo : Int} (hR : zRoR R) (hs : 0 ≤ s ∧ s < 6) (hlo : lo = 60 * s) (K : zW X d 250 80 [some (.ref 50), some (zi s), some (zi so), some (zi n), some (zi (lo + 60))] [] J (zS M 85 (fun y => if lo ≤ y then 0 else M 85 y) (lo + 60)) R P) : zW X d 250 54 [some (.ref 50), some (zi s), some (zi so), some (zi n), some (zi lo)] [] J M R P := by
  have h := rowR_z (so := so) (n := n) hR hs hlo 60 0 (by decide) (by decide) K
  rw [Int.add_zero, zS_lo] at h
  exact h
theorem st_row_0 {X : Nat × (Nat → Int32)} {d : Nat} {J M : zA} {R : zR} {w n : Int} (hr : Rel X J M R) (hw : -2147483648 ≤ w ∧ w < 2147483648) (hn : -2147483648 ≤ n ∧ n < 2147483648)  : zW X (d + 20) 137 0 (gEn 137 [(.ref 0), (zi 0), (zi w), (zi n)]) [] J M R (stP X (d + 20) 250 [(zi 0), (zi w), (zi n)]) := by
  have hr0 := hr
  obtain ⟨hR, hG, hY, hD, hP, hC, hAc, hS, hTp, hX, hW⟩ := hr0
  have hRr : zRoR R := zRoR_of hR
  show zW _ _ _ _ [some (.ref 0), some (zi 0), some (zi w), some (zi n)] _ _ _ _ _
  refine z_iload1 gi_137_0 ?_
  refine z_cS1 gi_137_1 (Nat.le_of_ble_eq_true rfl) gc_143_I ?_
  refine z_iload0 gi_143_0 ?_
  refine z_if_ltF gi_143_1 zr_0 (by decide) ?_
  refine z_iload0 gi_143_4 ?_
  refine z_pushJ gp_143_5 ?_
  refine z_icmp_geF gi_143_7 zr_0 zr_6 (by decide) ?_
  refine z_pushJ gp_143_10 ?_
  refine z_goto gi_143_11 ?_
  refine z_bret1 gi_143_15 gr_143 ?_
  show zW _ _ _ _ _ _ _ _ _ _
  refine z_if_eqF gi_137_4 zr_1 (by decide) ?_
  refine z_iload2 gi_137_7 ?_
  refine z_cS1 gi_137_8 (Nat.le_of_ble_eq_true rfl) gc_61_I ?_
  refine z_iload0 gi_61_0 ?_
  refine z_if_lt gi_61_1 (by omega) (fun h1 => ?_) (fun h1 => ?_)
  · refine z_pushJ gp_61_13 ?_
    refine z_bret0 gi_61_14 gr_61 ?_
    show zW _ _ _ _ _ _ _ _ _ _
    refine z_if_eqT gi_137_11 zr_0 (by decide) ?_
    refine z_pushJ gp_137_20 ?_
    refine z_iret gi_137_21 gr_137 ?_
    refine ⟨_, rfl, ?_⟩
    show zW _ _ _ _ [some (.ref 50), some (zi 0), some (zi w), some (zi n), none] _ _ _ _ _
    refine z_iload1 gi_250_0 ?_
    refine z_cS1 gi_250_1 (Nat.le_of_ble_eq_true rfl) gc_248_I ?_
    refine z_iload0 gi_248_0 ?_
    refine z_pushJ gp_248_1 ?_
    refine z_pushJ gp_248_2 ?_
    refine z_cS3 gi_248_3 (Nat.le_of_ble_eq_true rfl) gc_148_III ?_
    refine z_iload0 gi_148_0 ?_
    refine z_iload1 gi_148_1 ?_
    refine z_icmp_ltF gi_148_2 zr_0 zr_0 (by decide) ?_
    refine z_iload0 gi_148_5 ?_
    refine z_iload2 gi_148_6 ?_
    refine z_icmp_gtF gi_148_7 zr_0 zr_5 (by decide) ?_
    refine z_pushJ gp_148_10 ?_
    refine z_goto gi_148_11 ?_
    refine z_bret1 gi_148_15 gr_148 ?_
    show zW _ _ _ _ _ _ _ _ _ _
    refine z_bret1 gi_248_6 gr_248 ?_
    show zW _ _ _ _ _ _ _ _ _ _
    refine z_if_eqF gi_250_4 zr_1 (by decide) ?_
    refine z_iload2 gi_250_7 ?_
    refine z_pushJ gp_250_8 ?_
    refine z_pushJ gp_250_9 ?_
    refine z_cS3 gi_250_10 (Nat.le_of_ble_eq_true rfl) gc_148_III ?_
    refine z_iload0 gi_148_0 ?_
    refine z_iload1 gi_148_1 ?_
    refine z_icmp_ltT gi_148_2 (by omega) zr_0 (by omega) ?_
    refine z_pushJ gp_148_14 ?_
    refine z_bret0 gi_148_15 gr_148 ?_
    show zW _ _ _ _ _ _ _ _ _ _
    refine z_if_eqT gi_250_13 zr_0 (by decide) ?_
    refine z_pushJ gp_250_22 ?_
    refine z_iret gi_250_23 gr_250 ?_
    refine ⟨?_, ?_⟩
    · first | rfl | exact congrArg (fun v => some (zi v)) (by omega) | (exfalso; omega)
    · exact hr
  · refine z_iload0 gi_61_4 ?_
    refine z_pushJ gp_61_5 ?_
    refine z_icmp_gt gi_61_6 (by omega) zr_4 (fun h2 => ?_) (fun h2 => ?_)
    · refine z_pushJ gp_61_13 ?_
      refine z_bret0 gi_61_14 gr_61 ?_
      show zW _ _ _ _ _ _ _ _ _ _
      refine z_if_eqT gi_137_11 zr_0 (by decide) ?_
      refine z_pushJ gp_137_20 ?_
      refine z_iret gi_137_21 gr_137 ?_
      refine ⟨_, rfl, ?_⟩
      show zW _ _ _ _ [some (.ref 50), some (zi 0), some (zi w), some (zi n), none] _ _ _ _ _
      refine z_iload1 gi_250_0 ?_
      refine z_cS1 gi_250_1 (Nat.le_of_ble_eq_true rfl) gc_248_I ?_
      refine z_iload0 gi_248_0 ?_
      refine z_pushJ gp_248_1 ?_
      refine z_pushJ gp_248_2 ?_
      refine z_cS3 gi_248_3 (Nat.le_of_ble_eq_true rfl) gc_148_III ?_
      refine z_iload0 gi_148_0 ?_
      refine z_iload1 gi_148_1 ?_
      refine z_icmp_ltF gi_148_2 zr_0 zr_0 (by decide) ?_
      refine z_iload0 gi_148_5 ?_
      refine z_iload2 gi_148_6 ?_
      refine z_icmp_gtF gi_148_7 zr_0 zr_5 (by decide) ?_
      refine z_pushJ gp_148_10 ?_
      refine z_goto gi_148_11 ?_
      refine z_bret1 gi_148_15 gr_148 ?_
      show zW _ _ _ _ _ _ _ _ _ _
      refine z_bret1 gi_248_6 gr_248 ?_
      show zW _ _ _ _ _ _ _ _ _ _
      refine z_if_eqF gi_250_4 zr_1 (by decide) ?_
      refine z_iload2 gi_250_7 ?_
      refine z_pushJ gp_250_8 ?_
      refine z_pushJ gp_250_9 ?_
      refine z_cS3 gi_250_10 (Nat.le_of_ble_eq_true rfl) gc_148_III ?_
      refine z_iload0 gi_148_0 ?_
      refine z_iload1 gi_148_1 ?_
      refine z_icmp_ltF gi_148_2 (by omega) zr_0 (by omega) ?_
      refine z_iload0 gi_148_5 ?_
      refine z_iload2 gi_148_6 ?_
      refine z_icmp_gtT gi_148_7 (by omega) zr_4 (by omega) ?_
      refine z_pushJ gp_148_14 ?_
      refine z_bret0 gi_148_15 gr_148 ?_
      show zW _ _ _ _ _ _ _ _ _ _
      refine z_if_eqT gi_250_13 zr_0 (by decide) ?_
      refine z_pushJ gp_250_22 ?_
      refine z_iret gi_250_23 gr_250 ?_
      refine ⟨?_, ?_⟩
      · first | rfl | exact congrArg (fun v => some (zi v)) (by omega) | (exfalso; omega)
      · exact hr
    · refine z_pushJ gp_61_9 ?_
      refine z_goto gi_61_10 ?_
      refine z_bret1 gi_61_14 gr_61 ?_
      show zW _ _ _ _ _ _ _ _ _ _
      refine z_if_eqF gi_137_11 zr_1 (by decide) ?_
      refine z_iload3 gi_137_14 ?_
      refine z_pushJ gp_137_15 ?_
      refine z_icmp_le gi_137_17 (by omega) zr_60 (fun h3 => ?_) (fun h3 => ?_)
      · refine z_iload3 gi_137_22 ?_
        refine z_if_ge gi_137_23 (by omega) (fun h4 => ?_) (fun h4 => ?_)
        · refine z_aload0 gi_137_29 ?_
          refine z_getR (r := 37) gi_137_30 gk_0 (hR _ rm_0_11) ?_
          refine z_iload1 gi_137_33 ?_
          refine z_aald (r := 38) gi_137_34 rfl (by decide) (by decide) (hR _ rm_37_0) ?_
          refine z_iload2 gi_137_35 ?_
          refine z_iload3 gi_137_36 ?_
          refine z_callVi (As := [_, _]) (le := [some _, some _, some _, none]) gi_137_37 rfl gk_38 (Nat.le_of_ble_eq_true rfl) (Nat.le_of_ble_eq_true rfl) rfl ?_
          refine z_aload0 gi_68_0 ?_
          refine z_pushJ gp_68_1 ?_
          refine z_putI (y := 0) gi_68_2 rfl gk_38 ?_
          refine z_aload0 gi_68_5 ?_
          refine z_iload1 gi_68_6 ?_
          refine z_putI (y := 2) gi_68_7 rfl gk_38 ?_
          refine z_aload0 gi_68_10 ?_
          refine z_iload2 gi_68_11 ?_
          refine z_putI (y := 3) gi_68_12 rfl gk_38 ?_
          refine z_pushJ gp_68_15 ?_
          refine z_istore (ls1 := [some (.ref 38), some (zi w), some (zi n), some (zi 0)]) gi_68_16 rfl ?_
          show zW _ _ _ _ [some (.ref 38), some (zi w), some (zi n), some (zi 0)] [] _ _ _ _
          refine rowC_k (a := 39) rfl rfl (hR _ rm_38_4) ?_
          refine z_vret gi_68_36 gr_68 ?_
          show zW _ _ _ _ _ _ _ _ _ _
          refine z_pushJ gp_137_40 ?_
          refine z_iret gi_137_41 gr_137 ?_
          refine ⟨_, rfl, ?_⟩
          show zW _ _ _ _ [some (.ref 50), some (zi 0), some (zi w), some (zi n), none] _ _ _ _ _
          refine z_iload1 gi_250_0 ?_
          refine z_cS1 gi_250_1 (Nat.le_of_ble_eq_true rfl) gc_248_I ?_
          refine z_iload0 gi_248_0 ?_
          refine z_pushJ gp_248_1 ?_
          refine z_pushJ gp_248_2 ?_
          refine z_cS3 gi_248_3 (Nat.le_of_ble_eq_true rfl) gc_148_III ?_
          refine z_iload0 gi_148_0 ?_
          refine z_iload1 gi_148_1 ?_
          refine z_icmp_ltF gi_148_2 zr_0 zr_0 (by decide) ?_
          refine z_iload0 gi_148_5 ?_
          refine z_iload2 gi_148_6 ?_
          refine z_icmp_gtF gi_148_7 zr_0 zr_5 (by decide) ?_
          refine z_pushJ gp_148_10 ?_
          refine z_goto gi_148_11 ?_
          refine z_bret1 gi_148_15 gr_148 ?_
          show zW _ _ _ _ _ _ _ _ _ _
          refine z_bret1 gi_248_6 gr_248 ?_
          show zW _ _ _ _ _ _ _ _ _ _
          refine z_if_eqF gi_250_4 zr_1 (by decide) ?_
          refine z_iload2 gi_250_7 ?_
          refine z_pushJ gp_250_8 ?_
          refine z_pushJ gp_250_9 ?_
          refine z_cS3 gi_250_10 (Nat.le_of_ble_eq_true rfl) gc_148_III ?_
          refine z_iload0 gi_148_0 ?_
          refine z_iload1 gi_148_1 ?_
          refine z_icmp_ltF gi_148_2 (by omega) zr_0 (by omega) ?_
          refine z_iload0 gi_148_5 ?_
          refine z_iload2 gi_148_6 ?_
          refine z_icmp_gtF gi_148_7 (by omega) zr_4 (by omega) ?_
          refine z_pushJ gp_148_10 ?_
          refine z_goto gi_148_11 ?_
          refine z_bret1 gi_148_15 gr_148 ?_
          show zW _ _ _ _ _ _ _ _ _ _
          refine z_if_eqF gi_250_13 zr_1 (by decide) ?_
          refine z_iload3 gi_250_16 ?_
          refine z_pushJ gp_250_17 ?_
          refine z_icmp_leT gi_250_19 (by omega) zr_60 (by omega) ?_
          refine z_iload3 gi_250_24 ?_
          refine z_if_geT gi_250_25 (by omega) (by omega) ?_
          refine z_aload0 gi_250_31 ?_
          refine z_getR (r := 83) gi_250_32 gk_50 (hRr _ rm_50_58 (by decide)) ?_
          refine z_iload1 gi_250_35 ?_
          refine z_pushJ gp_250_36 ?_
          refine z_iload2 gi_250_38 ?_
          refine z_isub (e := (-2) - w) gi_250_39 rfl ?_
          refine z_iast (e := (-2) - w) gi_250_40 gk_83 (by decide) (by decide) rfl ?_
          refine z_aload0 gi_250_41 ?_
          refine z_getR (r := 84) gi_250_42 gk_50 (hRr _ rm_50_59 (by decide)) ?_
          refine z_iload1 gi_250_45 ?_
          refine z_iload3 gi_250_46 ?_
          refine z_iast (e := n) gi_250_47 gk_84 (by decide) (by decide) rfl ?_
          refine z_pushJ gp_250_48 ?_
          refine z_iload1 gi_250_50 ?_
          refine z_imul (e := 0) gi_250_51 rfl ?_
          refine z_istore (ls1 := [some (.ref 50), some (zi 0), some (zi w), some (zi n), some (zi 0)]) gi_250_52 rfl ?_
          show zW _ _ _ _ [some (.ref 50), some (zi 0), some (zi w), some (zi n), some (zi 0)] [] _ _ _ _
          refine rowR_k (s := 0) (lo := 0) hRr (by decide) (by decide) ?_
          refine z_pushJ gp_250_80 ?_
          refine z_iret gi_250_81 gr_250 ?_
          refine ⟨?_, ?_⟩
          · first | rfl | exact congrArg (fun v => some (zi v)) (by omega) | (exfalso; omega)
          · have hk := (zK_x (a := 84) (x := 0) (v := n) (zK_x (a := 83) (x := 0) (v := (-2) - w) (zK_x (a := 38) (x := 3) (v := n) (zK_x (a := 38) (x := 2) (v := w) (zK_x (a := 38) (x := 0) (v := 2) (zK_r (k := (kL [] [(38, 0), (38, 2), (38, 3), (83, 0), (84, 0)])) (A := J)) rfl) rfl) rfl) rfl) rfl)
            have hkm := (zK_S (c := 85) (f := (fun y => if 0 ≤ y then 0 else (zS M 39 (fun _ => 0) 60) 85 y)) (n := 60) (zK_S (c := 39) (f := (fun _ => 0)) (n := 60) (zK_r (k := (kL [39, 85] [])) (A := M)) (fun _ => rfl)) (fun _ => rfl))
            exact ⟨hR, hG, RelY_k hk (by repeat' constructor) (fun p => by repeat' constructor) hY, RelD_k hk (by repeat' constructor) (fun p => by repeat' constructor) hD, RelP_k hk (by repeat' constructor) (fun p => by repeat' constructor) hP, RelC_k hk (by repeat' constructor) (fun p => by repeat' constructor) hC, RelA_k hk (by repeat' constructor) (fun p => by repeat' constructor) hAc, (RelS_one (J := J) (M := M) (c := 0) (fun t t1 t2 te => by have q : t = 0 ∨ t = 1 ∨ t = 2 ∨ t = 3 ∨ t = 4 ∨ t = 5 := (by omega); rcases q with rfl | rfl | rfl | rfl | rfl | rfl <;> first | exact absurd rfl te | exact ⟨fun j => rfl, rfl, rfl⟩) (fun t t1 t2 te => ⟨fun j => (by have q : t = 0 ∨ t = 1 ∨ t = 2 ∨ t = 3 ∨ t = 4 ∨ t = 5 := (by omega); rcases q with rfl | rfl | rfl | rfl | rfl | rfl <;> first | exact absurd rfl te | rfl), fun j j1 j2 => (zS_lo_o (J := (zS M 39 (fun _ => 0) 60)) (by omega)).trans (zS_n (by decide))⟩) rfl (show RelS1 _ _ _ from ⟨rfl, (show (0 : Int) ≤ 2 ∧ (2 : Int) ≤ 2 from by decide), (show 0 ≤ w ∧ w ≤ 4 from by omega), (show 0 ≤ n ∧ n ≤ 60 from by omega), fun h => absurd (show (2 : Int) = 1 from h) (by decide), fun _ => ⟨rfl, fun k k1 k2 => (show (zS (zS M 39 (fun _ => 0) 60) 85 (fun y => if 0 ≤ y then 0 else (zS M 39 (fun _ => 0) 60) 85 y) 60) 39 k = (zS (zS M 39 (fun _ => 0) 60) 85 (fun y => if 0 ≤ y then 0 else (zS M 39 (fun _ => 0) 60) 85 y) 60) 85 (0 + k) from by have k3 : k < n := k2; rw [zS_n (by decide), zS_at (by omega), zS_lo_i (J := (zS M 39 (fun _ => 0) 60)) (by decide) (by omega)]), fun _ k k1 k2 => (show -128 ≤ (zS (zS M 39 (fun _ => 0) 60) 85 (fun y => if 0 ≤ y then 0 else (zS M 39 (fun _ => 0) 60) 85 y) 60) 39 k ∧ (zS (zS M 39 (fun _ => 0) 60) 85 (fun y => if 0 ≤ y then 0 else (zS M 39 (fun _ => 0) 60) 85 y) 60) 39 k ≤ 127 from by have k3 : k < n := k2; rw [zS_n (by decide), zS_at (by omega)]; decide)⟩⟩) hS), RelT_k hk (by repeat' constructor) (fun p => by repeat' constructor) hTp, RelX_k hk (by repeat' constructor) (fun p => by repeat' constructor) hX, RelW_k hk ⟨rfl, rfl⟩ trivial hW⟩
        · refine z_pushJ gp_137_26 ?_
          refine z_iret gi_137_28 gr_137 ?_
          refine ⟨_, rfl, ?_⟩
          show zW _ _ _ _ [some (.ref 50), some (zi 0), some (zi w), some (zi n), none] _ _ _ _ _
          refine z_iload1 gi_250_0 ?_
          refine z_cS1 gi_250_1 (Nat.le_of_ble_eq_true rfl) gc_248_I ?_
          refine z_iload0 gi_248_0 ?_
          refine z_pushJ gp_248_1 ?_
          refine z_pushJ gp_248_2 ?_
          refine z_cS3 gi_248_3 (Nat.le_of_ble_eq_true rfl) gc_148_III ?_
          refine z_iload0 gi_148_0 ?_
          refine z_iload1 gi_148_1 ?_
          refine z_icmp_ltF gi_148_2 zr_0 zr_0 (by decide) ?_
          refine z_iload0 gi_148_5 ?_
          refine z_iload2 gi_148_6 ?_
          refine z_icmp_gtF gi_148_7 zr_0 zr_5 (by decide) ?_
          refine z_pushJ gp_148_10 ?_
          refine z_goto gi_148_11 ?_
          refine z_bret1 gi_148_15 gr_148 ?_
          show zW _ _ _ _ _ _ _ _ _ _
          refine z_bret1 gi_248_6 gr_248 ?_
          show zW _ _ _ _ _ _ _ _ _ _
          refine z_if_eqF gi_250_4 zr_1 (by decide) ?_
          refine z_iload2 gi_250_7 ?_
          refine z_pushJ gp_250_8 ?_
          refine z_pushJ gp_250_9 ?_
          refine z_cS3 gi_250_10 (Nat.le_of_ble_eq_true rfl) gc_148_III ?_
          refine z_iload0 gi_148_0 ?_
          refine z_iload1 gi_148_1 ?_
          refine z_icmp_ltF gi_148_2 (by omega) zr_0 (by omega) ?_
          refine z_iload0 gi_148_5 ?_
          refine z_iload2 gi_148_6 ?_
          refine z_icmp_gtF gi_148_7 (by omega) zr_4 (by omega) ?_
          refine z_pushJ gp_148_10 ?_
          refine z_goto gi_148_11 ?_
          refine z_bret1 gi_148_15 gr_148 ?_
          show zW _ _ _ _ _ _ _ _ _ _
          refine z_if_eqF gi_250_13 zr_1 (by decide) ?_
          refine z_iload3 gi_250_16 ?_
          refine z_pushJ gp_250_17 ?_
          refine z_icmp_leT gi_250_19 (by omega) zr_60 (by omega) ?_
          refine z_iload3 gi_250_24 ?_
          refine z_if_geF gi_250_25 (by omega) (by omega) ?_
          refine z_pushJ gp_250_28 ?_
          refine z_iret gi_250_30 gr_250 ?_
          refine ⟨?_, ?_⟩
          · first | rfl | exact congrArg (fun v => some (zi v)) (by omega) | (exfalso; omega)
          · exact hr
      · refine z_pushJ gp_137_20 ?_
        refine z_iret gi_137_21 gr_137 ?_
        refine ⟨_, rfl, ?_⟩
        show zW _ _ _ _ [some (.ref 50), some (zi 0), some (zi w), some (zi n), none] _ _ _ _ _
        refine z_iload1 gi_250_0 ?_
        refine z_cS1 gi_250_1 (Nat.le_of_ble_eq_true rfl) gc_248_I ?_
        refine z_iload0 gi_248_0 ?_
        refine z_pushJ gp_248_1 ?_
        refine z_pushJ gp_248_2 ?_
        refine z_cS3 gi_248_3 (Nat.le_of_ble_eq_true rfl) gc_148_III ?_
        refine z_iload0 gi_148_0 ?_
        refine z_iload1 gi_148_1 ?_
        refine z_icmp_ltF gi_148_2 zr_0 zr_0 (by decide) ?_
        refine z_iload0 gi_148_5 ?_
        refine z_iload2 gi_148_6 ?_
        refine z_icmp_gtF gi_148_7 zr_0 zr_5 (by decide) ?_
        refine z_pushJ gp_148_10 ?_
        refine z_goto gi_148_11 ?_
        refine z_bret1 gi_148_15 gr_148 ?_
        show zW _ _ _ _ _ _ _ _ _ _
        refine z_bret1 gi_248_6 gr_248 ?_
        show zW _ _ _ _ _ _ _ _ _ _
        refine z_if_eqF gi_250_4 zr_1 (by decide) ?_
        refine z_iload2 gi_250_7 ?_
        refine z_pushJ gp_250_8 ?_
        refine z_pushJ gp_250_9 ?_
        refine z_cS3 gi_250_10 (Nat.le_of_ble_eq_true rfl) gc_148_III ?_
        refine z_iload0 gi_148_0 ?_
        refine z_iload1 gi_148_1 ?_
        refine z_icmp_ltF gi_148_2 (by omega) zr_0 (by omega) ?_
        refine z_iload0 gi_148_5 ?_
        refine z_iload2 gi_148_6 ?_
        refine z_icmp_gtF gi_148_7 (by omega) zr_4 (by omega) ?_
        refine z_pushJ gp_148_10 ?_
        refine z_goto gi_148_11 ?_
        refine z_bret1 gi_148_15 gr_148 ?_
        show zW _ _ _ _ _ _ _ _ _ _
        refine z_if_eqF gi_250_13 zr_1 (by decide) ?_
        refine z_iload3 gi_250_16 ?_
        refine z_pushJ gp_250_17 ?_
        refine z_icmp_leF gi_250_19 (by omega) zr_60 (by omega) ?_
        refine z_pushJ gp_250_22 ?_
        refine z_iret gi_250_23 gr_250 ?_
        refine ⟨?_, ?_⟩
        · first | rfl | exact congrArg (fun v => some (zi v)) (by omega) | (exfalso; omega)
        · exact hr
theorem st_row_1 {X : Nat × (Nat → Int32)} {d : Nat} {J M : zA} {R : zR} {w n : Int} (hr : Rel X J M R) (hw : -2147483648 ≤ w ∧ w < 2147483648) (hn : -2147483648 ≤ n ∧ n < 2147483648)  : zW X (d + 20) 137 0 (gEn 137 [(.ref 0), (zi 1), (zi w), (zi n)]) [] J M R (stP X (d + 20) 250 [(zi 1), (zi w), (zi n)]) := by
  have hr0 := hr
  obtain ⟨hR, hG, hY, hD, hP, hC, hAc, hS, hTp, hX, hW⟩ := hr0
  have hRr : zRoR R := zRoR_of hR
  show zW _ _ _ _ [some (.ref 0), some (zi 1), some (zi w), some (zi n)] _ _ _ _ _
  refine z_iload1 gi_137_0 ?_
  refine z_cS1 gi_137_1 (Nat.le_of_ble_eq_true rfl) gc_143_I ?_
  refine z_iload0 gi_143_0 ?_
  refine z_if_ltF gi_143_1 zr_1 (by decide) ?_
  refine z_iload0 gi_143_4 ?_
  refine z_pushJ gp_143_5 ?_
  refine z_icmp_geF gi_143_7 zr_1 zr_6 (by decide) ?_
  refine z_pushJ gp_143_10 ?_
  refine z_goto gi_143_11 ?_
  refine z_bret1 gi_143_15 gr_143 ?_
  show zW _ _ _ _ _ _ _ _ _ _
  refine z_if_eqF gi_137_4 zr_1 (by decide) ?_
  refine z_iload2 gi_137_7 ?_
  refine z_cS1 gi_137_8 (Nat.le_of_ble_eq_true rfl) gc_61_I ?_
  refine z_iload0 gi_61_0 ?_
  refine z_if_lt gi_61_1 (by omega) (fun h1 => ?_) (fun h1 => ?_)
  · refine z_pushJ gp_61_13 ?_
    refine z_bret0 gi_61_14 gr_61 ?_
    show zW _ _ _ _ _ _ _ _ _ _
    refine z_if_eqT gi_137_11 zr_0 (by decide) ?_
    refine z_pushJ gp_137_20 ?_
    refine z_iret gi_137_21 gr_137 ?_
    refine ⟨_, rfl, ?_⟩
    show zW _ _ _ _ [some (.ref 50), some (zi 1), some (zi w), some (zi n), none] _ _ _ _ _
    refine z_iload1 gi_250_0 ?_
    refine z_cS1 gi_250_1 (Nat.le_of_ble_eq_true rfl) gc_248_I ?_
    refine z_iload0 gi_248_0 ?_
    refine z_pushJ gp_248_1 ?_
    refine z_pushJ gp_248_2 ?_
    refine z_cS3 gi_248_3 (Nat.le_of_ble_eq_true rfl) gc_148_III ?_
    refine z_iload0 gi_148_0 ?_
    refine z_iload1 gi_148_1 ?_
    refine z_icmp_ltF gi_148_2 zr_1 zr_0 (by decide) ?_
    refine z_iload0 gi_148_5 ?_
    refine z_iload2 gi_148_6 ?_
    refine z_icmp_gtF gi_148_7 zr_1 zr_5 (by decide) ?_
    refine z_pushJ gp_148_10 ?_
    refine z_goto gi_148_11 ?_
    refine z_bret1 gi_148_15 gr_148 ?_
    show zW _ _ _ _ _ _ _ _ _ _
    refine z_bret1 gi_248_6 gr_248 ?_
    show zW _ _ _ _ _ _ _ _ _ _
    refine z_if_eqF gi_250_4 zr_1 (by decide) ?_
    refine z_iload2 gi_250_7 ?_
    refine z_pushJ gp_250_8 ?_
    refine z_pushJ gp_250_9 ?_
    refine z_cS3 gi_250_10 (Nat.le_of_ble_eq_true rfl) gc_148_III ?_
    refine z_iload0 gi_148_0 ?_
    refine z_iload1 gi_148_1 ?_
    refine z_icmp_ltT gi_148_2 (by omega) zr_0 (by omega) ?_
    refine z_pushJ gp_148_14 ?_
    refine z_bret0 gi_148_15 gr_148 ?_
    show zW _ _ _ _ _ _ _ _ _ _
    refine z_if_eqT gi_250_13 zr_0 (by decide) ?_
    refine z_pushJ gp_250_22 ?_
    refine z_iret gi_250_23 gr_250 ?_
    refine ⟨?_, ?_⟩
    · first | rfl | exact congrArg (fun v => some (zi v)) (by omega) | (exfalso; omega)
    · exact hr
  · refine z_iload0 gi_61_4 ?_
    refine z_pushJ gp_61_5 ?_
    refine z_icmp_gt gi_61_6 (by omega) zr_4 (fun h2 => ?_) (fun h2 => ?_)
    · refine z_pushJ gp_61_13 ?_
      refine z_bret0 gi_61_14 gr_61 ?_
      show zW _ _ _ _ _ _ _ _ _ _
      refine z_if_eqT gi_137_11 zr_0 (by decide) ?_
      refine z_pushJ gp_137_20 ?_
      refine z_iret gi_137_21 gr_137 ?_
      refine ⟨_, rfl, ?_⟩
      show zW _ _ _ _ [some (.ref 50), some (zi 1), some (zi w), some (zi n), none] _ _ _ _ _
      refine z_iload1 gi_250_0 ?_
      refine z_cS1 gi_250_1 (Nat.le_of_ble_eq_true rfl) gc_248_I ?_
      refine z_iload0 gi_248_0 ?_
      refine z_pushJ gp_248_1 ?_
      refine z_pushJ gp_248_2 ?_
      refine z_cS3 gi_248_3 (Nat.le_of_ble_eq_true rfl) gc_148_III ?_
      refine z_iload0 gi_148_0 ?_
      refine z_iload1 gi_148_1 ?_
      refine z_icmp_ltF gi_148_2 zr_1 zr_0 (by decide) ?_
      refine z_iload0 gi_148_5 ?_
      refine z_iload2 gi_148_6 ?_
      refine z_icmp_gtF gi_148_7 zr_1 zr_5 (by decide) ?_
      refine z_pushJ gp_148_10 ?_
      refine z_goto gi_148_11 ?_
      refine z_bret1 gi_148_15 gr_148 ?_
      show zW _ _ _ _ _ _ _ _ _ _
      refine z_bret1 gi_248_6 gr_248 ?_
      show zW _ _ _ _ _ _ _ _ _ _
      refine z_if_eqF gi_250_4 zr_1 (by decide) ?_
      refine z_iload2 gi_250_7 ?_
      refine z_pushJ gp_250_8 ?_
      refine z_pushJ gp_250_9 ?_
      refine z_cS3 gi_250_10 (Nat.le_of_ble_eq_true rfl) gc_148_III ?_
      refine z_iload0 gi_148_0 ?_
      refine z_iload1 gi_148_1 ?_
      refine z_icmp_ltF gi_148_2 (by omega) zr_0 (by omega) ?_
      refine z_iload0 gi_148_5 ?_
      refine z_iload2 gi_148_6 ?_
      refine z_icmp_gtT gi_148_7 (by omega) zr_4 (by omega) ?_
      refine z_pushJ gp_148_14 ?_
      refine z_bret0 gi_148_15 gr_148 ?_
      show zW _ _ _ _ _ _ _ _ _ _
      refine z_if_eqT gi_250_13 zr_0 (by decide) ?_
      refine z_pushJ gp_250_22 ?_
      refine z_iret gi_250_23 gr_250 ?_
      refine ⟨?_, ?_⟩
      · first | rfl | exact congrArg (fun v => some (zi v)) (by omega) | (exfalso; omega)
      · exact hr
    · refine z_pushJ gp_61_9 ?_
      refine z_goto gi_61_10 ?_
      refine z_bret1 gi_61_14 gr_61 ?_
      show zW _ _ _ _ _ _ _ _ _ _
      refine z_if_eqF gi_137_11 zr_1 (by decide) ?_
      refine z_iload3 gi_137_14 ?_
      refine z_pushJ gp_137_15 ?_
      refine z_icmp_le gi_137_17 (by omega) zr_60 (fun h3 => ?_) (fun h3 => ?_)
      · refine z_iload3 gi_137_22 ?_
        refine z_if_ge gi_137_23 (by omega) (fun h4 => ?_) (fun h4 => ?_)
        · refine z_aload0 gi_137_29 ?_
          refine z_getR (r := 37) gi_137_30 gk_0 (hR _ rm_0_11) ?_
          refine z_iload1 gi_137_33 ?_
          refine z_aald (r := 40) gi_137_34 rfl (by decide) (by decide) (hR _ rm_37_1) ?_
          refine z_iload2 gi_137_35 ?_
          refine z_iload3 gi_137_36 ?_
          refine z_callVi (As := [_, _]) (le := [some _, some _, some _, none]) gi_137_37 rfl gk_40 (Nat.le_of_ble_eq_true rfl) (Nat.le_of_ble_eq_true rfl) rfl ?_
          refine z_aload0 gi_68_0 ?_
          refine z_pushJ gp_68_1 ?_
          refine z_putI (y := 0) gi_68_2 rfl gk_40 ?_
          refine z_aload0 gi_68_5 ?_
          refine z_iload1 gi_68_6 ?_
          refine z_putI (y := 2) gi_68_7 rfl gk_40 ?_
          refine z_aload0 gi_68_10 ?_
          refine z_iload2 gi_68_11 ?_
          refine z_putI (y := 3) gi_68_12 rfl gk_40 ?_
          refine z_pushJ gp_68_15 ?_
          refine z_istore (ls1 := [some (.ref 40), some (zi w), some (zi n), some (zi 0)]) gi_68_16 rfl ?_
          show zW _ _ _ _ [some (.ref 40), some (zi w), some (zi n), some (zi 0)] [] _ _ _ _
          refine rowC_k (a := 41) rfl rfl (hR _ rm_40_4) ?_
          refine z_vret gi_68_36 gr_68 ?_
          show zW _ _ _ _ _ _ _ _ _ _
          refine z_pushJ gp_137_40 ?_
          refine z_iret gi_137_41 gr_137 ?_
          refine ⟨_, rfl, ?_⟩
          show zW _ _ _ _ [some (.ref 50), some (zi 1), some (zi w), some (zi n), none] _ _ _ _ _
          refine z_iload1 gi_250_0 ?_
          refine z_cS1 gi_250_1 (Nat.le_of_ble_eq_true rfl) gc_248_I ?_
          refine z_iload0 gi_248_0 ?_
          refine z_pushJ gp_248_1 ?_
          refine z_pushJ gp_248_2 ?_
          refine z_cS3 gi_248_3 (Nat.le_of_ble_eq_true rfl) gc_148_III ?_
          refine z_iload0 gi_148_0 ?_
          refine z_iload1 gi_148_1 ?_
          refine z_icmp_ltF gi_148_2 zr_1 zr_0 (by decide) ?_
          refine z_iload0 gi_148_5 ?_
          refine z_iload2 gi_148_6 ?_
          refine z_icmp_gtF gi_148_7 zr_1 zr_5 (by decide) ?_
          refine z_pushJ gp_148_10 ?_
          refine z_goto gi_148_11 ?_
          refine z_bret1 gi_148_15 gr_148 ?_
          show zW _ _ _ _ _ _ _ _ _ _
          refine z_bret1 gi_248_6 gr_248 ?_
          show zW _ _ _ _ _ _ _ _ _ _
          refine z_if_eqF gi_250_4 zr_1 (by decide) ?_
          refine z_iload2 gi_250_7 ?_
          refine z_pushJ gp_250_8 ?_
          refine z_pushJ gp_250_9 ?_
          refine z_cS3 gi_250_10 (Nat.le_of_ble_eq_true rfl) gc_148_III ?_
          refine z_iload0 gi_148_0 ?_
          refine z_iload1 gi_148_1 ?_
          refine z_icmp_ltF gi_148_2 (by omega) zr_0 (by omega) ?_
          refine z_iload0 gi_148_5 ?_
          refine z_iload2 gi_148_6 ?_
          refine z_icmp_gtF gi_148_7 (by omega) zr_4 (by omega) ?_
          refine z_pushJ gp_148_10 ?_
          refine z_goto gi_148_11 ?_
          refine z_bret1 gi_148_15 gr_148 ?_
          show zW _ _ _ _ _ _ _ _ _ _
          refine z_if_eqF gi_250_13 zr_1 (by decide) ?_
          refine z_iload3 gi_250_16 ?_
          refine z_pushJ gp_250_17 ?_
          refine z_icmp_leT gi_250_19 (by omega) zr_60 (by omega) ?_
          refine z_iload3 gi_250_24 ?_
          refine z_if_geT gi_250_25 (by omega) (by omega) ?_
          refine z_aload0 gi_250_31 ?_
          refine z_getR (r := 83) gi_250_32 gk_50 (hRr _ rm_50_58 (by decide)) ?_
          refine z_iload1 gi_250_35 ?_
          refine z_pushJ gp_250_36 ?_
          refine z_iload2 gi_250_38 ?_
          refine z_isub (e := (-2) - w) gi_250_39 rfl ?_
          refine z_iast (e := (-2) - w) gi_250_40 gk_83 (by decide) (by decide) rfl ?_
          refine z_aload0 gi_250_41 ?_
          refine z_getR (r := 84) gi_250_42 gk_50 (hRr _ rm_50_59 (by decide)) ?_
          refine z_iload1 gi_250_45 ?_
          refine z_iload3 gi_250_46 ?_
          refine z_iast (e := n) gi_250_47 gk_84 (by decide) (by decide) rfl ?_
          refine z_pushJ gp_250_48 ?_
          refine z_iload1 gi_250_50 ?_
          refine z_imul (e := 60) gi_250_51 rfl ?_
          refine z_istore (ls1 := [some (.ref 50), some (zi 1), some (zi w), some (zi n), some (zi 60)]) gi_250_52 rfl ?_
          show zW _ _ _ _ [some (.ref 50), some (zi 1), some (zi w), some (zi n), some (zi 60)] [] _ _ _ _
          refine rowR_k (s := 1) (lo := 60) hRr (by decide) (by decide) ?_
          refine z_pushJ gp_250_80 ?_
          refine z_iret gi_250_81 gr_250 ?_
          refine ⟨?_, ?_⟩
          · first | rfl | exact congrArg (fun v => some (zi v)) (by omega) | (exfalso; omega)
          · have hk := (zK_x (a := 84) (x := 1) (v := n) (zK_x (a := 83) (x := 1) (v := (-2) - w) (zK_x (a := 40) (x := 3) (v := n) (zK_x (a := 40) (x := 2) (v := w) (zK_x (a := 40) (x := 0) (v := 2) (zK_r (k := (kL [] [(40, 0), (40, 2), (40, 3), (83, 1), (84, 1)])) (A := J)) rfl) rfl) rfl) rfl) rfl)
            have hkm := (zK_S (c := 85) (f := (fun y => if 60 ≤ y then 0 else (zS M 41 (fun _ => 0) 60) 85 y)) (n := 120) (zK_S (c := 41) (f := (fun _ => 0)) (n := 60) (zK_r (k := (kL [41, 85] [])) (A := M)) (fun _ => rfl)) (fun _ => rfl))
            exact ⟨hR, hG, RelY_k hk (by repeat' constructor) (fun p => by repeat' constructor) hY, RelD_k hk (by repeat' constructor) (fun p => by repeat' constructor) hD, RelP_k hk (by repeat' constructor) (fun p => by repeat' constructor) hP, RelC_k hk (by repeat' constructor) (fun p => by repeat' constructor) hC, RelA_k hk (by repeat' constructor) (fun p => by repeat' constructor) hAc, (RelS_one (J := J) (M := M) (c := 1) (fun t t1 t2 te => by have q : t = 0 ∨ t = 1 ∨ t = 2 ∨ t = 3 ∨ t = 4 ∨ t = 5 := (by omega); rcases q with rfl | rfl | rfl | rfl | rfl | rfl <;> first | exact absurd rfl te | exact ⟨fun j => rfl, rfl, rfl⟩) (fun t t1 t2 te => ⟨fun j => (by have q : t = 0 ∨ t = 1 ∨ t = 2 ∨ t = 3 ∨ t = 4 ∨ t = 5 := (by omega); rcases q with rfl | rfl | rfl | rfl | rfl | rfl <;> first | exact absurd rfl te | rfl), fun j j1 j2 => (zS_lo_o (J := (zS M 41 (fun _ => 0) 60)) (by omega)).trans (zS_n (by decide))⟩) rfl (show RelS1 _ _ _ from ⟨rfl, (show (0 : Int) ≤ 2 ∧ (2 : Int) ≤ 2 from by decide), (show 0 ≤ w ∧ w ≤ 4 from by omega), (show 0 ≤ n ∧ n ≤ 60 from by omega), fun h => absurd (show (2 : Int) = 1 from h) (by decide), fun _ => ⟨rfl, fun k k1 k2 => (show (zS (zS M 41 (fun _ => 0) 60) 85 (fun y => if 60 ≤ y then 0 else (zS M 41 (fun _ => 0) 60) 85 y) 120) 41 k = (zS (zS M 41 (fun _ => 0) 60) 85 (fun y => if 60 ≤ y then 0 else (zS M 41 (fun _ => 0) 60) 85 y) 120) 85 (60 + k) from by have k3 : k < n := k2; rw [zS_n (by decide), zS_at (by omega), zS_lo_i (J := (zS M 41 (fun _ => 0) 60)) (by decide) (by omega)]), fun _ k k1 k2 => (show -128 ≤ (zS (zS M 41 (fun _ => 0) 60) 85 (fun y => if 60 ≤ y then 0 else (zS M 41 (fun _ => 0) 60) 85 y) 120) 41 k ∧ (zS (zS M 41 (fun _ => 0) 60) 85 (fun y => if 60 ≤ y then 0 else (zS M 41 (fun _ => 0) 60) 85 y) 120) 41 k ≤ 127 from by have k3 : k < n := k2; rw [zS_n (by decide), zS_at (by omega)]; decide)⟩⟩) hS), RelT_k hk (by repeat' constructor) (fun p => by repeat' constructor) hTp, RelX_k hk (by repeat' constructor) (fun p => by repeat' constructor) hX, RelW_k hk ⟨rfl, rfl⟩ trivial hW⟩
        · refine z_pushJ gp_137_26 ?_
          refine z_iret gi_137_28 gr_137 ?_
          refine ⟨_, rfl, ?_⟩
          show zW _ _ _ _ [some (.ref 50), some (zi 1), some (zi w), some (zi n), none] _ _ _ _ _
          refine z_iload1 gi_250_0 ?_
          refine z_cS1 gi_250_1 (Nat.le_of_ble_eq_true rfl) gc_248_I ?_
          refine z_iload0 gi_248_0 ?_
          refine z_pushJ gp_248_1 ?_
          refine z_pushJ gp_248_2 ?_
          refine z_cS3 gi_248_3 (Nat.le_of_ble_eq_true rfl) gc_148_III ?_
          refine z_iload0 gi_148_0 ?_
          refine z_iload1 gi_148_1 ?_
          refine z_icmp_ltF gi_148_2 zr_1 zr_0 (by decide) ?_
          refine z_iload0 gi_148_5 ?_
          refine z_iload2 gi_148_6 ?_
          refine z_icmp_gtF gi_148_7 zr_1 zr_5 (by decide) ?_
          refine z_pushJ gp_148_10 ?_
          refine z_goto gi_148_11 ?_
          refine z_bret1 gi_148_15 gr_148 ?_
          show zW _ _ _ _ _ _ _ _ _ _
          refine z_bret1 gi_248_6 gr_248 ?_
          show zW _ _ _ _ _ _ _ _ _ _
          refine z_if_eqF gi_250_4 zr_1 (by decide) ?_
          refine z_iload2 gi_250_7 ?_
          refine z_pushJ gp_250_8 ?_
          refine z_pushJ gp_250_9 ?_
          refine z_cS3 gi_250_10 (Nat.le_of_ble_eq_true rfl) gc_148_III ?_
          refine z_iload0 gi_148_0 ?_
          refine z_iload1 gi_148_1 ?_
          refine z_icmp_ltF gi_148_2 (by omega) zr_0 (by omega) ?_
          refine z_iload0 gi_148_5 ?_
          refine z_iload2 gi_148_6 ?_
          refine z_icmp_gtF gi_148_7 (by omega) zr_4 (by omega) ?_
          refine z_pushJ gp_148_10 ?_
          refine z_goto gi_148_11 ?_
          refine z_bret1 gi_148_15 gr_148 ?_
          show zW _ _ _ _ _ _ _ _ _ _
          refine z_if_eqF gi_250_13 zr_1 (by decide) ?_
          refine z_iload3 gi_250_16 ?_
          refine z_pushJ gp_250_17 ?_
          refine z_icmp_leT gi_250_19 (by omega) zr_60 (by omega) ?_
          refine z_iload3 gi_250_24 ?_
          refine z_if_geF gi_250_25 (by omega) (by omega) ?_
          refine z_pushJ gp_250_28 ?_
          refine z_iret gi_250_30 gr_250 ?_
          refine ⟨?_, ?_⟩
          · first | rfl | exact congrArg (fun v => some (zi v)) (by omega) | (exfalso; omega)
          · exact hr
      · refine z_pushJ gp_137_20 ?_
        refine z_iret gi_137_21 gr_137 ?_
        refine ⟨_, rfl, ?_⟩
        show zW _ _ _ _ [some (.ref 50), some (zi 1), some (zi w), some (zi n), none] _ _ _ _ _
        refine z_iload1 gi_250_0 ?_
        refine z_cS1 gi_250_1 (Nat.le_of_ble_eq_true rfl) gc_248_I ?_
        refine z_iload0 gi_248_0 ?_
        refine z_pushJ gp_248_1 ?_
        refine z_pushJ gp_248_2 ?_
        refine z_cS3 gi_248_3 (Nat.le_of_ble_eq_true rfl) gc_148_III ?_
        refine z_iload0 gi_148_0 ?_
        refine z_iload1 gi_148_1 ?_
        refine z_icmp_ltF gi_148_2 zr_1 zr_0 (by decide) ?_
        refine z_iload0 gi_148_5 ?_
        refine z_iload2 gi_148_6 ?_
        refine z_icmp_gtF gi_148_7 zr_1 zr_5 (by decide) ?_
        refine z_pushJ gp_148_10 ?_
        refine z_goto gi_148_11 ?_
        refine z_bret1 gi_148_15 gr_148 ?_
        show zW _ _ _ _ _ _ _ _ _ _
        refine z_bret1 gi_248_6 gr_248 ?_
        show zW _ _ _ _ _ _ _ _ _ _
        refine z_if_eqF gi_250_4 zr_1 (by decide) ?_
        refine z_iload2 gi_250_7 ?_
        refine z_pushJ gp_250_8 ?_
        refine z_pushJ gp_250_9 ?_
        refine z_cS3 gi_250_10 (Nat.le_of_ble_eq_true rfl) gc_148_III ?_
        refine z_iload0 gi_148_0 ?_
        refine z_iload1 gi_148_1 ?_
        refine z_icmp_ltF gi_148_2 (by omega) zr_0 (by omega) ?_
        refine z_iload0 gi_148_5 ?_
        refine z_iload2 gi_148_6 ?_
        refine z_icmp_gtF gi_148_7 (by omega) zr_4 (by omega) ?_
        refine z_pushJ gp_148_10 ?_
        refine z_goto gi_148_11 ?_
        refine z_bret1 gi_148_15 gr_148 ?_
        show zW _ _ _ _ _ _ _ _ _ _
        refine z_if_eqF gi_250_13 zr_1 (by decide) ?_
        refine z_iload3 gi_250_16 ?_
        refine z_pushJ gp_250_17 ?_
        refine z_icmp_leF gi_250_19 (by omega) zr_60 (by omega) ?_
        refine z_pushJ gp_250_22 ?_
        refine z_iret gi_250_23 gr_250 ?_
        refine ⟨?_, ?_⟩
        · first | rfl | exact congrArg (fun v => some (zi v)) (by omega) | (exfalso; omega)
        · exact hr
theorem st_row_2 {X : Nat × (Nat → Int32)} {d : Nat} {J M : zA} {R : zR} {w n : Int} (hr : Rel X J M R) (hw : -2147483648 ≤ w ∧ w < 2147483648) (hn : -2147483648 ≤ n ∧ n < 2147483648)  : zW X (d + 20) 137 0 (gEn 137 [(.ref 0), (zi 2), (zi w), (zi n)]) [] J M R (stP X (d + 20) 250 [(zi 2), (zi w), (zi n)]) := by
  have hr0 := hr
  obtain ⟨hR, hG, hY, hD, hP, hC, hAc, hS, hTp, hX, hW⟩ := hr0
  have hRr : zRoR R := zRoR_of hR
  show zW _ _ _ _ [some (.ref 0), some (zi 2), some (zi w), some (zi n)] _ _ _ _ _
  refine z_iload1 gi_137_0 ?_
  refine z_cS1 gi_137_1 (Nat.le_of_ble_eq_true rfl) gc_143_I ?_
  refine z_iload0 gi_143_0 ?_
  refine z_if_ltF gi_143_1 zr_2 (by decide) ?_
  refine z_iload0 gi_143_4 ?_
  refine z_pushJ gp_143_5 ?_
  refine z_icmp_geF gi_143_7 zr_2 zr_6 (by decide) ?_
  refine z_pushJ gp_143_10 ?_
  refine z_goto gi_143_11 ?_
  refine z_bret1 gi_143_15 gr_143 ?_
  show zW _ _ _ _ _ _ _ _ _ _
  refine z_if_eqF gi_137_4 zr_1 (by decide) ?_
  refine z_iload2 gi_137_7 ?_
  refine z_cS1 gi_137_8 (Nat.le_of_ble_eq_true rfl) gc_61_I ?_
  refine z_iload0 gi_61_0 ?_
  refine z_if_lt gi_61_1 (by omega) (fun h1 => ?_) (fun h1 => ?_)
  · refine z_pushJ gp_61_13 ?_
    refine z_bret0 gi_61_14 gr_61 ?_
    show zW _ _ _ _ _ _ _ _ _ _
    refine z_if_eqT gi_137_11 zr_0 (by decide) ?_
    refine z_pushJ gp_137_20 ?_
    refine z_iret gi_137_21 gr_137 ?_
    refine ⟨_, rfl, ?_⟩
    show zW _ _ _ _ [some (.ref 50), some (zi 2), some (zi w), some (zi n), none] _ _ _ _ _
    refine z_iload1 gi_250_0 ?_
    refine z_cS1 gi_250_1 (Nat.le_of_ble_eq_true rfl) gc_248_I ?_
    refine z_iload0 gi_248_0 ?_
    refine z_pushJ gp_248_1 ?_
    refine z_pushJ gp_248_2 ?_
    refine z_cS3 gi_248_3 (Nat.le_of_ble_eq_true rfl) gc_148_III ?_
    refine z_iload0 gi_148_0 ?_
    refine z_iload1 gi_148_1 ?_
    refine z_icmp_ltF gi_148_2 zr_2 zr_0 (by decide) ?_
    refine z_iload0 gi_148_5 ?_
    refine z_iload2 gi_148_6 ?_
    refine z_icmp_gtF gi_148_7 zr_2 zr_5 (by decide) ?_
    refine z_pushJ gp_148_10 ?_
    refine z_goto gi_148_11 ?_
    refine z_bret1 gi_148_15 gr_148 ?_
    show zW _ _ _ _ _ _ _ _ _ _
    refine z_bret1 gi_248_6 gr_248 ?_
    show zW _ _ _ _ _ _ _ _ _ _
    refine z_if_eqF gi_250_4 zr_1 (by decide) ?_
    refine z_iload2 gi_250_7 ?_
    refine z_pushJ gp_250_8 ?_
    refine z_pushJ gp_250_9 ?_
    refine z_cS3 gi_250_10 (Nat.le_of_ble_eq_true rfl) gc_148_III ?_
    refine z_iload0 gi_148_0 ?_
    refine z_iload1 gi_148_1 ?_
    refine z_icmp_ltT gi_148_2 (by omega) zr_0 (by omega) ?_
    refine z_pushJ gp_148_14 ?_
    refine z_bret0 gi_148_15 gr_148 ?_
    show zW _ _ _ _ _ _ _ _ _ _
    refine z_if_eqT gi_250_13 zr_0 (by decide) ?_
    refine z_pushJ gp_250_22 ?_
    refine z_iret gi_250_23 gr_250 ?_
    refine ⟨?_, ?_⟩
    · first | rfl | exact congrArg (fun v => some (zi v)) (by omega) | (exfalso; omega)
    · exact hr
  · refine z_iload0 gi_61_4 ?_
    refine z_pushJ gp_61_5 ?_
    refine z_icmp_gt gi_61_6 (by omega) zr_4 (fun h2 => ?_) (fun h2 => ?_)
    · refine z_pushJ gp_61_13 ?_
      refine z_bret0 gi_61_14 gr_61 ?_
      show zW _ _ _ _ _ _ _ _ _ _
      refine z_if_eqT gi_137_11 zr_0 (by decide) ?_
      refine z_pushJ gp_137_20 ?_
      refine z_iret gi_137_21 gr_137 ?_
      refine ⟨_, rfl, ?_⟩
      show zW _ _ _ _ [some (.ref 50), some (zi 2), some (zi w), some (zi n), none] _ _ _ _ _
      refine z_iload1 gi_250_0 ?_
      refine z_cS1 gi_250_1 (Nat.le_of_ble_eq_true rfl) gc_248_I ?_
      refine z_iload0 gi_248_0 ?_
      refine z_pushJ gp_248_1 ?_
      refine z_pushJ gp_248_2 ?_
      refine z_cS3 gi_248_3 (Nat.le_of_ble_eq_true rfl) gc_148_III ?_
      refine z_iload0 gi_148_0 ?_
      refine z_iload1 gi_148_1 ?_
      refine z_icmp_ltF gi_148_2 zr_2 zr_0 (by decide) ?_
      refine z_iload0 gi_148_5 ?_
      refine z_iload2 gi_148_6 ?_
      refine z_icmp_gtF gi_148_7 zr_2 zr_5 (by decide) ?_
      refine z_pushJ gp_148_10 ?_
      refine z_goto gi_148_11 ?_
      refine z_bret1 gi_148_15 gr_148 ?_
      show zW _ _ _ _ _ _ _ _ _ _
      refine z_bret1 gi_248_6 gr_248 ?_
      show zW _ _ _ _ _ _ _ _ _ _
      refine z_if_eqF gi_250_4 zr_1 (by decide) ?_
      refine z_iload2 gi_250_7 ?_
      refine z_pushJ gp_250_8 ?_
      refine z_pushJ gp_250_9 ?_
      refine z_cS3 gi_250_10 (Nat.le_of_ble_eq_true rfl) gc_148_III ?_
      refine z_iload0 gi_148_0 ?_
      refine z_iload1 gi_148_1 ?_
      refine z_icmp_ltF gi_148_2 (by omega) zr_0 (by omega) ?_
      refine z_iload0 gi_148_5 ?_
      refine z_iload2 gi_148_6 ?_
      refine z_icmp_gtT gi_148_7 (by omega) zr_4 (by omega) ?_
      refine z_pushJ gp_148_14 ?_
      refine z_bret0 gi_148_15 gr_148 ?_
      show zW _ _ _ _ _ _ _ _ _ _
      refine z_if_eqT gi_250_13 zr_0 (by decide) ?_
      refine z_pushJ gp_250_22 ?_
      refine z_iret gi_250_23 gr_250 ?_
      refine ⟨?_, ?_⟩
      · first | rfl | exact congrArg (fun v => some (zi v)) (by omega) | (exfalso; omega)
      · exact hr
    · refine z_pushJ gp_61_9 ?_
      refine z_goto gi_61_10 ?_
      refine z_bret1 gi_61_14 gr_61 ?_
      show zW _ _ _ _ _ _ _ _ _ _
      refine z_if_eqF gi_137_11 zr_1 (by decide) ?_
      refine z_iload3 gi_137_14 ?_
      refine z_pushJ gp_137_15 ?_
      refine z_icmp_le gi_137_17 (by omega) zr_60 (fun h3 => ?_) (fun h3 => ?_)
      · refine z_iload3 gi_137_22 ?_
        refine z_if_ge gi_137_23 (by omega) (fun h4 => ?_) (fun h4 => ?_)
        · refine z_aload0 gi_137_29 ?_
          refine z_getR (r := 37) gi_137_30 gk_0 (hR _ rm_0_11) ?_
          refine z_iload1 gi_137_33 ?_
          refine z_aald (r := 42) gi_137_34 rfl (by decide) (by decide) (hR _ rm_37_2) ?_
          refine z_iload2 gi_137_35 ?_
          refine z_iload3 gi_137_36 ?_
          refine z_callVi (As := [_, _]) (le := [some _, some _, some _, none]) gi_137_37 rfl gk_42 (Nat.le_of_ble_eq_true rfl) (Nat.le_of_ble_eq_true rfl) rfl ?_
          refine z_aload0 gi_68_0 ?_
          refine z_pushJ gp_68_1 ?_
          refine z_putI (y := 0) gi_68_2 rfl gk_42 ?_
          refine z_aload0 gi_68_5 ?_
          refine z_iload1 gi_68_6 ?_
          refine z_putI (y := 2) gi_68_7 rfl gk_42 ?_
          refine z_aload0 gi_68_10 ?_
          refine z_iload2 gi_68_11 ?_
          refine z_putI (y := 3) gi_68_12 rfl gk_42 ?_
          refine z_pushJ gp_68_15 ?_
          refine z_istore (ls1 := [some (.ref 42), some (zi w), some (zi n), some (zi 0)]) gi_68_16 rfl ?_
          show zW _ _ _ _ [some (.ref 42), some (zi w), some (zi n), some (zi 0)] [] _ _ _ _
          refine rowC_k (a := 43) rfl rfl (hR _ rm_42_4) ?_
          refine z_vret gi_68_36 gr_68 ?_
          show zW _ _ _ _ _ _ _ _ _ _
          refine z_pushJ gp_137_40 ?_
          refine z_iret gi_137_41 gr_137 ?_
          refine ⟨_, rfl, ?_⟩
          show zW _ _ _ _ [some (.ref 50), some (zi 2), some (zi w), some (zi n), none] _ _ _ _ _
          refine z_iload1 gi_250_0 ?_
          refine z_cS1 gi_250_1 (Nat.le_of_ble_eq_true rfl) gc_248_I ?_
          refine z_iload0 gi_248_0 ?_
          refine z_pushJ gp_248_1 ?_
          refine z_pushJ gp_248_2 ?_
          refine z_cS3 gi_248_3 (Nat.le_of_ble_eq_true rfl) gc_148_III ?_
          refine z_iload0 gi_148_0 ?_
          refine z_iload1 gi_148_1 ?_
          refine z_icmp_ltF gi_148_2 zr_2 zr_0 (by decide) ?_
          refine z_iload0 gi_148_5 ?_
          refine z_iload2 gi_148_6 ?_
          refine z_icmp_gtF gi_148_7 zr_2 zr_5 (by decide) ?_
          refine z_pushJ gp_148_10 ?_
          refine z_goto gi_148_11 ?_
          refine z_bret1 gi_148_15 gr_148 ?_
          show zW _ _ _ _ _ _ _ _ _ _
          refine z_bret1 gi_248_6 gr_248 ?_
          show zW _ _ _ _ _ _ _ _ _ _
          refine z_if_eqF gi_250_4 zr_1 (by decide) ?_
          refine z_iload2 gi_250_7 ?_
          refine z_pushJ gp_250_8 ?_
          refine z_pushJ gp_250_9 ?_
          refine z_cS3 gi_250_10 (Nat.le_of_ble_eq_true rfl) gc_148_III ?_
          refine z_iload0 gi_148_0 ?_
          refine z_iload1 gi_148_1 ?_
          refine z_icmp_ltF gi_148_2 (by omega) zr_0 (by omega) ?_
          refine z_iload0 gi_148_5 ?_
          refine z_iload2 gi_148_6 ?_
          refine z_icmp_gtF gi_148_7 (by omega) zr_4 (by omega) ?_
          refine z_pushJ gp_148_10 ?_
          refine z_goto gi_148_11 ?_
          refine z_bret1 gi_148_15 gr_148 ?_
          show zW _ _ _ _ _ _ _ _ _ _
          refine z_if_eqF gi_250_13 zr_1 (by decide) ?_
          refine z_iload3 gi_250_16 ?_
          refine z_pushJ gp_250_17 ?_
          refine z_icmp_leT gi_250_19 (by omega) zr_60 (by omega) ?_
          refine z_iload3 gi_250_24 ?_
          refine z_if_geT gi_250_25 (by omega) (by omega) ?_
          refine z_aload0 gi_250_31 ?_
          refine z_getR (r := 83) gi_250_32 gk_50 (hRr _ rm_50_58 (by decide)) ?_
          refine z_iload1 gi_250_35 ?_
          refine z_pushJ gp_250_36 ?_
          refine z_iload2 gi_250_38 ?_
          refine z_isub (e := (-2) - w) gi_250_39 rfl ?_
          refine z_iast (e := (-2) - w) gi_250_40 gk_83 (by decide) (by decide) rfl ?_
          refine z_aload0 gi_250_41 ?_
          refine z_getR (r := 84) gi_250_42 gk_50 (hRr _ rm_50_59 (by decide)) ?_
          refine z_iload1 gi_250_45 ?_
          refine z_iload3 gi_250_46 ?_
          refine z_iast (e := n) gi_250_47 gk_84 (by decide) (by decide) rfl ?_
          refine z_pushJ gp_250_48 ?_
          refine z_iload1 gi_250_50 ?_
          refine z_imul (e := 120) gi_250_51 rfl ?_
          refine z_istore (ls1 := [some (.ref 50), some (zi 2), some (zi w), some (zi n), some (zi 120)]) gi_250_52 rfl ?_
          show zW _ _ _ _ [some (.ref 50), some (zi 2), some (zi w), some (zi n), some (zi 120)] [] _ _ _ _
          refine rowR_k (s := 2) (lo := 120) hRr (by decide) (by decide) ?_
          refine z_pushJ gp_250_80 ?_
          refine z_iret gi_250_81 gr_250 ?_
          refine ⟨?_, ?_⟩
          · first | rfl | exact congrArg (fun v => some (zi v)) (by omega) | (exfalso; omega)
          · have hk := (zK_x (a := 84) (x := 2) (v := n) (zK_x (a := 83) (x := 2) (v := (-2) - w) (zK_x (a := 42) (x := 3) (v := n) (zK_x (a := 42) (x := 2) (v := w) (zK_x (a := 42) (x := 0) (v := 2) (zK_r (k := (kL [] [(42, 0), (42, 2), (42, 3), (83, 2), (84, 2)])) (A := J)) rfl) rfl) rfl) rfl) rfl)
            have hkm := (zK_S (c := 85) (f := (fun y => if 120 ≤ y then 0 else (zS M 43 (fun _ => 0) 60) 85 y)) (n := 180) (zK_S (c := 43) (f := (fun _ => 0)) (n := 60) (zK_r (k := (kL [43, 85] [])) (A := M)) (fun _ => rfl)) (fun _ => rfl))
            exact ⟨hR, hG, RelY_k hk (by repeat' constructor) (fun p => by repeat' constructor) hY, RelD_k hk (by repeat' constructor) (fun p => by repeat' constructor) hD, RelP_k hk (by repeat' constructor) (fun p => by repeat' constructor) hP, RelC_k hk (by repeat' constructor) (fun p => by repeat' constructor) hC, RelA_k hk (by repeat' constructor) (fun p => by repeat' constructor) hAc, (RelS_one (J := J) (M := M) (c := 2) (fun t t1 t2 te => by have q : t = 0 ∨ t = 1 ∨ t = 2 ∨ t = 3 ∨ t = 4 ∨ t = 5 := (by omega); rcases q with rfl | rfl | rfl | rfl | rfl | rfl <;> first | exact absurd rfl te | exact ⟨fun j => rfl, rfl, rfl⟩) (fun t t1 t2 te => ⟨fun j => (by have q : t = 0 ∨ t = 1 ∨ t = 2 ∨ t = 3 ∨ t = 4 ∨ t = 5 := (by omega); rcases q with rfl | rfl | rfl | rfl | rfl | rfl <;> first | exact absurd rfl te | rfl), fun j j1 j2 => (zS_lo_o (J := (zS M 43 (fun _ => 0) 60)) (by omega)).trans (zS_n (by decide))⟩) rfl (show RelS1 _ _ _ from ⟨rfl, (show (0 : Int) ≤ 2 ∧ (2 : Int) ≤ 2 from by decide), (show 0 ≤ w ∧ w ≤ 4 from by omega), (show 0 ≤ n ∧ n ≤ 60 from by omega), fun h => absurd (show (2 : Int) = 1 from h) (by decide), fun _ => ⟨rfl, fun k k1 k2 => (show (zS (zS M 43 (fun _ => 0) 60) 85 (fun y => if 120 ≤ y then 0 else (zS M 43 (fun _ => 0) 60) 85 y) 180) 43 k = (zS (zS M 43 (fun _ => 0) 60) 85 (fun y => if 120 ≤ y then 0 else (zS M 43 (fun _ => 0) 60) 85 y) 180) 85 (120 + k) from by have k3 : k < n := k2; rw [zS_n (by decide), zS_at (by omega), zS_lo_i (J := (zS M 43 (fun _ => 0) 60)) (by decide) (by omega)]), fun _ k k1 k2 => (show -128 ≤ (zS (zS M 43 (fun _ => 0) 60) 85 (fun y => if 120 ≤ y then 0 else (zS M 43 (fun _ => 0) 60) 85 y) 180) 43 k ∧ (zS (zS M 43 (fun _ => 0) 60) 85 (fun y => if 120 ≤ y then 0 else (zS M 43 (fun _ => 0) 60) 85 y) 180) 43 k ≤ 127 from by have k3 : k < n := k2; rw [zS_n (by decide), zS_at (by omega)]; decide)⟩⟩) hS), RelT_k hk (by repeat' constructor) (fun p => by repeat' constructor) hTp, RelX_k hk (by repeat' constructor) (fun p => by repeat' constructor) hX, RelW_k hk ⟨rfl, rfl⟩ trivial hW⟩
        · refine z_pushJ gp_137_26 ?_
          refine z_iret gi_137_28 gr_137 ?_
          refine ⟨_, rfl, ?_⟩
          show zW _ _ _ _ [some (.ref 50), some (zi 2), some (zi w), some (zi n), none] _ _ _ _ _
          refine z_iload1 gi_250_0 ?_
          refine z_cS1 gi_250_1 (Nat.le_of_ble_eq_true rfl) gc_248_I ?_
          refine z_iload0 gi_248_0 ?_
          refine z_pushJ gp_248_1 ?_
          refine z_pushJ gp_248_2 ?_
          refine z_cS3 gi_248_3 (Nat.le_of_ble_eq_true rfl) gc_148_III ?_
          refine z_iload0 gi_148_0 ?_
          refine z_iload1 gi_148_1 ?_
          refine z_icmp_ltF gi_148_2 zr_2 zr_0 (by decide) ?_
          refine z_iload0 gi_148_5 ?_
          refine z_iload2 gi_148_6 ?_
          refine z_icmp_gtF gi_148_7 zr_2 zr_5 (by decide) ?_
          refine z_pushJ gp_148_10 ?_
          refine z_goto gi_148_11 ?_
          refine z_bret1 gi_148_15 gr_148 ?_
          show zW _ _ _ _ _ _ _ _ _ _
          refine z_bret1 gi_248_6 gr_248 ?_
          show zW _ _ _ _ _ _ _ _ _ _
          refine z_if_eqF gi_250_4 zr_1 (by decide) ?_
          refine z_iload2 gi_250_7 ?_
          refine z_pushJ gp_250_8 ?_
          refine z_pushJ gp_250_9 ?_
          refine z_cS3 gi_250_10 (Nat.le_of_ble_eq_true rfl) gc_148_III ?_
          refine z_iload0 gi_148_0 ?_
          refine z_iload1 gi_148_1 ?_
          refine z_icmp_ltF gi_148_2 (by omega) zr_0 (by omega) ?_
          refine z_iload0 gi_148_5 ?_
          refine z_iload2 gi_148_6 ?_
          refine z_icmp_gtF gi_148_7 (by omega) zr_4 (by omega) ?_
          refine z_pushJ gp_148_10 ?_
          refine z_goto gi_148_11 ?_
          refine z_bret1 gi_148_15 gr_148 ?_
          show zW _ _ _ _ _ _ _ _ _ _
          refine z_if_eqF gi_250_13 zr_1 (by decide) ?_
          refine z_iload3 gi_250_16 ?_
          refine z_pushJ gp_250_17 ?_
          refine z_icmp_leT gi_250_19 (by omega) zr_60 (by omega) ?_
          refine z_iload3 gi_250_24 ?_
          refine z_if_geF gi_250_25 (by omega) (by omega) ?_
          refine z_pushJ gp_250_28 ?_
          refine z_iret gi_250_30 gr_250 ?_
          refine ⟨?_, ?_⟩
          · first | rfl | exact congrArg (fun v => some (zi v)) (by omega) | (exfalso; omega)
          · exact hr
      · refine z_pushJ gp_137_20 ?_
        refine z_iret gi_137_21 gr_137 ?_
        refine ⟨_, rfl, ?_⟩
        show zW _ _ _ _ [some (.ref 50), some (zi 2), some (zi w), some (zi n), none] _ _ _ _ _
        refine z_iload1 gi_250_0 ?_
        refine z_cS1 gi_250_1 (Nat.le_of_ble_eq_true rfl) gc_248_I ?_
        refine z_iload0 gi_248_0 ?_
        refine z_pushJ gp_248_1 ?_
        refine z_pushJ gp_248_2 ?_
        refine z_cS3 gi_248_3 (Nat.le_of_ble_eq_true rfl) gc_148_III ?_
        refine z_iload0 gi_148_0 ?_
        refine z_iload1 gi_148_1 ?_
        refine z_icmp_ltF gi_148_2 zr_2 zr_0 (by decide) ?_
        refine z_iload0 gi_148_5 ?_
        refine z_iload2 gi_148_6 ?_
        refine z_icmp_gtF gi_148_7 zr_2 zr_5 (by decide) ?_
        refine z_pushJ gp_148_10 ?_
        refine z_goto gi_148_11 ?_
        refine z_bret1 gi_148_15 gr_148 ?_
        show zW _ _ _ _ _ _ _ _ _ _
        refine z_bret1 gi_248_6 gr_248 ?_
        show zW _ _ _ _ _ _ _ _ _ _
        refine z_if_eqF gi_250_4 zr_1 (by decide) ?_
        refine z_iload2 gi_250_7 ?_
        refine z_pushJ gp_250_8 ?_
        refine z_pushJ gp_250_9 ?_
        refine z_cS3 gi_250_10 (Nat.le_of_ble_eq_true rfl) gc_148_III ?_
        refine z_iload0 gi_148_0 ?_
        refine z_iload1 gi_148_1 ?_
        refine z_icmp_ltF gi_148_2 (by omega) zr_0 (by omega) ?_
        refine z_iload0 gi_148_5 ?_
        refine z_iload2 gi_148_6 ?_
        refine z_icmp_gtF gi_148_7 (by omega) zr_4 (by omega) ?_
        refine z_pushJ gp_148_10 ?_
        refine z_goto gi_148_11 ?_
        refine z_bret1 gi_148_15 gr_148 ?_
        show zW _ _ _ _ _ _ _ _ _ _
        refine z_if_eqF gi_250_13 zr_1 (by decide) ?_
        refine z_iload3 gi_250_16 ?_
        refine z_pushJ gp_250_17 ?_
        refine z_icmp_leF gi_250_19 (by omega) zr_60 (by omega) ?_
        refine z_pushJ gp_250_22 ?_
        refine z_iret gi_250_23 gr_250 ?_
        refine ⟨?_, ?_⟩
        · first | rfl | exact congrArg (fun v => some (zi v)) (by omega) | (exfalso; omega)
        · exact hr
theorem st_row_3 {X : Nat × (Nat → Int32)} {d : Nat} {J M : zA} {R : zR} {w n : Int} (hr : Rel X J M R) (hw : -2147483648 ≤ w ∧ w < 2147483648) (hn : -2147483648 ≤ n ∧ n < 2147483648)  : zW X (d + 20) 137 0 (gEn 137 [(.ref 0), (zi 3), (zi w), (zi n)]) [] J M R (stP X (d + 20) 250 [(zi 3), (zi w), (zi n)]) := by
  have hr0 := hr
  obtain ⟨hR, hG, hY, hD, hP, hC, hAc, hS, hTp, hX, hW⟩ := hr0
  have hRr : zRoR R := zRoR_of hR
  show zW _ _ _ _ [some (.ref 0), some (zi 3), some (zi w), some (zi n)] _ _ _ _ _
  refine z_iload1 gi_137_0 ?_
  refine z_cS1 gi_137_1 (Nat.le_of_ble_eq_true rfl) gc_143_I ?_
  refine z_iload0 gi_143_0 ?_
  refine z_if_ltF gi_143_1 zr_3 (by decide) ?_
  refine z_iload0 gi_143_4 ?_
  refine z_pushJ gp_143_5 ?_
  refine z_icmp_geF gi_143_7 zr_3 zr_6 (by decide) ?_
  refine z_pushJ gp_143_10 ?_
  refine z_goto gi_143_11 ?_
  refine z_bret1 gi_143_15 gr_143 ?_
  show zW _ _ _ _ _ _ _ _ _ _
  refine z_if_eqF gi_137_4 zr_1 (by decide) ?_
  refine z_iload2 gi_137_7 ?_
  refine z_cS1 gi_137_8 (Nat.le_of_ble_eq_true rfl) gc_61_I ?_
  refine z_iload0 gi_61_0 ?_
  refine z_if_lt gi_61_1 (by omega) (fun h1 => ?_) (fun h1 => ?_)
  · refine z_pushJ gp_61_13 ?_
    refine z_bret0 gi_61_14 gr_61 ?_
    show zW _ _ _ _ _ _ _ _ _ _
    refine z_if_eqT gi_137_11 zr_0 (by decide) ?_
    refine z_pushJ gp_137_20 ?_
    refine z_iret gi_137_21 gr_137 ?_
    refine ⟨_, rfl, ?_⟩
    show zW _ _ _ _ [some (.ref 50), some (zi 3), some (zi w), some (zi n), none] _ _ _ _ _
    refine z_iload1 gi_250_0 ?_
    refine z_cS1 gi_250_1 (Nat.le_of_ble_eq_true rfl) gc_248_I ?_
    refine z_iload0 gi_248_0 ?_
    refine z_pushJ gp_248_1 ?_
    refine z_pushJ gp_248_2 ?_
    refine z_cS3 gi_248_3 (Nat.le_of_ble_eq_true rfl) gc_148_III ?_
    refine z_iload0 gi_148_0 ?_
    refine z_iload1 gi_148_1 ?_
    refine z_icmp_ltF gi_148_2 zr_3 zr_0 (by decide) ?_
    refine z_iload0 gi_148_5 ?_
    refine z_iload2 gi_148_6 ?_
    refine z_icmp_gtF gi_148_7 zr_3 zr_5 (by decide) ?_
    refine z_pushJ gp_148_10 ?_
    refine z_goto gi_148_11 ?_
    refine z_bret1 gi_148_15 gr_148 ?_
    show zW _ _ _ _ _ _ _ _ _ _
    refine z_bret1 gi_248_6 gr_248 ?_
    show zW _ _ _ _ _ _ _ _ _ _
    refine z_if_eqF gi_250_4 zr_1 (by decide) ?_
    refine z_iload2 gi_250_7 ?_
    refine z_pushJ gp_250_8 ?_
    refine z_pushJ gp_250_9 ?_
    refine z_cS3 gi_250_10 (Nat.le_of_ble_eq_true rfl) gc_148_III ?_
    refine z_iload0 gi_148_0 ?_
    refine z_iload1 gi_148_1 ?_
    refine z_icmp_ltT gi_148_2 (by omega) zr_0 (by omega) ?_
    refine z_pushJ gp_148_14 ?_
    refine z_bret0 gi_148_15 gr_148 ?_
    show zW _ _ _ _ _ _ _ _ _ _
    refine z_if_eqT gi_250_13 zr_0 (by decide) ?_
    refine z_pushJ gp_250_22 ?_
    refine z_iret gi_250_23 gr_250 ?_
    refine ⟨?_, ?_⟩
    · first | rfl | exact congrArg (fun v => some (zi v)) (by omega) | (exfalso; omega)
    · exact hr
  · refine z_iload0 gi_61_4 ?_
    refine z_pushJ gp_61_5 ?_
    refine z_icmp_gt gi_61_6 (by omega) zr_4 (fun h2 => ?_) (fun h2 => ?_)
    · refine z_pushJ gp_61_13 ?_
      refine z_bret0 gi_61_14 gr_61 ?_
      show zW _ _ _ _ _ _ _ _ _ _
      refine z_if_eqT gi_137_11 zr_0 (by decide) ?_
      refine z_pushJ gp_137_20 ?_
      refine z_iret gi_137_21 gr_137 ?_
      refine ⟨_, rfl, ?_⟩
      show zW _ _ _ _ [some (.ref 50), some (zi 3), some (zi w), some (zi n), none] _ _ _ _ _
      refine z_iload1 gi_250_0 ?_
      refine z_cS1 gi_250_1 (Nat.le_of_ble_eq_true rfl) gc_248_I ?_
      refine z_iload0 gi_248_0 ?_
      refine z_pushJ gp_248_1 ?_
      refine z_pushJ gp_248_2 ?_
      refine z_cS3 gi_248_3 (Nat.le_of_ble_eq_true rfl) gc_148_III ?_
      refine z_iload0 gi_148_0 ?_
      refine z_iload1 gi_148_1 ?_
      refine z_icmp_ltF gi_148_2 zr_3 zr_0 (by decide) ?_
      refine z_iload0 gi_148_5 ?_
      refine z_iload2 gi_148_6 ?_
      refine z_icmp_gtF gi_148_7 zr_3 zr_5 (by decide) ?_
      refine z_pushJ gp_148_10 ?_
      refine z_goto gi_148_11 ?_
      refine z_bret1 gi_148_15 gr_148 ?_
      show zW _ _ _ _ _ _ _ _ _ _
      refine z_bret1 gi_248_6 gr_248 ?_
      show zW _ _ _ _ _ _ _ _ _ _
      refine z_if_eqF gi_250_4 zr_1 (by decide) ?_
      refine z_iload2 gi_250_7 ?_
      refine z_pushJ gp_250_8 ?_
      refine z_pushJ gp_250_9 ?_
      refine z_cS3 gi_250_10 (Nat.le_of_ble_eq_true rfl) gc_148_III ?_
      refine z_iload0 gi_148_0 ?_
      refine z_iload1 gi_148_1 ?_
      refine z_icmp_ltF gi_148_2 (by omega) zr_0 (by omega) ?_
      refine z_iload0 gi_148_5 ?_
      refine z_iload2 gi_148_6 ?_
      refine z_icmp_gtT gi_148_7 (by omega) zr_4 (by omega) ?_
      refine z_pushJ gp_148_14 ?_
      refine z_bret0 gi_148_15 gr_148 ?_
      show zW _ _ _ _ _ _ _ _ _ _
      refine z_if_eqT gi_250_13 zr_0 (by decide) ?_
      refine z_pushJ gp_250_22 ?_
      refine z_iret gi_250_23 gr_250 ?_
      refine ⟨?_, ?_⟩
      · first | rfl | exact congrArg (fun v => some (zi v)) (by omega) | (exfalso; omega)
      · exact hr
    · refine z_pushJ gp_61_9 ?_
      refine z_goto gi_61_10 ?_
      refine z_bret1 gi_61_14 gr_61 ?_
      show zW _ _ _ _ _ _ _ _ _ _
      refine z_if_eqF gi_137_11 zr_1 (by decide) ?_
      refine z_iload3 gi_137_14 ?_
      refine z_pushJ gp_137_15 ?_
      refine z_icmp_le gi_137_17 (by omega) zr_60 (fun h3 => ?_) (fun h3 => ?_)
      · refine z_iload3 gi_137_22 ?_
        refine z_if_ge gi_137_23 (by omega) (fun h4 => ?_) (fun h4 => ?_)
        · refine z_aload0 gi_137_29 ?_
          refine z_getR (r := 37) gi_137_30 gk_0 (hR _ rm_0_11) ?_
          refine z_iload1 gi_137_33 ?_
          refine z_aald (r := 44) gi_137_34 rfl (by decide) (by decide) (hR _ rm_37_3) ?_
          refine z_iload2 gi_137_35 ?_
          refine z_iload3 gi_137_36 ?_
          refine z_callVi (As := [_, _]) (le := [some _, some _, some _, none]) gi_137_37 rfl gk_44 (Nat.le_of_ble_eq_true rfl) (Nat.le_of_ble_eq_true rfl) rfl ?_
          refine z_aload0 gi_68_0 ?_
          refine z_pushJ gp_68_1 ?_
          refine z_putI (y := 0) gi_68_2 rfl gk_44 ?_
          refine z_aload0 gi_68_5 ?_
          refine z_iload1 gi_68_6 ?_
          refine z_putI (y := 2) gi_68_7 rfl gk_44 ?_
          refine z_aload0 gi_68_10 ?_
          refine z_iload2 gi_68_11 ?_
          refine z_putI (y := 3) gi_68_12 rfl gk_44 ?_
          refine z_pushJ gp_68_15 ?_
          refine z_istore (ls1 := [some (.ref 44), some (zi w), some (zi n), some (zi 0)]) gi_68_16 rfl ?_
          show zW _ _ _ _ [some (.ref 44), some (zi w), some (zi n), some (zi 0)] [] _ _ _ _
          refine rowC_k (a := 45) rfl rfl (hR _ rm_44_4) ?_
          refine z_vret gi_68_36 gr_68 ?_
          show zW _ _ _ _ _ _ _ _ _ _
          refine z_pushJ gp_137_40 ?_
          refine z_iret gi_137_41 gr_137 ?_
          refine ⟨_, rfl, ?_⟩
          show zW _ _ _ _ [some (.ref 50), some (zi 3), some (zi w), some (zi n), none] _ _ _ _ _
          refine z_iload1 gi_250_0 ?_
          refine z_cS1 gi_250_1 (Nat.le_of_ble_eq_true rfl) gc_248_I ?_
          refine z_iload0 gi_248_0 ?_
          refine z_pushJ gp_248_1 ?_
          refine z_pushJ gp_248_2 ?_
          refine z_cS3 gi_248_3 (Nat.le_of_ble_eq_true rfl) gc_148_III ?_
          refine z_iload0 gi_148_0 ?_
          refine z_iload1 gi_148_1 ?_
          refine z_icmp_ltF gi_148_2 zr_3 zr_0 (by decide) ?_
          refine z_iload0 gi_148_5 ?_
          refine z_iload2 gi_148_6 ?_
          refine z_icmp_gtF gi_148_7 zr_3 zr_5 (by decide) ?_
          refine z_pushJ gp_148_10 ?_
          refine z_goto gi_148_11 ?_
          refine z_bret1 gi_148_15 gr_148 ?_
          show zW _ _ _ _ _ _ _ _ _ _
          refine z_bret1 gi_248_6 gr_248 ?_
          show zW _ _ _ _ _ _ _ _ _ _
          refine z_if_eqF gi_250_4 zr_1 (by decide) ?_
          refine z_iload2 gi_250_7 ?_
          refine z_pushJ gp_250_8 ?_
          refine z_pushJ gp_250_9 ?_
          refine z_cS3 gi_250_10 (Nat.le_of_ble_eq_true rfl) gc_148_III ?_
          refine z_iload0 gi_148_0 ?_
          refine z_iload1 gi_148_1 ?_
          refine z_icmp_ltF gi_148_2 (by omega) zr_0 (by omega) ?_
          refine z_iload0 gi_148_5 ?_
          refine z_iload2 gi_148_6 ?_
          refine z_icmp_gtF gi_148_7 (by omega) zr_4 (by omega) ?_
          refine z_pushJ gp_148_10 ?_
          refine z_goto gi_148_11 ?_
          refine z_bret1 gi_148_15 gr_148 ?_
          show zW _ _ _ _ _ _ _ _ _ _
          refine z_if_eqF gi_250_13 zr_1 (by decide) ?_
          refine z_iload3 gi_250_16 ?_
          refine z_pushJ gp_250_17 ?_
          refine z_icmp_leT gi_250_19 (by omega) zr_60 (by omega) ?_
          refine z_iload3 gi_250_24 ?_
          refine z_if_geT gi_250_25 (by omega) (by omega) ?_
          refine z_aload0 gi_250_31 ?_
          refine z_getR (r := 83) gi_250_32 gk_50 (hRr _ rm_50_58 (by decide)) ?_
          refine z_iload1 gi_250_35 ?_
          refine z_pushJ gp_250_36 ?_
          refine z_iload2 gi_250_38 ?_
          refine z_isub (e := (-2) - w) gi_250_39 rfl ?_
          refine z_iast (e := (-2) - w) gi_250_40 gk_83 (by decide) (by decide) rfl ?_
          refine z_aload0 gi_250_41 ?_
          refine z_getR (r := 84) gi_250_42 gk_50 (hRr _ rm_50_59 (by decide)) ?_
          refine z_iload1 gi_250_45 ?_
          refine z_iload3 gi_250_46 ?_
          refine z_iast (e := n) gi_250_47 gk_84 (by decide) (by decide) rfl ?_
          refine z_pushJ gp_250_48 ?_
          refine z_iload1 gi_250_50 ?_
          refine z_imul (e := 180) gi_250_51 rfl ?_
          refine z_istore (ls1 := [some (.ref 50), some (zi 3), some (zi w), some (zi n), some (zi 180)]) gi_250_52 rfl ?_
          show zW _ _ _ _ [some (.ref 50), some (zi 3), some (zi w), some (zi n), some (zi 180)] [] _ _ _ _
          refine rowR_k (s := 3) (lo := 180) hRr (by decide) (by decide) ?_
          refine z_pushJ gp_250_80 ?_
          refine z_iret gi_250_81 gr_250 ?_
          refine ⟨?_, ?_⟩
          · first | rfl | exact congrArg (fun v => some (zi v)) (by omega) | (exfalso; omega)
          · have hk := (zK_x (a := 84) (x := 3) (v := n) (zK_x (a := 83) (x := 3) (v := (-2) - w) (zK_x (a := 44) (x := 3) (v := n) (zK_x (a := 44) (x := 2) (v := w) (zK_x (a := 44) (x := 0) (v := 2) (zK_r (k := (kL [] [(44, 0), (44, 2), (44, 3), (83, 3), (84, 3)])) (A := J)) rfl) rfl) rfl) rfl) rfl)
            have hkm := (zK_S (c := 85) (f := (fun y => if 180 ≤ y then 0 else (zS M 45 (fun _ => 0) 60) 85 y)) (n := 240) (zK_S (c := 45) (f := (fun _ => 0)) (n := 60) (zK_r (k := (kL [45, 85] [])) (A := M)) (fun _ => rfl)) (fun _ => rfl))
            exact ⟨hR, hG, RelY_k hk (by repeat' constructor) (fun p => by repeat' constructor) hY, RelD_k hk (by repeat' constructor) (fun p => by repeat' constructor) hD, RelP_k hk (by repeat' constructor) (fun p => by repeat' constructor) hP, RelC_k hk (by repeat' constructor) (fun p => by repeat' constructor) hC, RelA_k hk (by repeat' constructor) (fun p => by repeat' constructor) hAc, (RelS_one (J := J) (M := M) (c := 3) (fun t t1 t2 te => by have q : t = 0 ∨ t = 1 ∨ t = 2 ∨ t = 3 ∨ t = 4 ∨ t = 5 := (by omega); rcases q with rfl | rfl | rfl | rfl | rfl | rfl <;> first | exact absurd rfl te | exact ⟨fun j => rfl, rfl, rfl⟩) (fun t t1 t2 te => ⟨fun j => (by have q : t = 0 ∨ t = 1 ∨ t = 2 ∨ t = 3 ∨ t = 4 ∨ t = 5 := (by omega); rcases q with rfl | rfl | rfl | rfl | rfl | rfl <;> first | exact absurd rfl te | rfl), fun j j1 j2 => (zS_lo_o (J := (zS M 45 (fun _ => 0) 60)) (by omega)).trans (zS_n (by decide))⟩) rfl (show RelS1 _ _ _ from ⟨rfl, (show (0 : Int) ≤ 2 ∧ (2 : Int) ≤ 2 from by decide), (show 0 ≤ w ∧ w ≤ 4 from by omega), (show 0 ≤ n ∧ n ≤ 60 from by omega), fun h => absurd (show (2 : Int) = 1 from h) (by decide), fun _ => ⟨rfl, fun k k1 k2 => (show (zS (zS M 45 (fun _ => 0) 60) 85 (fun y => if 180 ≤ y then 0 else (zS M 45 (fun _ => 0) 60) 85 y) 240) 45 k = (zS (zS M 45 (fun _ => 0) 60) 85 (fun y => if 180 ≤ y then 0 else (zS M 45 (fun _ => 0) 60) 85 y) 240) 85 (180 + k) from by have k3 : k < n := k2; rw [zS_n (by decide), zS_at (by omega), zS_lo_i (J := (zS M 45 (fun _ => 0) 60)) (by decide) (by omega)]), fun _ k k1 k2 => (show -128 ≤ (zS (zS M 45 (fun _ => 0) 60) 85 (fun y => if 180 ≤ y then 0 else (zS M 45 (fun _ => 0) 60) 85 y) 240) 45 k ∧ (zS (zS M 45 (fun _ => 0) 60) 85 (fun y => if 180 ≤ y then 0 else (zS M 45 (fun _ => 0) 60) 85 y) 240) 45 k ≤ 127 from by have k3 : k < n := k2; rw [zS_n (by decide), zS_at (by omega)]; decide)⟩⟩) hS), RelT_k hk (by repeat' constructor) (fun p => by repeat' constructor) hTp, RelX_k hk (by repeat' constructor) (fun p => by repeat' constructor) hX, RelW_k hk ⟨rfl, rfl⟩ trivial hW⟩
        · refine z_pushJ gp_137_26 ?_
          refine z_iret gi_137_28 gr_137 ?_
          refine ⟨_, rfl, ?_⟩
          show zW _ _ _ _ [some (.ref 50), some (zi 3), some (zi w), some (zi n), none] _ _ _ _ _
          refine z_iload1 gi_250_0 ?_
          refine z_cS1 gi_250_1 (Nat.le_of_ble_eq_true rfl) gc_248_I ?_
          refine z_iload0 gi_248_0 ?_
          refine z_pushJ gp_248_1 ?_
          refine z_pushJ gp_248_2 ?_
          refine z_cS3 gi_248_3 (Nat.le_of_ble_eq_true rfl) gc_148_III ?_
          refine z_iload0 gi_148_0 ?_
          refine z_iload1 gi_148_1 ?_
          refine z_icmp_ltF gi_148_2 zr_3 zr_0 (by decide) ?_
          refine z_iload0 gi_148_5 ?_
          refine z_iload2 gi_148_6 ?_
          refine z_icmp_gtF gi_148_7 zr_3 zr_5 (by decide) ?_
          refine z_pushJ gp_148_10 ?_
          refine z_goto gi_148_11 ?_
          refine z_bret1 gi_148_15 gr_148 ?_
          show zW _ _ _ _ _ _ _ _ _ _
          refine z_bret1 gi_248_6 gr_248 ?_
          show zW _ _ _ _ _ _ _ _ _ _
          refine z_if_eqF gi_250_4 zr_1 (by decide) ?_
          refine z_iload2 gi_250_7 ?_
          refine z_pushJ gp_250_8 ?_
          refine z_pushJ gp_250_9 ?_
          refine z_cS3 gi_250_10 (Nat.le_of_ble_eq_true rfl) gc_148_III ?_
          refine z_iload0 gi_148_0 ?_
          refine z_iload1 gi_148_1 ?_
          refine z_icmp_ltF gi_148_2 (by omega) zr_0 (by omega) ?_
          refine z_iload0 gi_148_5 ?_
          refine z_iload2 gi_148_6 ?_
          refine z_icmp_gtF gi_148_7 (by omega) zr_4 (by omega) ?_
          refine z_pushJ gp_148_10 ?_
          refine z_goto gi_148_11 ?_
          refine z_bret1 gi_148_15 gr_148 ?_
          show zW _ _ _ _ _ _ _ _ _ _
          refine z_if_eqF gi_250_13 zr_1 (by decide) ?_
          refine z_iload3 gi_250_16 ?_
          refine z_pushJ gp_250_17 ?_
          refine z_icmp_leT gi_250_19 (by omega) zr_60 (by omega) ?_
          refine z_iload3 gi_250_24 ?_
          refine z_if_geF gi_250_25 (by omega) (by omega) ?_
          refine z_pushJ gp_250_28 ?_
          refine z_iret gi_250_30 gr_250 ?_
          refine ⟨?_, ?_⟩
          · first | rfl | exact congrArg (fun v => some (zi v)) (by omega) | (exfalso; omega)
          · exact hr
      · refine z_pushJ gp_137_20 ?_
        refine z_iret gi_137_21 gr_137 ?_
        refine ⟨_, rfl, ?_⟩
        show zW _ _ _ _ [some (.ref 50), some (zi 3), some (zi w), some (zi n), none] _ _ _ _ _
        refine z_iload1 gi_250_0 ?_
        refine z_cS1 gi_250_1 (Nat.le_of_ble_eq_true rfl) gc_248_I ?_
        refine z_iload0 gi_248_0 ?_
        refine z_pushJ gp_248_1 ?_
        refine z_pushJ gp_248_2 ?_
        refine z_cS3 gi_248_3 (Nat.le_of_ble_eq_true rfl) gc_148_III ?_
        refine z_iload0 gi_148_0 ?_
        refine z_iload1 gi_148_1 ?_
        refine z_icmp_ltF gi_148_2 zr_3 zr_0 (by decide) ?_
        refine z_iload0 gi_148_5 ?_
        refine z_iload2 gi_148_6 ?_
        refine z_icmp_gtF gi_148_7 zr_3 zr_5 (by decide) ?_
        refine z_pushJ gp_148_10 ?_
        refine z_goto gi_148_11 ?_
        refine z_bret1 gi_148_15 gr_148 ?_
        show zW _ _ _ _ _ _ _ _ _ _
        refine z_bret1 gi_248_6 gr_248 ?_
        show zW _ _ _ _ _ _ _ _ _ _
        refine z_if_eqF gi_250_4 zr_1 (by decide) ?_
        refine z_iload2 gi_250_7 ?_
        refine z_pushJ gp_250_8 ?_
        refine z_pushJ gp_250_9 ?_
        refine z_cS3 gi_250_10 (Nat.le_of_ble_eq_true rfl) gc_148_III ?_
        refine z_iload0 gi_148_0 ?_
        refine z_iload1 gi_148_1 ?_
        refine z_icmp_ltF gi_148_2 (by omega) zr_0 (by omega) ?_
        refine z_iload0 gi_148_5 ?_
        refine z_iload2 gi_148_6 ?_
        refine z_icmp_gtF gi_148_7 (by omega) zr_4 (by omega) ?_
        refine z_pushJ gp_148_10 ?_
        refine z_goto gi_148_11 ?_
        refine z_bret1 gi_148_15 gr_148 ?_
        show zW _ _ _ _ _ _ _ _ _ _
        refine z_if_eqF gi_250_13 zr_1 (by decide) ?_
        refine z_iload3 gi_250_16 ?_
        refine z_pushJ gp_250_17 ?_
        refine z_icmp_leF gi_250_19 (by omega) zr_60 (by omega) ?_
        refine z_pushJ gp_250_22 ?_
        refine z_iret gi_250_23 gr_250 ?_
        refine ⟨?_, ?_⟩
        · first | rfl | exact congrArg (fun v => some (zi v)) (by omega) | (exfalso; omega)
        · exact hr
theorem st_row_4 {X : Nat × (Nat → Int32)} {d : Nat} {J M : zA} {R : zR} {w n : Int} (hr : Rel X J M R) (hw : -2147483648 ≤ w ∧ w < 2147483648) (hn : -2147483648 ≤ n ∧ n < 2147483648)  : zW X (d + 20) 137 0 (gEn 137 [(.ref 0), (zi 4), (zi w), (zi n)]) [] J M R (stP X (d + 20) 250 [(zi 4), (zi w), (zi n)]) := by
  have hr0 := hr
  obtain ⟨hR, hG, hY, hD, hP, hC, hAc, hS, hTp, hX, hW⟩ := hr0
  have hRr : zRoR R := zRoR_of hR
  show zW _ _ _ _ [some (.ref 0), some (zi 4), some (zi w), some (zi n)] _ _ _ _ _
  refine z_iload1 gi_137_0 ?_
  refine z_cS1 gi_137_1 (Nat.le_of_ble_eq_true rfl) gc_143_I ?_
  refine z_iload0 gi_143_0 ?_
  refine z_if_ltF gi_143_1 zr_4 (by decide) ?_
  refine z_iload0 gi_143_4 ?_
  refine z_pushJ gp_143_5 ?_
  refine z_icmp_geF gi_143_7 zr_4 zr_6 (by decide) ?_
  refine z_pushJ gp_143_10 ?_
  refine z_goto gi_143_11 ?_
  refine z_bret1 gi_143_15 gr_143 ?_
  show zW _ _ _ _ _ _ _ _ _ _
  refine z_if_eqF gi_137_4 zr_1 (by decide) ?_
  refine z_iload2 gi_137_7 ?_
  refine z_cS1 gi_137_8 (Nat.le_of_ble_eq_true rfl) gc_61_I ?_
  refine z_iload0 gi_61_0 ?_
  refine z_if_lt gi_61_1 (by omega) (fun h1 => ?_) (fun h1 => ?_)
  · refine z_pushJ gp_61_13 ?_
    refine z_bret0 gi_61_14 gr_61 ?_
    show zW _ _ _ _ _ _ _ _ _ _
    refine z_if_eqT gi_137_11 zr_0 (by decide) ?_
    refine z_pushJ gp_137_20 ?_
    refine z_iret gi_137_21 gr_137 ?_
    refine ⟨_, rfl, ?_⟩
    show zW _ _ _ _ [some (.ref 50), some (zi 4), some (zi w), some (zi n), none] _ _ _ _ _
    refine z_iload1 gi_250_0 ?_
    refine z_cS1 gi_250_1 (Nat.le_of_ble_eq_true rfl) gc_248_I ?_
    refine z_iload0 gi_248_0 ?_
    refine z_pushJ gp_248_1 ?_
    refine z_pushJ gp_248_2 ?_
    refine z_cS3 gi_248_3 (Nat.le_of_ble_eq_true rfl) gc_148_III ?_
    refine z_iload0 gi_148_0 ?_
    refine z_iload1 gi_148_1 ?_
    refine z_icmp_ltF gi_148_2 zr_4 zr_0 (by decide) ?_
    refine z_iload0 gi_148_5 ?_
    refine z_iload2 gi_148_6 ?_
    refine z_icmp_gtF gi_148_7 zr_4 zr_5 (by decide) ?_
    refine z_pushJ gp_148_10 ?_
    refine z_goto gi_148_11 ?_
    refine z_bret1 gi_148_15 gr_148 ?_
    show zW _ _ _ _ _ _ _ _ _ _
    refine z_bret1 gi_248_6 gr_248 ?_
    show zW _ _ _ _ _ _ _ _ _ _
    refine z_if_eqF gi_250_4 zr_1 (by decide) ?_
    refine z_iload2 gi_250_7 ?_
    refine z_pushJ gp_250_8 ?_
    refine z_pushJ gp_250_9 ?_
    refine z_cS3 gi_250_10 (Nat.le_of_ble_eq_true rfl) gc_148_III ?_
    refine z_iload0 gi_148_0 ?_
    refine z_iload1 gi_148_1 ?_
    refine z_icmp_ltT gi_148_2 (by omega) zr_0 (by omega) ?_
    refine z_pushJ gp_148_14 ?_
    refine z_bret0 gi_148_15 gr_148 ?_
    show zW _ _ _ _ _ _ _ _ _ _
    refine z_if_eqT gi_250_13 zr_0 (by decide) ?_
    refine z_pushJ gp_250_22 ?_
    refine z_iret gi_250_23 gr_250 ?_
    refine ⟨?_, ?_⟩
    · first | rfl | exact congrArg (fun v => some (zi v)) (by omega) | (exfalso; omega)
    · exact hr
  · refine z_iload0 gi_61_4 ?_
    refine z_pushJ gp_61_5 ?_
    refine z_icmp_gt gi_61_6 (by omega) zr_4 (fun h2 => ?_) (fun h2 => ?_)
    · refine z_pushJ gp_61_13 ?_
      refine z_bret0 gi_61_14 gr_61 ?_
      show zW _ _ _ _ _ _ _ _ _ _
      refine z_if_eqT gi_137_11 zr_0 (by decide) ?_
      refine z_pushJ gp_137_20 ?_
      refine z_iret gi_137_21 gr_137 ?_
      refine ⟨_, rfl, ?_⟩
      show zW _ _ _ _ [some (.ref 50), some (zi 4), some (zi w), some (zi n), none] _ _ _ _ _
      refine z_iload1 gi_250_0 ?_
      refine z_cS1 gi_250_1 (Nat.le_of_ble_eq_true rfl) gc_248_I ?_
      refine z_iload0 gi_248_0 ?_
      refine z_pushJ gp_248_1 ?_
      refine z_pushJ gp_248_2 ?_
      refine z_cS3 gi_248_3 (Nat.le_of_ble_eq_true rfl) gc_148_III ?_
      refine z_iload0 gi_148_0 ?_
      refine z_iload1 gi_148_1 ?_
      refine z_icmp_ltF gi_148_2 zr_4 zr_0 (by decide) ?_
      refine z_iload0 gi_148_5 ?_
      refine z_iload2 gi_148_6 ?_
      refine z_icmp_gtF gi_148_7 zr_4 zr_5 (by decide) ?_
      refine z_pushJ gp_148_10 ?_
      refine z_goto gi_148_11 ?_
      refine z_bret1 gi_148_15 gr_148 ?_
      show zW _ _ _ _ _ _ _ _ _ _
      refine z_bret1 gi_248_6 gr_248 ?_
      show zW _ _ _ _ _ _ _ _ _ _
      refine z_if_eqF gi_250_4 zr_1 (by decide) ?_
      refine z_iload2 gi_250_7 ?_
      refine z_pushJ gp_250_8 ?_
      refine z_pushJ gp_250_9 ?_
      refine z_cS3 gi_250_10 (Nat.le_of_ble_eq_true rfl) gc_148_III ?_
      refine z_iload0 gi_148_0 ?_
      refine z_iload1 gi_148_1 ?_
      refine z_icmp_ltF gi_148_2 (by omega) zr_0 (by omega) ?_
      refine z_iload0 gi_148_5 ?_
      refine z_iload2 gi_148_6 ?_
      refine z_icmp_gtT gi_148_7 (by omega) zr_4 (by omega) ?_
      refine z_pushJ gp_148_14 ?_
      refine z_bret0 gi_148_15 gr_148 ?_
      show zW _ _ _ _ _ _ _ _ _ _
      refine z_if_eqT gi_250_13 zr_0 (by decide) ?_
      refine z_pushJ gp_250_22 ?_
      refine z_iret gi_250_23 gr_250 ?_
      refine ⟨?_, ?_⟩
      · first | rfl | exact congrArg (fun v => some (zi v)) (by omega) | (exfalso; omega)
      · exact hr
    · refine z_pushJ gp_61_9 ?_
      refine z_goto gi_61_10 ?_
      refine z_bret1 gi_61_14 gr_61 ?_
      show zW _ _ _ _ _ _ _ _ _ _
      refine z_if_eqF gi_137_11 zr_1 (by decide) ?_
      refine z_iload3 gi_137_14 ?_
      refine z_pushJ gp_137_15 ?_
      refine z_icmp_le gi_137_17 (by omega) zr_60 (fun h3 => ?_) (fun h3 => ?_)
      · refine z_iload3 gi_137_22 ?_
        refine z_if_ge gi_137_23 (by omega) (fun h4 => ?_) (fun h4 => ?_)
        · refine z_aload0 gi_137_29 ?_
          refine z_getR (r := 37) gi_137_30 gk_0 (hR _ rm_0_11) ?_
          refine z_iload1 gi_137_33 ?_
          refine z_aald (r := 46) gi_137_34 rfl (by decide) (by decide) (hR _ rm_37_4) ?_
          refine z_iload2 gi_137_35 ?_
          refine z_iload3 gi_137_36 ?_
          refine z_callVi (As := [_, _]) (le := [some _, some _, some _, none]) gi_137_37 rfl gk_46 (Nat.le_of_ble_eq_true rfl) (Nat.le_of_ble_eq_true rfl) rfl ?_
          refine z_aload0 gi_68_0 ?_
          refine z_pushJ gp_68_1 ?_
          refine z_putI (y := 0) gi_68_2 rfl gk_46 ?_
          refine z_aload0 gi_68_5 ?_
          refine z_iload1 gi_68_6 ?_
          refine z_putI (y := 2) gi_68_7 rfl gk_46 ?_
          refine z_aload0 gi_68_10 ?_
          refine z_iload2 gi_68_11 ?_
          refine z_putI (y := 3) gi_68_12 rfl gk_46 ?_
          refine z_pushJ gp_68_15 ?_
          refine z_istore (ls1 := [some (.ref 46), some (zi w), some (zi n), some (zi 0)]) gi_68_16 rfl ?_
          show zW _ _ _ _ [some (.ref 46), some (zi w), some (zi n), some (zi 0)] [] _ _ _ _
          refine rowC_k (a := 47) rfl rfl (hR _ rm_46_4) ?_
          refine z_vret gi_68_36 gr_68 ?_
          show zW _ _ _ _ _ _ _ _ _ _
          refine z_pushJ gp_137_40 ?_
          refine z_iret gi_137_41 gr_137 ?_
          refine ⟨_, rfl, ?_⟩
          show zW _ _ _ _ [some (.ref 50), some (zi 4), some (zi w), some (zi n), none] _ _ _ _ _
          refine z_iload1 gi_250_0 ?_
          refine z_cS1 gi_250_1 (Nat.le_of_ble_eq_true rfl) gc_248_I ?_
          refine z_iload0 gi_248_0 ?_
          refine z_pushJ gp_248_1 ?_
          refine z_pushJ gp_248_2 ?_
          refine z_cS3 gi_248_3 (Nat.le_of_ble_eq_true rfl) gc_148_III ?_
          refine z_iload0 gi_148_0 ?_
          refine z_iload1 gi_148_1 ?_
          refine z_icmp_ltF gi_148_2 zr_4 zr_0 (by decide) ?_
          refine z_iload0 gi_148_5 ?_
          refine z_iload2 gi_148_6 ?_
          refine z_icmp_gtF gi_148_7 zr_4 zr_5 (by decide) ?_
          refine z_pushJ gp_148_10 ?_
          refine z_goto gi_148_11 ?_
          refine z_bret1 gi_148_15 gr_148 ?_
          show zW _ _ _ _ _ _ _ _ _ _
          refine z_bret1 gi_248_6 gr_248 ?_
          show zW _ _ _ _ _ _ _ _ _ _
          refine z_if_eqF gi_250_4 zr_1 (by decide) ?_
          refine z_iload2 gi_250_7 ?_
          refine z_pushJ gp_250_8 ?_
          refine z_pushJ gp_250_9 ?_
          refine z_cS3 gi_250_10 (Nat.le_of_ble_eq_true rfl) gc_148_III ?_
          refine z_iload0 gi_148_0 ?_
          refine z_iload1 gi_148_1 ?_
          refine z_icmp_ltF gi_148_2 (by omega) zr_0 (by omega) ?_
          refine z_iload0 gi_148_5 ?_
          refine z_iload2 gi_148_6 ?_
          refine z_icmp_gtF gi_148_7 (by omega) zr_4 (by omega) ?_
          refine z_pushJ gp_148_10 ?_
          refine z_goto gi_148_11 ?_
          refine z_bret1 gi_148_15 gr_148 ?_
          show zW _ _ _ _ _ _ _ _ _ _
          refine z_if_eqF gi_250_13 zr_1 (by decide) ?_
          refine z_iload3 gi_250_16 ?_
          refine z_pushJ gp_250_17 ?_
          refine z_icmp_leT gi_250_19 (by omega) zr_60 (by omega) ?_
          refine z_iload3 gi_250_24 ?_
          refine z_if_geT gi_250_25 (by omega) (by omega) ?_
          refine z_aload0 gi_250_31 ?_
          refine z_getR (r := 83) gi_250_32 gk_50 (hRr _ rm_50_58 (by decide)) ?_
          refine z_iload1 gi_250_35 ?_
          refine z_pushJ gp_250_36 ?_
          refine z_iload2 gi_250_38 ?_
          refine z_isub (e := (-2) - w) gi_250_39 rfl ?_
          refine z_iast (e := (-2) - w) gi_250_40 gk_83 (by decide) (by decide) rfl ?_
          refine z_aload0 gi_250_41 ?_
          refine z_getR (r := 84) gi_250_42 gk_50 (hRr _ rm_50_59 (by decide)) ?_
          refine z_iload1 gi_250_45 ?_
          refine z_iload3 gi_250_46 ?_
          refine z_iast (e := n) gi_250_47 gk_84 (by decide) (by decide) rfl ?_
          refine z_pushJ gp_250_48 ?_
          refine z_iload1 gi_250_50 ?_
          refine z_imul (e := 240) gi_250_51 rfl ?_
          refine z_istore (ls1 := [some (.ref 50), some (zi 4), some (zi w), some (zi n), some (zi 240)]) gi_250_52 rfl ?_
          show zW _ _ _ _ [some (.ref 50), some (zi 4), some (zi w), some (zi n), some (zi 240)] [] _ _ _ _
          refine rowR_k (s := 4) (lo := 240) hRr (by decide) (by decide) ?_
          refine z_pushJ gp_250_80 ?_
          refine z_iret gi_250_81 gr_250 ?_
          refine ⟨?_, ?_⟩
          · first | rfl | exact congrArg (fun v => some (zi v)) (by omega) | (exfalso; omega)
          · have hk := (zK_x (a := 84) (x := 4) (v := n) (zK_x (a := 83) (x := 4) (v := (-2) - w) (zK_x (a := 46) (x := 3) (v := n) (zK_x (a := 46) (x := 2) (v := w) (zK_x (a := 46) (x := 0) (v := 2) (zK_r (k := (kL [] [(46, 0), (46, 2), (46, 3), (83, 4), (84, 4)])) (A := J)) rfl) rfl) rfl) rfl) rfl)
            have hkm := (zK_S (c := 85) (f := (fun y => if 240 ≤ y then 0 else (zS M 47 (fun _ => 0) 60) 85 y)) (n := 300) (zK_S (c := 47) (f := (fun _ => 0)) (n := 60) (zK_r (k := (kL [47, 85] [])) (A := M)) (fun _ => rfl)) (fun _ => rfl))
            exact ⟨hR, hG, RelY_k hk (by repeat' constructor) (fun p => by repeat' constructor) hY, RelD_k hk (by repeat' constructor) (fun p => by repeat' constructor) hD, RelP_k hk (by repeat' constructor) (fun p => by repeat' constructor) hP, RelC_k hk (by repeat' constructor) (fun p => by repeat' constructor) hC, RelA_k hk (by repeat' constructor) (fun p => by repeat' constructor) hAc, (RelS_one (J := J) (M := M) (c := 4) (fun t t1 t2 te => by have q : t = 0 ∨ t = 1 ∨ t = 2 ∨ t = 3 ∨ t = 4 ∨ t = 5 := (by omega); rcases q with rfl | rfl | rfl | rfl | rfl | rfl <;> first | exact absurd rfl te | exact ⟨fun j => rfl, rfl, rfl⟩) (fun t t1 t2 te => ⟨fun j => (by have q : t = 0 ∨ t = 1 ∨ t = 2 ∨ t = 3 ∨ t = 4 ∨ t = 5 := (by omega); rcases q with rfl | rfl | rfl | rfl | rfl | rfl <;> first | exact absurd rfl te | rfl), fun j j1 j2 => (zS_lo_o (J := (zS M 47 (fun _ => 0) 60)) (by omega)).trans (zS_n (by decide))⟩) rfl (show RelS1 _ _ _ from ⟨rfl, (show (0 : Int) ≤ 2 ∧ (2 : Int) ≤ 2 from by decide), (show 0 ≤ w ∧ w ≤ 4 from by omega), (show 0 ≤ n ∧ n ≤ 60 from by omega), fun h => absurd (show (2 : Int) = 1 from h) (by decide), fun _ => ⟨rfl, fun k k1 k2 => (show (zS (zS M 47 (fun _ => 0) 60) 85 (fun y => if 240 ≤ y then 0 else (zS M 47 (fun _ => 0) 60) 85 y) 300) 47 k = (zS (zS M 47 (fun _ => 0) 60) 85 (fun y => if 240 ≤ y then 0 else (zS M 47 (fun _ => 0) 60) 85 y) 300) 85 (240 + k) from by have k3 : k < n := k2; rw [zS_n (by decide), zS_at (by omega), zS_lo_i (J := (zS M 47 (fun _ => 0) 60)) (by decide) (by omega)]), fun _ k k1 k2 => (show -128 ≤ (zS (zS M 47 (fun _ => 0) 60) 85 (fun y => if 240 ≤ y then 0 else (zS M 47 (fun _ => 0) 60) 85 y) 300) 47 k ∧ (zS (zS M 47 (fun _ => 0) 60) 85 (fun y => if 240 ≤ y then 0 else (zS M 47 (fun _ => 0) 60) 85 y) 300) 47 k ≤ 127 from by have k3 : k < n := k2; rw [zS_n (by decide), zS_at (by omega)]; decide)⟩⟩) hS), RelT_k hk (by repeat' constructor) (fun p => by repeat' constructor) hTp, RelX_k hk (by repeat' constructor) (fun p => by repeat' constructor) hX, RelW_k hk ⟨rfl, rfl⟩ trivial hW⟩
        · refine z_pushJ gp_137_26 ?_
          refine z_iret gi_137_28 gr_137 ?_
          refine ⟨_, rfl, ?_⟩
          show zW _ _ _ _ [some (.ref 50), some (zi 4), some (zi w), some (zi n), none] _ _ _ _ _
          refine z_iload1 gi_250_0 ?_
          refine z_cS1 gi_250_1 (Nat.le_of_ble_eq_true rfl) gc_248_I ?_
          refine z_iload0 gi_248_0 ?_
          refine z_pushJ gp_248_1 ?_
          refine z_pushJ gp_248_2 ?_
          refine z_cS3 gi_248_3 (Nat.le_of_ble_eq_true rfl) gc_148_III ?_
          refine z_iload0 gi_148_0 ?_
          refine z_iload1 gi_148_1 ?_
          refine z_icmp_ltF gi_148_2 zr_4 zr_0 (by decide) ?_
          refine z_iload0 gi_148_5 ?_
          refine z_iload2 gi_148_6 ?_
          refine z_icmp_gtF gi_148_7 zr_4 zr_5 (by decide) ?_
          refine z_pushJ gp_148_10 ?_
          refine z_goto gi_148_11 ?_
          refine z_bret1 gi_148_15 gr_148 ?_
          show zW _ _ _ _ _ _ _ _ _ _
          refine z_bret1 gi_248_6 gr_248 ?_
          show zW _ _ _ _ _ _ _ _ _ _
          refine z_if_eqF gi_250_4 zr_1 (by decide) ?_
          refine z_iload2 gi_250_7 ?_
          refine z_pushJ gp_250_8 ?_
          refine z_pushJ gp_250_9 ?_
          refine z_cS3 gi_250_10 (Nat.le_of_ble_eq_true rfl) gc_148_III ?_
          refine z_iload0 gi_148_0 ?_
          refine z_iload1 gi_148_1 ?_
          refine z_icmp_ltF gi_148_2 (by omega) zr_0 (by omega) ?_
          refine z_iload0 gi_148_5 ?_
          refine z_iload2 gi_148_6 ?_
          refine z_icmp_gtF gi_148_7 (by omega) zr_4 (by omega) ?_
          refine z_pushJ gp_148_10 ?_
          refine z_goto gi_148_11 ?_
          refine z_bret1 gi_148_15 gr_148 ?_
          show zW _ _ _ _ _ _ _ _ _ _
          refine z_if_eqF gi_250_13 zr_1 (by decide) ?_
          refine z_iload3 gi_250_16 ?_
          refine z_pushJ gp_250_17 ?_
          refine z_icmp_leT gi_250_19 (by omega) zr_60 (by omega) ?_
          refine z_iload3 gi_250_24 ?_
          refine z_if_geF gi_250_25 (by omega) (by omega) ?_
          refine z_pushJ gp_250_28 ?_
          refine z_iret gi_250_30 gr_250 ?_
          refine ⟨?_, ?_⟩
          · first | rfl | exact congrArg (fun v => some (zi v)) (by omega) | (exfalso; omega)
          · exact hr
      · refine z_pushJ gp_137_20 ?_
        refine z_iret gi_137_21 gr_137 ?_
        refine ⟨_, rfl, ?_⟩
        show zW _ _ _ _ [some (.ref 50), some (zi 4), some (zi w), some (zi n), none] _ _ _ _ _
        refine z_iload1 gi_250_0 ?_
        refine z_cS1 gi_250_1 (Nat.le_of_ble_eq_true rfl) gc_248_I ?_
        refine z_iload0 gi_248_0 ?_
        refine z_pushJ gp_248_1 ?_
        refine z_pushJ gp_248_2 ?_
        refine z_cS3 gi_248_3 (Nat.le_of_ble_eq_true rfl) gc_148_III ?_
        refine z_iload0 gi_148_0 ?_
        refine z_iload1 gi_148_1 ?_
        refine z_icmp_ltF gi_148_2 zr_4 zr_0 (by decide) ?_
        refine z_iload0 gi_148_5 ?_
        refine z_iload2 gi_148_6 ?_
        refine z_icmp_gtF gi_148_7 zr_4 zr_5 (by decide) ?_
        refine z_pushJ gp_148_10 ?_
        refine z_goto gi_148_11 ?_
        refine z_bret1 gi_148_15 gr_148 ?_
        show zW _ _ _ _ _ _ _ _ _ _
        refine z_bret1 gi_248_6 gr_248 ?_
        show zW _ _ _ _ _ _ _ _ _ _
        refine z_if_eqF gi_250_4 zr_1 (by decide) ?_
        refine z_iload2 gi_250_7 ?_
        refine z_pushJ gp_250_8 ?_
        refine z_pushJ gp_250_9 ?_
        refine z_cS3 gi_250_10 (Nat.le_of_ble_eq_true rfl) gc_148_III ?_
        refine z_iload0 gi_148_0 ?_
        refine z_iload1 gi_148_1 ?_
        refine z_icmp_ltF gi_148_2 (by omega) zr_0 (by omega) ?_
        refine z_iload0 gi_148_5 ?_
        refine z_iload2 gi_148_6 ?_
        refine z_icmp_gtF gi_148_7 (by omega) zr_4 (by omega) ?_
        refine z_pushJ gp_148_10 ?_
        refine z_goto gi_148_11 ?_
        refine z_bret1 gi_148_15 gr_148 ?_
        show zW _ _ _ _ _ _ _ _ _ _
        refine z_if_eqF gi_250_13 zr_1 (by decide) ?_
        refine z_iload3 gi_250_16 ?_
        refine z_pushJ gp_250_17 ?_
        refine z_icmp_leF gi_250_19 (by omega) zr_60 (by omega) ?_
        refine z_pushJ gp_250_22 ?_
        refine z_iret gi_250_23 gr_250 ?_
        refine ⟨?_, ?_⟩
        · first | rfl | exact congrArg (fun v => some (zi v)) (by omega) | (exfalso; omega)
        · exact hr
theorem st_row_5 {X : Nat × (Nat → Int32)} {d : Nat} {J M : zA} {R : zR} {w n : Int} (hr : Rel X J M R) (hw : -2147483648 ≤ w ∧ w < 2147483648) (hn : -2147483648 ≤ n ∧ n < 2147483648)  : zW X (d + 20) 137 0 (gEn 137 [(.ref 0), (zi 5), (zi w), (zi n)]) [] J M R (stP X (d + 20) 250 [(zi 5), (zi w), (zi n)]) := by
  have hr0 := hr
  obtain ⟨hR, hG, hY, hD, hP, hC, hAc, hS, hTp, hX, hW⟩ := hr0
  have hRr : zRoR R := zRoR_of hR
  show zW _ _ _ _ [some (.ref 0), some (zi 5), some (zi w), some (zi n)] _ _ _ _ _
  refine z_iload1 gi_137_0 ?_
  refine z_cS1 gi_137_1 (Nat.le_of_ble_eq_true rfl) gc_143_I ?_
  refine z_iload0 gi_143_0 ?_
  refine z_if_ltF gi_143_1 zr_5 (by decide) ?_
  refine z_iload0 gi_143_4 ?_
  refine z_pushJ gp_143_5 ?_
  refine z_icmp_geF gi_143_7 zr_5 zr_6 (by decide) ?_
  refine z_pushJ gp_143_10 ?_
  refine z_goto gi_143_11 ?_
  refine z_bret1 gi_143_15 gr_143 ?_
  show zW _ _ _ _ _ _ _ _ _ _
  refine z_if_eqF gi_137_4 zr_1 (by decide) ?_
  refine z_iload2 gi_137_7 ?_
  refine z_cS1 gi_137_8 (Nat.le_of_ble_eq_true rfl) gc_61_I ?_
  refine z_iload0 gi_61_0 ?_
  refine z_if_lt gi_61_1 (by omega) (fun h1 => ?_) (fun h1 => ?_)
  · refine z_pushJ gp_61_13 ?_
    refine z_bret0 gi_61_14 gr_61 ?_
    show zW _ _ _ _ _ _ _ _ _ _
    refine z_if_eqT gi_137_11 zr_0 (by decide) ?_
    refine z_pushJ gp_137_20 ?_
    refine z_iret gi_137_21 gr_137 ?_
    refine ⟨_, rfl, ?_⟩
    show zW _ _ _ _ [some (.ref 50), some (zi 5), some (zi w), some (zi n), none] _ _ _ _ _
    refine z_iload1 gi_250_0 ?_
    refine z_cS1 gi_250_1 (Nat.le_of_ble_eq_true rfl) gc_248_I ?_
    refine z_iload0 gi_248_0 ?_
    refine z_pushJ gp_248_1 ?_
    refine z_pushJ gp_248_2 ?_
    refine z_cS3 gi_248_3 (Nat.le_of_ble_eq_true rfl) gc_148_III ?_
    refine z_iload0 gi_148_0 ?_
    refine z_iload1 gi_148_1 ?_
    refine z_icmp_ltF gi_148_2 zr_5 zr_0 (by decide) ?_
    refine z_iload0 gi_148_5 ?_
    refine z_iload2 gi_148_6 ?_
    refine z_icmp_gtF gi_148_7 zr_5 zr_5 (by decide) ?_
    refine z_pushJ gp_148_10 ?_
    refine z_goto gi_148_11 ?_
    refine z_bret1 gi_148_15 gr_148 ?_
    show zW _ _ _ _ _ _ _ _ _ _
    refine z_bret1 gi_248_6 gr_248 ?_
    show zW _ _ _ _ _ _ _ _ _ _
    refine z_if_eqF gi_250_4 zr_1 (by decide) ?_
    refine z_iload2 gi_250_7 ?_
    refine z_pushJ gp_250_8 ?_
    refine z_pushJ gp_250_9 ?_
    refine z_cS3 gi_250_10 (Nat.le_of_ble_eq_true rfl) gc_148_III ?_
    refine z_iload0 gi_148_0 ?_
    refine z_iload1 gi_148_1 ?_
    refine z_icmp_ltT gi_148_2 (by omega) zr_0 (by omega) ?_
    refine z_pushJ gp_148_14 ?_
    refine z_bret0 gi_148_15 gr_148 ?_
    show zW _ _ _ _ _ _ _ _ _ _
    refine z_if_eqT gi_250_13 zr_0 (by decide) ?_
    refine z_pushJ gp_250_22 ?_
    refine z_iret gi_250_23 gr_250 ?_
    refine ⟨?_, ?_⟩
    · first | rfl | exact congrArg (fun v => some (zi v)) (by omega) | (exfalso; omega)
    · exact hr
  · refine z_iload0 gi_61_4 ?_
    refine z_pushJ gp_61_5 ?_
    refine z_icmp_gt gi_61_6 (by omega) zr_4 (fun h2 => ?_) (fun h2 => ?_)
    · refine z_pushJ gp_61_13 ?_
      refine z_bret0 gi_61_14 gr_61 ?_
      show zW _ _ _ _ _ _ _ _ _ _
      refine z_if_eqT gi_137_11 zr_0 (by decide) ?_
      refine z_pushJ gp_137_20 ?_
      refine z_iret gi_137_21 gr_137 ?_
      refine ⟨_, rfl, ?_⟩
      show zW _ _ _ _ [some (.ref 50), some (zi 5), some (zi w), some (zi n), none] _ _ _ _ _
      refine z_iload1 gi_250_0 ?_
      refine z_cS1 gi_250_1 (Nat.le_of_ble_eq_true rfl) gc_248_I ?_
      refine z_iload0 gi_248_0 ?_
      refine z_pushJ gp_248_1 ?_
      refine z_pushJ gp_248_2 ?_
      refine z_cS3 gi_248_3 (Nat.le_of_ble_eq_true rfl) gc_148_III ?_
      refine z_iload0 gi_148_0 ?_
      refine z_iload1 gi_148_1 ?_
      refine z_icmp_ltF gi_148_2 zr_5 zr_0 (by decide) ?_
      refine z_iload0 gi_148_5 ?_
      refine z_iload2 gi_148_6 ?_
      refine z_icmp_gtF gi_148_7 zr_5 zr_5 (by decide) ?_
      refine z_pushJ gp_148_10 ?_
      refine z_goto gi_148_11 ?_
      refine z_bret1 gi_148_15 gr_148 ?_
      show zW _ _ _ _ _ _ _ _ _ _
      refine z_bret1 gi_248_6 gr_248 ?_
      show zW _ _ _ _ _ _ _ _ _ _
      refine z_if_eqF gi_250_4 zr_1 (by decide) ?_
      refine z_iload2 gi_250_7 ?_
      refine z_pushJ gp_250_8 ?_
      refine z_pushJ gp_250_9 ?_
      refine z_cS3 gi_250_10 (Nat.le_of_ble_eq_true rfl) gc_148_III ?_
      refine z_iload0 gi_148_0 ?_
      refine z_iload1 gi_148_1 ?_
      refine z_icmp_ltF gi_148_2 (by omega) zr_0 (by omega) ?_
      refine z_iload0 gi_148_5 ?_
      refine z_iload2 gi_148_6 ?_
      refine z_icmp_gtT gi_148_7 (by omega) zr_4 (by omega) ?_
      refine z_pushJ gp_148_14 ?_
      refine z_bret0 gi_148_15 gr_148 ?_
      show zW _ _ _ _ _ _ _ _ _ _
      refine z_if_eqT gi_250_13 zr_0 (by decide) ?_
      refine z_pushJ gp_250_22 ?_
      refine z_iret gi_250_23 gr_250 ?_
      refine ⟨?_, ?_⟩
      · first | rfl | exact congrArg (fun v => some (zi v)) (by omega) | (exfalso; omega)
      · exact hr
    · refine z_pushJ gp_61_9 ?_
      refine z_goto gi_61_10 ?_
      refine z_bret1 gi_61_14 gr_61 ?_
      show zW _ _ _ _ _ _ _ _ _ _
      refine z_if_eqF gi_137_11 zr_1 (by decide) ?_
      refine z_iload3 gi_137_14 ?_
      refine z_pushJ gp_137_15 ?_
      refine z_icmp_le gi_137_17 (by omega) zr_60 (fun h3 => ?_) (fun h3 => ?_)
      · refine z_iload3 gi_137_22 ?_
        refine z_if_ge gi_137_23 (by omega) (fun h4 => ?_) (fun h4 => ?_)
        · refine z_aload0 gi_137_29 ?_
          refine z_getR (r := 37) gi_137_30 gk_0 (hR _ rm_0_11) ?_
          refine z_iload1 gi_137_33 ?_
          refine z_aald (r := 48) gi_137_34 rfl (by decide) (by decide) (hR _ rm_37_5) ?_
          refine z_iload2 gi_137_35 ?_
          refine z_iload3 gi_137_36 ?_
          refine z_callVi (As := [_, _]) (le := [some _, some _, some _, none]) gi_137_37 rfl gk_48 (Nat.le_of_ble_eq_true rfl) (Nat.le_of_ble_eq_true rfl) rfl ?_
          refine z_aload0 gi_68_0 ?_
          refine z_pushJ gp_68_1 ?_
          refine z_putI (y := 0) gi_68_2 rfl gk_48 ?_
          refine z_aload0 gi_68_5 ?_
          refine z_iload1 gi_68_6 ?_
          refine z_putI (y := 2) gi_68_7 rfl gk_48 ?_
          refine z_aload0 gi_68_10 ?_
          refine z_iload2 gi_68_11 ?_
          refine z_putI (y := 3) gi_68_12 rfl gk_48 ?_
          refine z_pushJ gp_68_15 ?_
          refine z_istore (ls1 := [some (.ref 48), some (zi w), some (zi n), some (zi 0)]) gi_68_16 rfl ?_
          show zW _ _ _ _ [some (.ref 48), some (zi w), some (zi n), some (zi 0)] [] _ _ _ _
          refine rowC_k (a := 49) rfl rfl (hR _ rm_48_4) ?_
          refine z_vret gi_68_36 gr_68 ?_
          show zW _ _ _ _ _ _ _ _ _ _
          refine z_pushJ gp_137_40 ?_
          refine z_iret gi_137_41 gr_137 ?_
          refine ⟨_, rfl, ?_⟩
          show zW _ _ _ _ [some (.ref 50), some (zi 5), some (zi w), some (zi n), none] _ _ _ _ _
          refine z_iload1 gi_250_0 ?_
          refine z_cS1 gi_250_1 (Nat.le_of_ble_eq_true rfl) gc_248_I ?_
          refine z_iload0 gi_248_0 ?_
          refine z_pushJ gp_248_1 ?_
          refine z_pushJ gp_248_2 ?_
          refine z_cS3 gi_248_3 (Nat.le_of_ble_eq_true rfl) gc_148_III ?_
          refine z_iload0 gi_148_0 ?_
          refine z_iload1 gi_148_1 ?_
          refine z_icmp_ltF gi_148_2 zr_5 zr_0 (by decide) ?_
          refine z_iload0 gi_148_5 ?_
          refine z_iload2 gi_148_6 ?_
          refine z_icmp_gtF gi_148_7 zr_5 zr_5 (by decide) ?_
          refine z_pushJ gp_148_10 ?_
          refine z_goto gi_148_11 ?_
          refine z_bret1 gi_148_15 gr_148 ?_
          show zW _ _ _ _ _ _ _ _ _ _
          refine z_bret1 gi_248_6 gr_248 ?_
          show zW _ _ _ _ _ _ _ _ _ _
          refine z_if_eqF gi_250_4 zr_1 (by decide) ?_
          refine z_iload2 gi_250_7 ?_
          refine z_pushJ gp_250_8 ?_
          refine z_pushJ gp_250_9 ?_
          refine z_cS3 gi_250_10 (Nat.le_of_ble_eq_true rfl) gc_148_III ?_
          refine z_iload0 gi_148_0 ?_
          refine z_iload1 gi_148_1 ?_
          refine z_icmp_ltF gi_148_2 (by omega) zr_0 (by omega) ?_
          refine z_iload0 gi_148_5 ?_
          refine z_iload2 gi_148_6 ?_
          refine z_icmp_gtF gi_148_7 (by omega) zr_4 (by omega) ?_
          refine z_pushJ gp_148_10 ?_
          refine z_goto gi_148_11 ?_
          refine z_bret1 gi_148_15 gr_148 ?_
          show zW _ _ _ _ _ _ _ _ _ _
          refine z_if_eqF gi_250_13 zr_1 (by decide) ?_
          refine z_iload3 gi_250_16 ?_
          refine z_pushJ gp_250_17 ?_
          refine z_icmp_leT gi_250_19 (by omega) zr_60 (by omega) ?_
          refine z_iload3 gi_250_24 ?_
          refine z_if_geT gi_250_25 (by omega) (by omega) ?_
          refine z_aload0 gi_250_31 ?_
          refine z_getR (r := 83) gi_250_32 gk_50 (hRr _ rm_50_58 (by decide)) ?_
          refine z_iload1 gi_250_35 ?_
          refine z_pushJ gp_250_36 ?_
          refine z_iload2 gi_250_38 ?_
          refine z_isub (e := (-2) - w) gi_250_39 rfl ?_
          refine z_iast (e := (-2) - w) gi_250_40 gk_83 (by decide) (by decide) rfl ?_
          refine z_aload0 gi_250_41 ?_
          refine z_getR (r := 84) gi_250_42 gk_50 (hRr _ rm_50_59 (by decide)) ?_
          refine z_iload1 gi_250_45 ?_
          refine z_iload3 gi_250_46 ?_
          refine z_iast (e := n) gi_250_47 gk_84 (by decide) (by decide) rfl ?_
          refine z_pushJ gp_250_48 ?_
          refine z_iload1 gi_250_50 ?_
          refine z_imul (e := 300) gi_250_51 rfl ?_
          refine z_istore (ls1 := [some (.ref 50), some (zi 5), some (zi w), some (zi n), some (zi 300)]) gi_250_52 rfl ?_
          show zW _ _ _ _ [some (.ref 50), some (zi 5), some (zi w), some (zi n), some (zi 300)] [] _ _ _ _
          refine rowR_k (s := 5) (lo := 300) hRr (by decide) (by decide) ?_
          refine z_pushJ gp_250_80 ?_
          refine z_iret gi_250_81 gr_250 ?_
          refine ⟨?_, ?_⟩
          · first | rfl | exact congrArg (fun v => some (zi v)) (by omega) | (exfalso; omega)
          · have hk := (zK_x (a := 84) (x := 5) (v := n) (zK_x (a := 83) (x := 5) (v := (-2) - w) (zK_x (a := 48) (x := 3) (v := n) (zK_x (a := 48) (x := 2) (v := w) (zK_x (a := 48) (x := 0) (v := 2) (zK_r (k := (kL [] [(48, 0), (48, 2), (48, 3), (83, 5), (84, 5)])) (A := J)) rfl) rfl) rfl) rfl) rfl)
            have hkm := (zK_S (c := 85) (f := (fun y => if 300 ≤ y then 0 else (zS M 49 (fun _ => 0) 60) 85 y)) (n := 360) (zK_S (c := 49) (f := (fun _ => 0)) (n := 60) (zK_r (k := (kL [49, 85] [])) (A := M)) (fun _ => rfl)) (fun _ => rfl))
            exact ⟨hR, hG, RelY_k hk (by repeat' constructor) (fun p => by repeat' constructor) hY, RelD_k hk (by repeat' constructor) (fun p => by repeat' constructor) hD, RelP_k hk (by repeat' constructor) (fun p => by repeat' constructor) hP, RelC_k hk (by repeat' constructor) (fun p => by repeat' constructor) hC, RelA_k hk (by repeat' constructor) (fun p => by repeat' constructor) hAc, (RelS_one (J := J) (M := M) (c := 5) (fun t t1 t2 te => by have q : t = 0 ∨ t = 1 ∨ t = 2 ∨ t = 3 ∨ t = 4 ∨ t = 5 := (by omega); rcases q with rfl | rfl | rfl | rfl | rfl | rfl <;> first | exact absurd rfl te | exact ⟨fun j => rfl, rfl, rfl⟩) (fun t t1 t2 te => ⟨fun j => (by have q : t = 0 ∨ t = 1 ∨ t = 2 ∨ t = 3 ∨ t = 4 ∨ t = 5 := (by omega); rcases q with rfl | rfl | rfl | rfl | rfl | rfl <;> first | exact absurd rfl te | rfl), fun j j1 j2 => (zS_lo_o (J := (zS M 49 (fun _ => 0) 60)) (by omega)).trans (zS_n (by decide))⟩) rfl (show RelS1 _ _ _ from ⟨rfl, (show (0 : Int) ≤ 2 ∧ (2 : Int) ≤ 2 from by decide), (show 0 ≤ w ∧ w ≤ 4 from by omega), (show 0 ≤ n ∧ n ≤ 60 from by omega), fun h => absurd (show (2 : Int) = 1 from h) (by decide), fun _ => ⟨rfl, fun k k1 k2 => (show (zS (zS M 49 (fun _ => 0) 60) 85 (fun y => if 300 ≤ y then 0 else (zS M 49 (fun _ => 0) 60) 85 y) 360) 49 k = (zS (zS M 49 (fun _ => 0) 60) 85 (fun y => if 300 ≤ y then 0 else (zS M 49 (fun _ => 0) 60) 85 y) 360) 85 (300 + k) from by have k3 : k < n := k2; rw [zS_n (by decide), zS_at (by omega), zS_lo_i (J := (zS M 49 (fun _ => 0) 60)) (by decide) (by omega)]), fun _ k k1 k2 => (show -128 ≤ (zS (zS M 49 (fun _ => 0) 60) 85 (fun y => if 300 ≤ y then 0 else (zS M 49 (fun _ => 0) 60) 85 y) 360) 49 k ∧ (zS (zS M 49 (fun _ => 0) 60) 85 (fun y => if 300 ≤ y then 0 else (zS M 49 (fun _ => 0) 60) 85 y) 360) 49 k ≤ 127 from by have k3 : k < n := k2; rw [zS_n (by decide), zS_at (by omega)]; decide)⟩⟩) hS), RelT_k hk (by repeat' constructor) (fun p => by repeat' constructor) hTp, RelX_k hk (by repeat' constructor) (fun p => by repeat' constructor) hX, RelW_k hk ⟨rfl, rfl⟩ trivial hW⟩
        · refine z_pushJ gp_137_26 ?_
          refine z_iret gi_137_28 gr_137 ?_
          refine ⟨_, rfl, ?_⟩
          show zW _ _ _ _ [some (.ref 50), some (zi 5), some (zi w), some (zi n), none] _ _ _ _ _
          refine z_iload1 gi_250_0 ?_
          refine z_cS1 gi_250_1 (Nat.le_of_ble_eq_true rfl) gc_248_I ?_
          refine z_iload0 gi_248_0 ?_
          refine z_pushJ gp_248_1 ?_
          refine z_pushJ gp_248_2 ?_
          refine z_cS3 gi_248_3 (Nat.le_of_ble_eq_true rfl) gc_148_III ?_
          refine z_iload0 gi_148_0 ?_
          refine z_iload1 gi_148_1 ?_
          refine z_icmp_ltF gi_148_2 zr_5 zr_0 (by decide) ?_
          refine z_iload0 gi_148_5 ?_
          refine z_iload2 gi_148_6 ?_
          refine z_icmp_gtF gi_148_7 zr_5 zr_5 (by decide) ?_
          refine z_pushJ gp_148_10 ?_
          refine z_goto gi_148_11 ?_
          refine z_bret1 gi_148_15 gr_148 ?_
          show zW _ _ _ _ _ _ _ _ _ _
          refine z_bret1 gi_248_6 gr_248 ?_
          show zW _ _ _ _ _ _ _ _ _ _
          refine z_if_eqF gi_250_4 zr_1 (by decide) ?_
          refine z_iload2 gi_250_7 ?_
          refine z_pushJ gp_250_8 ?_
          refine z_pushJ gp_250_9 ?_
          refine z_cS3 gi_250_10 (Nat.le_of_ble_eq_true rfl) gc_148_III ?_
          refine z_iload0 gi_148_0 ?_
          refine z_iload1 gi_148_1 ?_
          refine z_icmp_ltF gi_148_2 (by omega) zr_0 (by omega) ?_
          refine z_iload0 gi_148_5 ?_
          refine z_iload2 gi_148_6 ?_
          refine z_icmp_gtF gi_148_7 (by omega) zr_4 (by omega) ?_
          refine z_pushJ gp_148_10 ?_
          refine z_goto gi_148_11 ?_
          refine z_bret1 gi_148_15 gr_148 ?_
          show zW _ _ _ _ _ _ _ _ _ _
          refine z_if_eqF gi_250_13 zr_1 (by decide) ?_
          refine z_iload3 gi_250_16 ?_
          refine z_pushJ gp_250_17 ?_
          refine z_icmp_leT gi_250_19 (by omega) zr_60 (by omega) ?_
          refine z_iload3 gi_250_24 ?_
          refine z_if_geF gi_250_25 (by omega) (by omega) ?_
          refine z_pushJ gp_250_28 ?_
          refine z_iret gi_250_30 gr_250 ?_
          refine ⟨?_, ?_⟩
          · first | rfl | exact congrArg (fun v => some (zi v)) (by omega) | (exfalso; omega)
          · exact hr
      · refine z_pushJ gp_137_20 ?_
        refine z_iret gi_137_21 gr_137 ?_
        refine ⟨_, rfl, ?_⟩
        show zW _ _ _ _ [some (.ref 50), some (zi 5), some (zi w), some (zi n), none] _ _ _ _ _
        refine z_iload1 gi_250_0 ?_
        refine z_cS1 gi_250_1 (Nat.le_of_ble_eq_true rfl) gc_248_I ?_
        refine z_iload0 gi_248_0 ?_
        refine z_pushJ gp_248_1 ?_
        refine z_pushJ gp_248_2 ?_
        refine z_cS3 gi_248_3 (Nat.le_of_ble_eq_true rfl) gc_148_III ?_
        refine z_iload0 gi_148_0 ?_
        refine z_iload1 gi_148_1 ?_
        refine z_icmp_ltF gi_148_2 zr_5 zr_0 (by decide) ?_
        refine z_iload0 gi_148_5 ?_
        refine z_iload2 gi_148_6 ?_
        refine z_icmp_gtF gi_148_7 zr_5 zr_5 (by decide) ?_
        refine z_pushJ gp_148_10 ?_
        refine z_goto gi_148_11 ?_
        refine z_bret1 gi_148_15 gr_148 ?_
        show zW _ _ _ _ _ _ _ _ _ _
        refine z_bret1 gi_248_6 gr_248 ?_
        show zW _ _ _ _ _ _ _ _ _ _
        refine z_if_eqF gi_250_4 zr_1 (by decide) ?_
        refine z_iload2 gi_250_7 ?_
        refine z_pushJ gp_250_8 ?_
        refine z_pushJ gp_250_9 ?_
        refine z_cS3 gi_250_10 (Nat.le_of_ble_eq_true rfl) gc_148_III ?_
        refine z_iload0 gi_148_0 ?_
        refine z_iload1 gi_148_1 ?_
        refine z_icmp_ltF gi_148_2 (by omega) zr_0 (by omega) ?_
        refine z_iload0 gi_148_5 ?_
        refine z_iload2 gi_148_6 ?_
        refine z_icmp_gtF gi_148_7 (by omega) zr_4 (by omega) ?_
        refine z_pushJ gp_148_10 ?_
        refine z_goto gi_148_11 ?_
        refine z_bret1 gi_148_15 gr_148 ?_
        show zW _ _ _ _ _ _ _ _ _ _
        refine z_if_eqF gi_250_13 zr_1 (by decide) ?_
        refine z_iload3 gi_250_16 ?_
        refine z_pushJ gp_250_17 ?_
        refine z_icmp_leF gi_250_19 (by omega) zr_60 (by omega) ?_
        refine z_pushJ gp_250_22 ?_
        refine z_iret gi_250_23 gr_250 ?_
        refine ⟨?_, ?_⟩
        · first | rfl | exact congrArg (fun v => some (zi v)) (by omega) | (exfalso; omega)
        · exact hr
theorem st_row_n {X : Nat × (Nat → Int32)} {d : Nat} {J M : zA} {R : zR} {s w n : Int} (hr : Rel X J M R) (hs : -2147483648 ≤ s ∧ s < 2147483648) (hw : -2147483648 ≤ w ∧ w < 2147483648) (hn : -2147483648 ≤ n ∧ n < 2147483648) (hs6 : ¬ (0 ≤ s ∧ s < 6)) : zW X (d + 20) 137 0 (gEn 137 [(.ref 0), (zi s), (zi w), (zi n)]) [] J M R (stP X (d + 20) 250 [(zi s), (zi w), (zi n)]) := by
  have hr0 := hr
  obtain ⟨hR, hG, hY, hD, hP, hC, hAc, hS, hTp, hX, hW⟩ := hr0
  have hRr : zRoR R := zRoR_of hR
  show zW _ _ _ _ [some (.ref 0), some (zi s), some (zi w), some (zi n)] _ _ _ _ _
  refine z_iload1 gi_137_0 ?_
  refine z_cS1 gi_137_1 (Nat.le_of_ble_eq_true rfl) gc_143_I ?_
  refine z_iload0 gi_143_0 ?_
  refine z_if_lt gi_143_1 (by omega) (fun h1 => ?_) (fun h1 => ?_)
  · refine z_pushJ gp_143_14 ?_
    refine z_bret0 gi_143_15 gr_143 ?_
    show zW _ _ _ _ _ _ _ _ _ _
    refine z_if_eqT gi_137_4 zr_0 (by decide) ?_
    refine z_pushJ gp_137_20 ?_
    refine z_iret gi_137_21 gr_137 ?_
    refine ⟨_, rfl, ?_⟩
    show zW _ _ _ _ [some (.ref 50), some (zi s), some (zi w), some (zi n), none] _ _ _ _ _
    refine z_iload1 gi_250_0 ?_
    refine z_cS1 gi_250_1 (Nat.le_of_ble_eq_true rfl) gc_248_I ?_
    refine z_iload0 gi_248_0 ?_
    refine z_pushJ gp_248_1 ?_
    refine z_pushJ gp_248_2 ?_
    refine z_cS3 gi_248_3 (Nat.le_of_ble_eq_true rfl) gc_148_III ?_
    refine z_iload0 gi_148_0 ?_
    refine z_iload1 gi_148_1 ?_
    refine z_icmp_ltT gi_148_2 (by omega) zr_0 (by omega) ?_
    refine z_pushJ gp_148_14 ?_
    refine z_bret0 gi_148_15 gr_148 ?_
    show zW _ _ _ _ _ _ _ _ _ _
    refine z_bret0 gi_248_6 gr_248 ?_
    show zW _ _ _ _ _ _ _ _ _ _
    refine z_if_eqT gi_250_4 zr_0 (by decide) ?_
    refine z_pushJ gp_250_22 ?_
    refine z_iret gi_250_23 gr_250 ?_
    refine ⟨?_, ?_⟩
    · first | rfl | exact congrArg (fun v => some (zi v)) (by omega) | (exfalso; omega)
    · exact hr
  · refine z_iload0 gi_143_4 ?_
    refine z_pushJ gp_143_5 ?_
    refine z_icmp_geT gi_143_7 (by omega) zr_6 (by omega) ?_
    refine z_pushJ gp_143_14 ?_
    refine z_bret0 gi_143_15 gr_143 ?_
    show zW _ _ _ _ _ _ _ _ _ _
    refine z_if_eqT gi_137_4 zr_0 (by decide) ?_
    refine z_pushJ gp_137_20 ?_
    refine z_iret gi_137_21 gr_137 ?_
    refine ⟨_, rfl, ?_⟩
    show zW _ _ _ _ [some (.ref 50), some (zi s), some (zi w), some (zi n), none] _ _ _ _ _
    refine z_iload1 gi_250_0 ?_
    refine z_cS1 gi_250_1 (Nat.le_of_ble_eq_true rfl) gc_248_I ?_
    refine z_iload0 gi_248_0 ?_
    refine z_pushJ gp_248_1 ?_
    refine z_pushJ gp_248_2 ?_
    refine z_cS3 gi_248_3 (Nat.le_of_ble_eq_true rfl) gc_148_III ?_
    refine z_iload0 gi_148_0 ?_
    refine z_iload1 gi_148_1 ?_
    refine z_icmp_ltF gi_148_2 (by omega) zr_0 (by omega) ?_
    refine z_iload0 gi_148_5 ?_
    refine z_iload2 gi_148_6 ?_
    refine z_icmp_gtT gi_148_7 (by omega) zr_5 (by omega) ?_
    refine z_pushJ gp_148_14 ?_
    refine z_bret0 gi_148_15 gr_148 ?_
    show zW _ _ _ _ _ _ _ _ _ _
    refine z_bret0 gi_248_6 gr_248 ?_
    show zW _ _ _ _ _ _ _ _ _ _
    refine z_if_eqT gi_250_4 zr_0 (by decide) ?_
    refine z_pushJ gp_250_22 ?_
    refine z_iret gi_250_23 gr_250 ?_
    refine ⟨?_, ?_⟩
    · first | rfl | exact congrArg (fun v => some (zi v)) (by omega) | (exfalso; omega)
    · exact hr
theorem st_row {X : Nat × (Nat → Int32)} {d : Nat} {J M : zA} {R : zR} {s w n : Int} (hr : Rel X J M R) (hs : -2147483648 ≤ s ∧ s < 2147483648) (hw : -2147483648 ≤ w ∧ w < 2147483648) (hn : -2147483648 ≤ n ∧ n < 2147483648) : zW X (d + 20) 137 0 (gEn 137 [(.ref 0), (zi s), (zi w), (zi n)]) [] J M R (stP X (d + 20) 250 [(zi s), (zi w), (zi n)]) := by
  by_cases hs6 : 0 ≤ s ∧ s < 6
  · have q : s = 0 ∨ s = 1 ∨ s = 2 ∨ s = 3 ∨ s = 4 ∨ s = 5 := by omega
    rcases q with rfl | rfl | rfl | rfl | rfl | rfl
    · exact st_row_0 hr hw hn
    · exact st_row_1 hr hw hn
    · exact st_row_2 hr hw hn
    · exact st_row_3 hr hw hn
    · exact st_row_4 hr hw hn
    · exact st_row_5 hr hw hn
  · exact st_row_n hr hs hw hn hs6
