def uC (c k : Int) : Prop := k = 0 ∨ c = k ∨ (k = 1 ∧ c = 4) ∨ (k = 2 ∧ (c = 3 ∨ c = 5)) ∨ (k = 3 ∧ c = 5) ∨ (k = 6 ∧ c = 7)
noncomputable def uu (c k : Int) : Int := if k = 0 ∨ c = k ∨ (k = 1 ∧ c = 4) ∨ (k = 2 ∧ (c = 3 ∨ c = 5)) ∨ (k = 3 ∧ c = 5) ∨ (k = 6 ∧ c = 7) then 1 else 0
theorem uu_r {c k : Int} : uu c k = 0 ∨ uu c k = 1 := by unfold uu; split; exact Or.inr rfl; exact Or.inl rfl
theorem underC_0 {X : Nat × (Nat → Int32)} {d : Nat} {J M : zA} {R : zR} {k : Int} (hk : 0 ≤ k ∧ k ≤ 7) : zW X (d + 2) 2 0 (gEn 2 [(zi 0), (zi k)]) [] J M R (zPu (uu 0 k) J M R) := by
  show zW _ _ _ _ [some (zi 0), some (zi k), none, none] _ _ _ _ _
  refine z_iload0 gi_2_0 ?_
  refine z_istore (ls1 := [some (zi 0), some (zi k), some (zi 0), none]) gi_2_1 rfl ?_
  refine z_pushJ gp_2_2 ?_
  refine z_istore (ls1 := [some (zi 0), some (zi k), some (zi 0), some (zi 0)]) gi_2_3 rfl ?_
  refine z_iload3 gi_2_4 ?_
  refine z_pushJ gp_2_5 ?_
  refine z_icmp_geF gi_2_7 zr_0 zr_8 (by decide) ?_
  refine z_iload2 gi_2_10 ?_
  refine z_cS1 gi_2_11 (Nat.le_of_ble_eq_true rfl) gc_1_I ?_
  refine z_iload0 gi_1_0 ?_
  refine z_if_ltF gi_1_1 zr_0 (by decide) ?_
  refine z_iload0 gi_1_4 ?_
  refine z_pushJ gp_1_5 ?_
  refine z_icmp_geF gi_1_7 zr_0 zr_8 (by decide) ?_
  refine z_pushJ gp_1_10 ?_
  refine z_goto gi_1_11 ?_
  refine z_bret1 gi_1_15 gr_1 ?_
  show zW _ _ _ _ _ _ _ _ _ _
  refine z_if_eqF gi_2_14 zr_1 (by decide) ?_
  refine z_iload2 gi_2_17 ?_
  refine z_iload1 gi_2_18 ?_
  refine z_icmp_ne gi_2_19 zr_0 (by omega) (fun h1 => ?_) (fun h1 => ?_)
  · refine z_getS gi_2_24 ?_
    refine z_iload2 gi_2_27 ?_
    refine z_sald (j := 4) (n := 8) (v := (-1)) gi_2_28 (by decide) rfl (by decide) (by decide) rfl ?_
    refine z_istore (ls1 := [some (zi 0), some (zi k), some (zi (-1)), some (zi 0)]) gi_2_29 rfl ?_
    refine z_iinc (c := 1) (e := 1) (ls1 := [some (zi 0), some (zi k), some (zi (-1)), some (zi 1)]) gi_2_30 rfl rfl rfl rfl ?_
    refine z_goto gi_2_33 ?_
    show zW _ _ _ _ [some (zi 0), some (zi k), some (zi (-1)), some (zi 1)] [] _ _ _ _
    refine z_iload3 gi_2_4 ?_
    refine z_pushJ gp_2_5 ?_
    refine z_icmp_geF gi_2_7 zr_1 zr_8 (by decide) ?_
    refine z_iload2 gi_2_10 ?_
    refine z_cS1 gi_2_11 (Nat.le_of_ble_eq_true rfl) gc_1_I ?_
    refine z_iload0 gi_1_0 ?_
    refine z_if_ltT gi_1_1 zrn_1 (by decide) ?_
    refine z_pushJ gp_1_14 ?_
    refine z_bret0 gi_1_15 gr_1 ?_
    show zW _ _ _ _ _ _ _ _ _ _
    refine z_if_eqT gi_2_14 zr_0 (by decide) ?_
    refine z_pushJ gp_2_36 ?_
    refine z_bret0 gi_2_37 gr_2 ?_
    exact ⟨congrArg (fun v => some (zi v)) (by unfold uu; rw [if_neg (by omega)]), rfl, rfl, rfl⟩
  · refine z_pushJ gp_2_22 ?_
    refine z_bret1 gi_2_23 gr_2 ?_
    exact ⟨congrArg (fun v => some (zi v)) (by unfold uu; rw [if_pos (by omega)]), rfl, rfl, rfl⟩
theorem underC_1 {X : Nat × (Nat → Int32)} {d : Nat} {J M : zA} {R : zR} {k : Int} (hk : 0 ≤ k ∧ k ≤ 7) : zW X (d + 2) 2 0 (gEn 2 [(zi 1), (zi k)]) [] J M R (zPu (uu 1 k) J M R) := by
  show zW _ _ _ _ [some (zi 1), some (zi k), none, none] _ _ _ _ _
  refine z_iload0 gi_2_0 ?_
  refine z_istore (ls1 := [some (zi 1), some (zi k), some (zi 1), none]) gi_2_1 rfl ?_
  refine z_pushJ gp_2_2 ?_
  refine z_istore (ls1 := [some (zi 1), some (zi k), some (zi 1), some (zi 0)]) gi_2_3 rfl ?_
  refine z_iload3 gi_2_4 ?_
  refine z_pushJ gp_2_5 ?_
  refine z_icmp_geF gi_2_7 zr_0 zr_8 (by decide) ?_
  refine z_iload2 gi_2_10 ?_
  refine z_cS1 gi_2_11 (Nat.le_of_ble_eq_true rfl) gc_1_I ?_
  refine z_iload0 gi_1_0 ?_
  refine z_if_ltF gi_1_1 zr_1 (by decide) ?_
  refine z_iload0 gi_1_4 ?_
  refine z_pushJ gp_1_5 ?_
  refine z_icmp_geF gi_1_7 zr_1 zr_8 (by decide) ?_
  refine z_pushJ gp_1_10 ?_
  refine z_goto gi_1_11 ?_
  refine z_bret1 gi_1_15 gr_1 ?_
  show zW _ _ _ _ _ _ _ _ _ _
  refine z_if_eqF gi_2_14 zr_1 (by decide) ?_
  refine z_iload2 gi_2_17 ?_
  refine z_iload1 gi_2_18 ?_
  refine z_icmp_ne gi_2_19 zr_1 (by omega) (fun h1 => ?_) (fun h1 => ?_)
  · refine z_getS gi_2_24 ?_
    refine z_iload2 gi_2_27 ?_
    refine z_sald (j := 4) (n := 8) (v := 0) gi_2_28 (by decide) rfl (by decide) (by decide) rfl ?_
    refine z_istore (ls1 := [some (zi 1), some (zi k), some (zi 0), some (zi 0)]) gi_2_29 rfl ?_
    refine z_iinc (c := 1) (e := 1) (ls1 := [some (zi 1), some (zi k), some (zi 0), some (zi 1)]) gi_2_30 rfl rfl rfl rfl ?_
    refine z_goto gi_2_33 ?_
    show zW _ _ _ _ [some (zi 1), some (zi k), some (zi 0), some (zi 1)] [] _ _ _ _
    refine z_iload3 gi_2_4 ?_
    refine z_pushJ gp_2_5 ?_
    refine z_icmp_geF gi_2_7 zr_1 zr_8 (by decide) ?_
    refine z_iload2 gi_2_10 ?_
    refine z_cS1 gi_2_11 (Nat.le_of_ble_eq_true rfl) gc_1_I ?_
    refine z_iload0 gi_1_0 ?_
    refine z_if_ltF gi_1_1 zr_0 (by decide) ?_
    refine z_iload0 gi_1_4 ?_
    refine z_pushJ gp_1_5 ?_
    refine z_icmp_geF gi_1_7 zr_0 zr_8 (by decide) ?_
    refine z_pushJ gp_1_10 ?_
    refine z_goto gi_1_11 ?_
    refine z_bret1 gi_1_15 gr_1 ?_
    show zW _ _ _ _ _ _ _ _ _ _
    refine z_if_eqF gi_2_14 zr_1 (by decide) ?_
    refine z_iload2 gi_2_17 ?_
    refine z_iload1 gi_2_18 ?_
    refine z_icmp_ne gi_2_19 zr_0 (by omega) (fun h2 => ?_) (fun h2 => ?_)
    · refine z_getS gi_2_24 ?_
      refine z_iload2 gi_2_27 ?_
      refine z_sald (j := 4) (n := 8) (v := (-1)) gi_2_28 (by decide) rfl (by decide) (by decide) rfl ?_
      refine z_istore (ls1 := [some (zi 1), some (zi k), some (zi (-1)), some (zi 1)]) gi_2_29 rfl ?_
      refine z_iinc (c := 1) (e := 2) (ls1 := [some (zi 1), some (zi k), some (zi (-1)), some (zi 2)]) gi_2_30 rfl rfl rfl rfl ?_
      refine z_goto gi_2_33 ?_
      show zW _ _ _ _ [some (zi 1), some (zi k), some (zi (-1)), some (zi 2)] [] _ _ _ _
      refine z_iload3 gi_2_4 ?_
      refine z_pushJ gp_2_5 ?_
      refine z_icmp_geF gi_2_7 zr_2 zr_8 (by decide) ?_
      refine z_iload2 gi_2_10 ?_
      refine z_cS1 gi_2_11 (Nat.le_of_ble_eq_true rfl) gc_1_I ?_
      refine z_iload0 gi_1_0 ?_
      refine z_if_ltT gi_1_1 zrn_1 (by decide) ?_
      refine z_pushJ gp_1_14 ?_
      refine z_bret0 gi_1_15 gr_1 ?_
      show zW _ _ _ _ _ _ _ _ _ _
      refine z_if_eqT gi_2_14 zr_0 (by decide) ?_
      refine z_pushJ gp_2_36 ?_
      refine z_bret0 gi_2_37 gr_2 ?_
      exact ⟨congrArg (fun v => some (zi v)) (by unfold uu; rw [if_neg (by omega)]), rfl, rfl, rfl⟩
    · refine z_pushJ gp_2_22 ?_
      refine z_bret1 gi_2_23 gr_2 ?_
      exact ⟨congrArg (fun v => some (zi v)) (by unfold uu; rw [if_pos (by omega)]), rfl, rfl, rfl⟩
  · refine z_pushJ gp_2_22 ?_
    refine z_bret1 gi_2_23 gr_2 ?_
    exact ⟨congrArg (fun v => some (zi v)) (by unfold uu; rw [if_pos (by omega)]), rfl, rfl, rfl⟩
theorem underC_2 {X : Nat × (Nat → Int32)} {d : Nat} {J M : zA} {R : zR} {k : Int} (hk : 0 ≤ k ∧ k ≤ 7) : zW X (d + 2) 2 0 (gEn 2 [(zi 2), (zi k)]) [] J M R (zPu (uu 2 k) J M R) := by
  show zW _ _ _ _ [some (zi 2), some (zi k), none, none] _ _ _ _ _
  refine z_iload0 gi_2_0 ?_
  refine z_istore (ls1 := [some (zi 2), some (zi k), some (zi 2), none]) gi_2_1 rfl ?_
  refine z_pushJ gp_2_2 ?_
  refine z_istore (ls1 := [some (zi 2), some (zi k), some (zi 2), some (zi 0)]) gi_2_3 rfl ?_
  refine z_iload3 gi_2_4 ?_
  refine z_pushJ gp_2_5 ?_
  refine z_icmp_geF gi_2_7 zr_0 zr_8 (by decide) ?_
  refine z_iload2 gi_2_10 ?_
  refine z_cS1 gi_2_11 (Nat.le_of_ble_eq_true rfl) gc_1_I ?_
  refine z_iload0 gi_1_0 ?_
  refine z_if_ltF gi_1_1 zr_2 (by decide) ?_
  refine z_iload0 gi_1_4 ?_
  refine z_pushJ gp_1_5 ?_
  refine z_icmp_geF gi_1_7 zr_2 zr_8 (by decide) ?_
  refine z_pushJ gp_1_10 ?_
  refine z_goto gi_1_11 ?_
  refine z_bret1 gi_1_15 gr_1 ?_
  show zW _ _ _ _ _ _ _ _ _ _
  refine z_if_eqF gi_2_14 zr_1 (by decide) ?_
  refine z_iload2 gi_2_17 ?_
  refine z_iload1 gi_2_18 ?_
  refine z_icmp_ne gi_2_19 zr_2 (by omega) (fun h1 => ?_) (fun h1 => ?_)
  · refine z_getS gi_2_24 ?_
    refine z_iload2 gi_2_27 ?_
    refine z_sald (j := 4) (n := 8) (v := 0) gi_2_28 (by decide) rfl (by decide) (by decide) rfl ?_
    refine z_istore (ls1 := [some (zi 2), some (zi k), some (zi 0), some (zi 0)]) gi_2_29 rfl ?_
    refine z_iinc (c := 1) (e := 1) (ls1 := [some (zi 2), some (zi k), some (zi 0), some (zi 1)]) gi_2_30 rfl rfl rfl rfl ?_
    refine z_goto gi_2_33 ?_
    show zW _ _ _ _ [some (zi 2), some (zi k), some (zi 0), some (zi 1)] [] _ _ _ _
    refine z_iload3 gi_2_4 ?_
    refine z_pushJ gp_2_5 ?_
    refine z_icmp_geF gi_2_7 zr_1 zr_8 (by decide) ?_
    refine z_iload2 gi_2_10 ?_
    refine z_cS1 gi_2_11 (Nat.le_of_ble_eq_true rfl) gc_1_I ?_
    refine z_iload0 gi_1_0 ?_
    refine z_if_ltF gi_1_1 zr_0 (by decide) ?_
    refine z_iload0 gi_1_4 ?_
    refine z_pushJ gp_1_5 ?_
    refine z_icmp_geF gi_1_7 zr_0 zr_8 (by decide) ?_
    refine z_pushJ gp_1_10 ?_
    refine z_goto gi_1_11 ?_
    refine z_bret1 gi_1_15 gr_1 ?_
    show zW _ _ _ _ _ _ _ _ _ _
    refine z_if_eqF gi_2_14 zr_1 (by decide) ?_
    refine z_iload2 gi_2_17 ?_
    refine z_iload1 gi_2_18 ?_
    refine z_icmp_ne gi_2_19 zr_0 (by omega) (fun h2 => ?_) (fun h2 => ?_)
    · refine z_getS gi_2_24 ?_
      refine z_iload2 gi_2_27 ?_
      refine z_sald (j := 4) (n := 8) (v := (-1)) gi_2_28 (by decide) rfl (by decide) (by decide) rfl ?_
      refine z_istore (ls1 := [some (zi 2), some (zi k), some (zi (-1)), some (zi 1)]) gi_2_29 rfl ?_
      refine z_iinc (c := 1) (e := 2) (ls1 := [some (zi 2), some (zi k), some (zi (-1)), some (zi 2)]) gi_2_30 rfl rfl rfl rfl ?_
      refine z_goto gi_2_33 ?_
      show zW _ _ _ _ [some (zi 2), some (zi k), some (zi (-1)), some (zi 2)] [] _ _ _ _
      refine z_iload3 gi_2_4 ?_
      refine z_pushJ gp_2_5 ?_
      refine z_icmp_geF gi_2_7 zr_2 zr_8 (by decide) ?_
      refine z_iload2 gi_2_10 ?_
      refine z_cS1 gi_2_11 (Nat.le_of_ble_eq_true rfl) gc_1_I ?_
      refine z_iload0 gi_1_0 ?_
      refine z_if_ltT gi_1_1 zrn_1 (by decide) ?_
      refine z_pushJ gp_1_14 ?_
      refine z_bret0 gi_1_15 gr_1 ?_
      show zW _ _ _ _ _ _ _ _ _ _
      refine z_if_eqT gi_2_14 zr_0 (by decide) ?_
      refine z_pushJ gp_2_36 ?_
      refine z_bret0 gi_2_37 gr_2 ?_
      exact ⟨congrArg (fun v => some (zi v)) (by unfold uu; rw [if_neg (by omega)]), rfl, rfl, rfl⟩
    · refine z_pushJ gp_2_22 ?_
      refine z_bret1 gi_2_23 gr_2 ?_
      exact ⟨congrArg (fun v => some (zi v)) (by unfold uu; rw [if_pos (by omega)]), rfl, rfl, rfl⟩
  · refine z_pushJ gp_2_22 ?_
    refine z_bret1 gi_2_23 gr_2 ?_
    exact ⟨congrArg (fun v => some (zi v)) (by unfold uu; rw [if_pos (by omega)]), rfl, rfl, rfl⟩
theorem underC_3 {X : Nat × (Nat → Int32)} {d : Nat} {J M : zA} {R : zR} {k : Int} (hk : 0 ≤ k ∧ k ≤ 7) : zW X (d + 2) 2 0 (gEn 2 [(zi 3), (zi k)]) [] J M R (zPu (uu 3 k) J M R) := by
  show zW _ _ _ _ [some (zi 3), some (zi k), none, none] _ _ _ _ _
  refine z_iload0 gi_2_0 ?_
  refine z_istore (ls1 := [some (zi 3), some (zi k), some (zi 3), none]) gi_2_1 rfl ?_
  refine z_pushJ gp_2_2 ?_
  refine z_istore (ls1 := [some (zi 3), some (zi k), some (zi 3), some (zi 0)]) gi_2_3 rfl ?_
  refine z_iload3 gi_2_4 ?_
  refine z_pushJ gp_2_5 ?_
  refine z_icmp_geF gi_2_7 zr_0 zr_8 (by decide) ?_
  refine z_iload2 gi_2_10 ?_
  refine z_cS1 gi_2_11 (Nat.le_of_ble_eq_true rfl) gc_1_I ?_
  refine z_iload0 gi_1_0 ?_
  refine z_if_ltF gi_1_1 zr_3 (by decide) ?_
  refine z_iload0 gi_1_4 ?_
  refine z_pushJ gp_1_5 ?_
  refine z_icmp_geF gi_1_7 zr_3 zr_8 (by decide) ?_
  refine z_pushJ gp_1_10 ?_
  refine z_goto gi_1_11 ?_
  refine z_bret1 gi_1_15 gr_1 ?_
  show zW _ _ _ _ _ _ _ _ _ _
  refine z_if_eqF gi_2_14 zr_1 (by decide) ?_
  refine z_iload2 gi_2_17 ?_
  refine z_iload1 gi_2_18 ?_
  refine z_icmp_ne gi_2_19 zr_3 (by omega) (fun h1 => ?_) (fun h1 => ?_)
  · refine z_getS gi_2_24 ?_
    refine z_iload2 gi_2_27 ?_
    refine z_sald (j := 4) (n := 8) (v := 2) gi_2_28 (by decide) rfl (by decide) (by decide) rfl ?_
    refine z_istore (ls1 := [some (zi 3), some (zi k), some (zi 2), some (zi 0)]) gi_2_29 rfl ?_
    refine z_iinc (c := 1) (e := 1) (ls1 := [some (zi 3), some (zi k), some (zi 2), some (zi 1)]) gi_2_30 rfl rfl rfl rfl ?_
    refine z_goto gi_2_33 ?_
    show zW _ _ _ _ [some (zi 3), some (zi k), some (zi 2), some (zi 1)] [] _ _ _ _
    refine z_iload3 gi_2_4 ?_
    refine z_pushJ gp_2_5 ?_
    refine z_icmp_geF gi_2_7 zr_1 zr_8 (by decide) ?_
    refine z_iload2 gi_2_10 ?_
    refine z_cS1 gi_2_11 (Nat.le_of_ble_eq_true rfl) gc_1_I ?_
    refine z_iload0 gi_1_0 ?_
    refine z_if_ltF gi_1_1 zr_2 (by decide) ?_
    refine z_iload0 gi_1_4 ?_
    refine z_pushJ gp_1_5 ?_
    refine z_icmp_geF gi_1_7 zr_2 zr_8 (by decide) ?_
    refine z_pushJ gp_1_10 ?_
    refine z_goto gi_1_11 ?_
    refine z_bret1 gi_1_15 gr_1 ?_
    show zW _ _ _ _ _ _ _ _ _ _
    refine z_if_eqF gi_2_14 zr_1 (by decide) ?_
    refine z_iload2 gi_2_17 ?_
    refine z_iload1 gi_2_18 ?_
    refine z_icmp_ne gi_2_19 zr_2 (by omega) (fun h2 => ?_) (fun h2 => ?_)
    · refine z_getS gi_2_24 ?_
      refine z_iload2 gi_2_27 ?_
      refine z_sald (j := 4) (n := 8) (v := 0) gi_2_28 (by decide) rfl (by decide) (by decide) rfl ?_
      refine z_istore (ls1 := [some (zi 3), some (zi k), some (zi 0), some (zi 1)]) gi_2_29 rfl ?_
      refine z_iinc (c := 1) (e := 2) (ls1 := [some (zi 3), some (zi k), some (zi 0), some (zi 2)]) gi_2_30 rfl rfl rfl rfl ?_
      refine z_goto gi_2_33 ?_
      show zW _ _ _ _ [some (zi 3), some (zi k), some (zi 0), some (zi 2)] [] _ _ _ _
      refine z_iload3 gi_2_4 ?_
      refine z_pushJ gp_2_5 ?_
      refine z_icmp_geF gi_2_7 zr_2 zr_8 (by decide) ?_
      refine z_iload2 gi_2_10 ?_
      refine z_cS1 gi_2_11 (Nat.le_of_ble_eq_true rfl) gc_1_I ?_
      refine z_iload0 gi_1_0 ?_
      refine z_if_ltF gi_1_1 zr_0 (by decide) ?_
      refine z_iload0 gi_1_4 ?_
      refine z_pushJ gp_1_5 ?_
      refine z_icmp_geF gi_1_7 zr_0 zr_8 (by decide) ?_
      refine z_pushJ gp_1_10 ?_
      refine z_goto gi_1_11 ?_
      refine z_bret1 gi_1_15 gr_1 ?_
      show zW _ _ _ _ _ _ _ _ _ _
      refine z_if_eqF gi_2_14 zr_1 (by decide) ?_
      refine z_iload2 gi_2_17 ?_
      refine z_iload1 gi_2_18 ?_
      refine z_icmp_ne gi_2_19 zr_0 (by omega) (fun h3 => ?_) (fun h3 => ?_)
      · refine z_getS gi_2_24 ?_
        refine z_iload2 gi_2_27 ?_
        refine z_sald (j := 4) (n := 8) (v := (-1)) gi_2_28 (by decide) rfl (by decide) (by decide) rfl ?_
        refine z_istore (ls1 := [some (zi 3), some (zi k), some (zi (-1)), some (zi 2)]) gi_2_29 rfl ?_
        refine z_iinc (c := 1) (e := 3) (ls1 := [some (zi 3), some (zi k), some (zi (-1)), some (zi 3)]) gi_2_30 rfl rfl rfl rfl ?_
        refine z_goto gi_2_33 ?_
        show zW _ _ _ _ [some (zi 3), some (zi k), some (zi (-1)), some (zi 3)] [] _ _ _ _
        refine z_iload3 gi_2_4 ?_
        refine z_pushJ gp_2_5 ?_
        refine z_icmp_geF gi_2_7 zr_3 zr_8 (by decide) ?_
        refine z_iload2 gi_2_10 ?_
        refine z_cS1 gi_2_11 (Nat.le_of_ble_eq_true rfl) gc_1_I ?_
        refine z_iload0 gi_1_0 ?_
        refine z_if_ltT gi_1_1 zrn_1 (by decide) ?_
        refine z_pushJ gp_1_14 ?_
        refine z_bret0 gi_1_15 gr_1 ?_
        show zW _ _ _ _ _ _ _ _ _ _
        refine z_if_eqT gi_2_14 zr_0 (by decide) ?_
        refine z_pushJ gp_2_36 ?_
        refine z_bret0 gi_2_37 gr_2 ?_
        exact ⟨congrArg (fun v => some (zi v)) (by unfold uu; rw [if_neg (by omega)]), rfl, rfl, rfl⟩
      · refine z_pushJ gp_2_22 ?_
        refine z_bret1 gi_2_23 gr_2 ?_
        exact ⟨congrArg (fun v => some (zi v)) (by unfold uu; rw [if_pos (by omega)]), rfl, rfl, rfl⟩
    · refine z_pushJ gp_2_22 ?_
      refine z_bret1 gi_2_23 gr_2 ?_
      exact ⟨congrArg (fun v => some (zi v)) (by unfold uu; rw [if_pos (by omega)]), rfl, rfl, rfl⟩
  · refine z_pushJ gp_2_22 ?_
    refine z_bret1 gi_2_23 gr_2 ?_
    exact ⟨congrArg (fun v => some (zi v)) (by unfold uu; rw [if_pos (by omega)]), rfl, rfl, rfl⟩
theorem underC_4 {X : Nat × (Nat → Int32)} {d : Nat} {J M : zA} {R : zR} {k : Int} (hk : 0 ≤ k ∧ k ≤ 7) : zW X (d + 2) 2 0 (gEn 2 [(zi 4), (zi k)]) [] J M R (zPu (uu 4 k) J M R) := by
  show zW _ _ _ _ [some (zi 4), some (zi k), none, none] _ _ _ _ _
  refine z_iload0 gi_2_0 ?_
  refine z_istore (ls1 := [some (zi 4), some (zi k), some (zi 4), none]) gi_2_1 rfl ?_
  refine z_pushJ gp_2_2 ?_
  refine z_istore (ls1 := [some (zi 4), some (zi k), some (zi 4), some (zi 0)]) gi_2_3 rfl ?_
  refine z_iload3 gi_2_4 ?_
  refine z_pushJ gp_2_5 ?_
  refine z_icmp_geF gi_2_7 zr_0 zr_8 (by decide) ?_
  refine z_iload2 gi_2_10 ?_
  refine z_cS1 gi_2_11 (Nat.le_of_ble_eq_true rfl) gc_1_I ?_
  refine z_iload0 gi_1_0 ?_
  refine z_if_ltF gi_1_1 zr_4 (by decide) ?_
  refine z_iload0 gi_1_4 ?_
  refine z_pushJ gp_1_5 ?_
  refine z_icmp_geF gi_1_7 zr_4 zr_8 (by decide) ?_
  refine z_pushJ gp_1_10 ?_
  refine z_goto gi_1_11 ?_
  refine z_bret1 gi_1_15 gr_1 ?_
  show zW _ _ _ _ _ _ _ _ _ _
  refine z_if_eqF gi_2_14 zr_1 (by decide) ?_
  refine z_iload2 gi_2_17 ?_
  refine z_iload1 gi_2_18 ?_
  refine z_icmp_ne gi_2_19 zr_4 (by omega) (fun h1 => ?_) (fun h1 => ?_)
  · refine z_getS gi_2_24 ?_
    refine z_iload2 gi_2_27 ?_
    refine z_sald (j := 4) (n := 8) (v := 1) gi_2_28 (by decide) rfl (by decide) (by decide) rfl ?_
    refine z_istore (ls1 := [some (zi 4), some (zi k), some (zi 1), some (zi 0)]) gi_2_29 rfl ?_
    refine z_iinc (c := 1) (e := 1) (ls1 := [some (zi 4), some (zi k), some (zi 1), some (zi 1)]) gi_2_30 rfl rfl rfl rfl ?_
    refine z_goto gi_2_33 ?_
    show zW _ _ _ _ [some (zi 4), some (zi k), some (zi 1), some (zi 1)] [] _ _ _ _
    refine z_iload3 gi_2_4 ?_
    refine z_pushJ gp_2_5 ?_
    refine z_icmp_geF gi_2_7 zr_1 zr_8 (by decide) ?_
    refine z_iload2 gi_2_10 ?_
    refine z_cS1 gi_2_11 (Nat.le_of_ble_eq_true rfl) gc_1_I ?_
    refine z_iload0 gi_1_0 ?_
    refine z_if_ltF gi_1_1 zr_1 (by decide) ?_
    refine z_iload0 gi_1_4 ?_
    refine z_pushJ gp_1_5 ?_
    refine z_icmp_geF gi_1_7 zr_1 zr_8 (by decide) ?_
    refine z_pushJ gp_1_10 ?_
    refine z_goto gi_1_11 ?_
    refine z_bret1 gi_1_15 gr_1 ?_
    show zW _ _ _ _ _ _ _ _ _ _
    refine z_if_eqF gi_2_14 zr_1 (by decide) ?_
    refine z_iload2 gi_2_17 ?_
    refine z_iload1 gi_2_18 ?_
    refine z_icmp_ne gi_2_19 zr_1 (by omega) (fun h2 => ?_) (fun h2 => ?_)
    · refine z_getS gi_2_24 ?_
      refine z_iload2 gi_2_27 ?_
      refine z_sald (j := 4) (n := 8) (v := 0) gi_2_28 (by decide) rfl (by decide) (by decide) rfl ?_
      refine z_istore (ls1 := [some (zi 4), some (zi k), some (zi 0), some (zi 1)]) gi_2_29 rfl ?_
      refine z_iinc (c := 1) (e := 2) (ls1 := [some (zi 4), some (zi k), some (zi 0), some (zi 2)]) gi_2_30 rfl rfl rfl rfl ?_
      refine z_goto gi_2_33 ?_
      show zW _ _ _ _ [some (zi 4), some (zi k), some (zi 0), some (zi 2)] [] _ _ _ _
      refine z_iload3 gi_2_4 ?_
      refine z_pushJ gp_2_5 ?_
      refine z_icmp_geF gi_2_7 zr_2 zr_8 (by decide) ?_
      refine z_iload2 gi_2_10 ?_
      refine z_cS1 gi_2_11 (Nat.le_of_ble_eq_true rfl) gc_1_I ?_
      refine z_iload0 gi_1_0 ?_
      refine z_if_ltF gi_1_1 zr_0 (by decide) ?_
      refine z_iload0 gi_1_4 ?_
      refine z_pushJ gp_1_5 ?_
      refine z_icmp_geF gi_1_7 zr_0 zr_8 (by decide) ?_
      refine z_pushJ gp_1_10 ?_
      refine z_goto gi_1_11 ?_
      refine z_bret1 gi_1_15 gr_1 ?_
      show zW _ _ _ _ _ _ _ _ _ _
      refine z_if_eqF gi_2_14 zr_1 (by decide) ?_
      refine z_iload2 gi_2_17 ?_
      refine z_iload1 gi_2_18 ?_
      refine z_icmp_ne gi_2_19 zr_0 (by omega) (fun h3 => ?_) (fun h3 => ?_)
      · refine z_getS gi_2_24 ?_
        refine z_iload2 gi_2_27 ?_
        refine z_sald (j := 4) (n := 8) (v := (-1)) gi_2_28 (by decide) rfl (by decide) (by decide) rfl ?_
        refine z_istore (ls1 := [some (zi 4), some (zi k), some (zi (-1)), some (zi 2)]) gi_2_29 rfl ?_
        refine z_iinc (c := 1) (e := 3) (ls1 := [some (zi 4), some (zi k), some (zi (-1)), some (zi 3)]) gi_2_30 rfl rfl rfl rfl ?_
        refine z_goto gi_2_33 ?_
        show zW _ _ _ _ [some (zi 4), some (zi k), some (zi (-1)), some (zi 3)] [] _ _ _ _
        refine z_iload3 gi_2_4 ?_
        refine z_pushJ gp_2_5 ?_
        refine z_icmp_geF gi_2_7 zr_3 zr_8 (by decide) ?_
        refine z_iload2 gi_2_10 ?_
        refine z_cS1 gi_2_11 (Nat.le_of_ble_eq_true rfl) gc_1_I ?_
        refine z_iload0 gi_1_0 ?_
        refine z_if_ltT gi_1_1 zrn_1 (by decide) ?_
        refine z_pushJ gp_1_14 ?_
        refine z_bret0 gi_1_15 gr_1 ?_
        show zW _ _ _ _ _ _ _ _ _ _
        refine z_if_eqT gi_2_14 zr_0 (by decide) ?_
        refine z_pushJ gp_2_36 ?_
        refine z_bret0 gi_2_37 gr_2 ?_
        exact ⟨congrArg (fun v => some (zi v)) (by unfold uu; rw [if_neg (by omega)]), rfl, rfl, rfl⟩
      · refine z_pushJ gp_2_22 ?_
        refine z_bret1 gi_2_23 gr_2 ?_
        exact ⟨congrArg (fun v => some (zi v)) (by unfold uu; rw [if_pos (by omega)]), rfl, rfl, rfl⟩
    · refine z_pushJ gp_2_22 ?_
      refine z_bret1 gi_2_23 gr_2 ?_
      exact ⟨congrArg (fun v => some (zi v)) (by unfold uu; rw [if_pos (by omega)]), rfl, rfl, rfl⟩
  · refine z_pushJ gp_2_22 ?_
    refine z_bret1 gi_2_23 gr_2 ?_
    exact ⟨congrArg (fun v => some (zi v)) (by unfold uu; rw [if_pos (by omega)]), rfl, rfl, rfl⟩
theorem underC_5 {X : Nat × (Nat → Int32)} {d : Nat} {J M : zA} {R : zR} {k : Int} (hk : 0 ≤ k ∧ k ≤ 7) : zW X (d + 2) 2 0 (gEn 2 [(zi 5), (zi k)]) [] J M R (zPu (uu 5 k) J M R) := by
  show zW _ _ _ _ [some (zi 5), some (zi k), none, none] _ _ _ _ _
  refine z_iload0 gi_2_0 ?_
  refine z_istore (ls1 := [some (zi 5), some (zi k), some (zi 5), none]) gi_2_1 rfl ?_
  refine z_pushJ gp_2_2 ?_
  refine z_istore (ls1 := [some (zi 5), some (zi k), some (zi 5), some (zi 0)]) gi_2_3 rfl ?_
  refine z_iload3 gi_2_4 ?_
  refine z_pushJ gp_2_5 ?_
  refine z_icmp_geF gi_2_7 zr_0 zr_8 (by decide) ?_
  refine z_iload2 gi_2_10 ?_
  refine z_cS1 gi_2_11 (Nat.le_of_ble_eq_true rfl) gc_1_I ?_
  refine z_iload0 gi_1_0 ?_
  refine z_if_ltF gi_1_1 zr_5 (by decide) ?_
  refine z_iload0 gi_1_4 ?_
  refine z_pushJ gp_1_5 ?_
  refine z_icmp_geF gi_1_7 zr_5 zr_8 (by decide) ?_
  refine z_pushJ gp_1_10 ?_
  refine z_goto gi_1_11 ?_
  refine z_bret1 gi_1_15 gr_1 ?_
  show zW _ _ _ _ _ _ _ _ _ _
  refine z_if_eqF gi_2_14 zr_1 (by decide) ?_
  refine z_iload2 gi_2_17 ?_
  refine z_iload1 gi_2_18 ?_
  refine z_icmp_ne gi_2_19 zr_5 (by omega) (fun h1 => ?_) (fun h1 => ?_)
  · refine z_getS gi_2_24 ?_
    refine z_iload2 gi_2_27 ?_
    refine z_sald (j := 4) (n := 8) (v := 3) gi_2_28 (by decide) rfl (by decide) (by decide) rfl ?_
    refine z_istore (ls1 := [some (zi 5), some (zi k), some (zi 3), some (zi 0)]) gi_2_29 rfl ?_
    refine z_iinc (c := 1) (e := 1) (ls1 := [some (zi 5), some (zi k), some (zi 3), some (zi 1)]) gi_2_30 rfl rfl rfl rfl ?_
    refine z_goto gi_2_33 ?_
    show zW _ _ _ _ [some (zi 5), some (zi k), some (zi 3), some (zi 1)] [] _ _ _ _
    refine z_iload3 gi_2_4 ?_
    refine z_pushJ gp_2_5 ?_
    refine z_icmp_geF gi_2_7 zr_1 zr_8 (by decide) ?_
    refine z_iload2 gi_2_10 ?_
    refine z_cS1 gi_2_11 (Nat.le_of_ble_eq_true rfl) gc_1_I ?_
    refine z_iload0 gi_1_0 ?_
    refine z_if_ltF gi_1_1 zr_3 (by decide) ?_
    refine z_iload0 gi_1_4 ?_
    refine z_pushJ gp_1_5 ?_
    refine z_icmp_geF gi_1_7 zr_3 zr_8 (by decide) ?_
    refine z_pushJ gp_1_10 ?_
    refine z_goto gi_1_11 ?_
    refine z_bret1 gi_1_15 gr_1 ?_
    show zW _ _ _ _ _ _ _ _ _ _
    refine z_if_eqF gi_2_14 zr_1 (by decide) ?_
    refine z_iload2 gi_2_17 ?_
    refine z_iload1 gi_2_18 ?_
    refine z_icmp_ne gi_2_19 zr_3 (by omega) (fun h2 => ?_) (fun h2 => ?_)
    · refine z_getS gi_2_24 ?_
      refine z_iload2 gi_2_27 ?_
      refine z_sald (j := 4) (n := 8) (v := 2) gi_2_28 (by decide) rfl (by decide) (by decide) rfl ?_
      refine z_istore (ls1 := [some (zi 5), some (zi k), some (zi 2), some (zi 1)]) gi_2_29 rfl ?_
      refine z_iinc (c := 1) (e := 2) (ls1 := [some (zi 5), some (zi k), some (zi 2), some (zi 2)]) gi_2_30 rfl rfl rfl rfl ?_
      refine z_goto gi_2_33 ?_
      show zW _ _ _ _ [some (zi 5), some (zi k), some (zi 2), some (zi 2)] [] _ _ _ _
      refine z_iload3 gi_2_4 ?_
      refine z_pushJ gp_2_5 ?_
      refine z_icmp_geF gi_2_7 zr_2 zr_8 (by decide) ?_
      refine z_iload2 gi_2_10 ?_
      refine z_cS1 gi_2_11 (Nat.le_of_ble_eq_true rfl) gc_1_I ?_
      refine z_iload0 gi_1_0 ?_
      refine z_if_ltF gi_1_1 zr_2 (by decide) ?_
      refine z_iload0 gi_1_4 ?_
      refine z_pushJ gp_1_5 ?_
      refine z_icmp_geF gi_1_7 zr_2 zr_8 (by decide) ?_
      refine z_pushJ gp_1_10 ?_
      refine z_goto gi_1_11 ?_
      refine z_bret1 gi_1_15 gr_1 ?_
      show zW _ _ _ _ _ _ _ _ _ _
      refine z_if_eqF gi_2_14 zr_1 (by decide) ?_
      refine z_iload2 gi_2_17 ?_
      refine z_iload1 gi_2_18 ?_
      refine z_icmp_ne gi_2_19 zr_2 (by omega) (fun h3 => ?_) (fun h3 => ?_)
      · refine z_getS gi_2_24 ?_
        refine z_iload2 gi_2_27 ?_
        refine z_sald (j := 4) (n := 8) (v := 0) gi_2_28 (by decide) rfl (by decide) (by decide) rfl ?_
        refine z_istore (ls1 := [some (zi 5), some (zi k), some (zi 0), some (zi 2)]) gi_2_29 rfl ?_
        refine z_iinc (c := 1) (e := 3) (ls1 := [some (zi 5), some (zi k), some (zi 0), some (zi 3)]) gi_2_30 rfl rfl rfl rfl ?_
        refine z_goto gi_2_33 ?_
        show zW _ _ _ _ [some (zi 5), some (zi k), some (zi 0), some (zi 3)] [] _ _ _ _
        refine z_iload3 gi_2_4 ?_
        refine z_pushJ gp_2_5 ?_
        refine z_icmp_geF gi_2_7 zr_3 zr_8 (by decide) ?_
        refine z_iload2 gi_2_10 ?_
        refine z_cS1 gi_2_11 (Nat.le_of_ble_eq_true rfl) gc_1_I ?_
        refine z_iload0 gi_1_0 ?_
        refine z_if_ltF gi_1_1 zr_0 (by decide) ?_
        refine z_iload0 gi_1_4 ?_
        refine z_pushJ gp_1_5 ?_
        refine z_icmp_geF gi_1_7 zr_0 zr_8 (by decide) ?_
        refine z_pushJ gp_1_10 ?_
        refine z_goto gi_1_11 ?_
        refine z_bret1 gi_1_15 gr_1 ?_
        show zW _ _ _ _ _ _ _ _ _ _
        refine z_if_eqF gi_2_14 zr_1 (by decide) ?_
        refine z_iload2 gi_2_17 ?_
        refine z_iload1 gi_2_18 ?_
        refine z_icmp_ne gi_2_19 zr_0 (by omega) (fun h4 => ?_) (fun h4 => ?_)
        · refine z_getS gi_2_24 ?_
          refine z_iload2 gi_2_27 ?_
          refine z_sald (j := 4) (n := 8) (v := (-1)) gi_2_28 (by decide) rfl (by decide) (by decide) rfl ?_
          refine z_istore (ls1 := [some (zi 5), some (zi k), some (zi (-1)), some (zi 3)]) gi_2_29 rfl ?_
          refine z_iinc (c := 1) (e := 4) (ls1 := [some (zi 5), some (zi k), some (zi (-1)), some (zi 4)]) gi_2_30 rfl rfl rfl rfl ?_
          refine z_goto gi_2_33 ?_
          show zW _ _ _ _ [some (zi 5), some (zi k), some (zi (-1)), some (zi 4)] [] _ _ _ _
          refine z_iload3 gi_2_4 ?_
          refine z_pushJ gp_2_5 ?_
          refine z_icmp_geF gi_2_7 zr_4 zr_8 (by decide) ?_
          refine z_iload2 gi_2_10 ?_
          refine z_cS1 gi_2_11 (Nat.le_of_ble_eq_true rfl) gc_1_I ?_
          refine z_iload0 gi_1_0 ?_
          refine z_if_ltT gi_1_1 zrn_1 (by decide) ?_
          refine z_pushJ gp_1_14 ?_
          refine z_bret0 gi_1_15 gr_1 ?_
          show zW _ _ _ _ _ _ _ _ _ _
          refine z_if_eqT gi_2_14 zr_0 (by decide) ?_
          refine z_pushJ gp_2_36 ?_
          refine z_bret0 gi_2_37 gr_2 ?_
          exact ⟨congrArg (fun v => some (zi v)) (by unfold uu; rw [if_neg (by omega)]), rfl, rfl, rfl⟩
        · refine z_pushJ gp_2_22 ?_
          refine z_bret1 gi_2_23 gr_2 ?_
          exact ⟨congrArg (fun v => some (zi v)) (by unfold uu; rw [if_pos (by omega)]), rfl, rfl, rfl⟩
      · refine z_pushJ gp_2_22 ?_
        refine z_bret1 gi_2_23 gr_2 ?_
        exact ⟨congrArg (fun v => some (zi v)) (by unfold uu; rw [if_pos (by omega)]), rfl, rfl, rfl⟩
    · refine z_pushJ gp_2_22 ?_
      refine z_bret1 gi_2_23 gr_2 ?_
      exact ⟨congrArg (fun v => some (zi v)) (by unfold uu; rw [if_pos (by omega)]), rfl, rfl, rfl⟩
  · refine z_pushJ gp_2_22 ?_
    refine z_bret1 gi_2_23 gr_2 ?_
    exact ⟨congrArg (fun v => some (zi v)) (by unfold uu; rw [if_pos (by omega)]), rfl, rfl, rfl⟩
theorem underC_6 {X : Nat × (Nat → Int32)} {d : Nat} {J M : zA} {R : zR} {k : Int} (hk : 0 ≤ k ∧ k ≤ 7) : zW X (d + 2) 2 0 (gEn 2 [(zi 6), (zi k)]) [] J M R (zPu (uu 6 k) J M R) := by
  show zW _ _ _ _ [some (zi 6), some (zi k), none, none] _ _ _ _ _
  refine z_iload0 gi_2_0 ?_
  refine z_istore (ls1 := [some (zi 6), some (zi k), some (zi 6), none]) gi_2_1 rfl ?_
  refine z_pushJ gp_2_2 ?_
  refine z_istore (ls1 := [some (zi 6), some (zi k), some (zi 6), some (zi 0)]) gi_2_3 rfl ?_
  refine z_iload3 gi_2_4 ?_
  refine z_pushJ gp_2_5 ?_
  refine z_icmp_geF gi_2_7 zr_0 zr_8 (by decide) ?_
  refine z_iload2 gi_2_10 ?_
  refine z_cS1 gi_2_11 (Nat.le_of_ble_eq_true rfl) gc_1_I ?_
  refine z_iload0 gi_1_0 ?_
  refine z_if_ltF gi_1_1 zr_6 (by decide) ?_
  refine z_iload0 gi_1_4 ?_
  refine z_pushJ gp_1_5 ?_
  refine z_icmp_geF gi_1_7 zr_6 zr_8 (by decide) ?_
  refine z_pushJ gp_1_10 ?_
  refine z_goto gi_1_11 ?_
  refine z_bret1 gi_1_15 gr_1 ?_
  show zW _ _ _ _ _ _ _ _ _ _
  refine z_if_eqF gi_2_14 zr_1 (by decide) ?_
  refine z_iload2 gi_2_17 ?_
  refine z_iload1 gi_2_18 ?_
  refine z_icmp_ne gi_2_19 zr_6 (by omega) (fun h1 => ?_) (fun h1 => ?_)
  · refine z_getS gi_2_24 ?_
    refine z_iload2 gi_2_27 ?_
    refine z_sald (j := 4) (n := 8) (v := 0) gi_2_28 (by decide) rfl (by decide) (by decide) rfl ?_
    refine z_istore (ls1 := [some (zi 6), some (zi k), some (zi 0), some (zi 0)]) gi_2_29 rfl ?_
    refine z_iinc (c := 1) (e := 1) (ls1 := [some (zi 6), some (zi k), some (zi 0), some (zi 1)]) gi_2_30 rfl rfl rfl rfl ?_
    refine z_goto gi_2_33 ?_
    show zW _ _ _ _ [some (zi 6), some (zi k), some (zi 0), some (zi 1)] [] _ _ _ _
    refine z_iload3 gi_2_4 ?_
    refine z_pushJ gp_2_5 ?_
    refine z_icmp_geF gi_2_7 zr_1 zr_8 (by decide) ?_
    refine z_iload2 gi_2_10 ?_
    refine z_cS1 gi_2_11 (Nat.le_of_ble_eq_true rfl) gc_1_I ?_
    refine z_iload0 gi_1_0 ?_
    refine z_if_ltF gi_1_1 zr_0 (by decide) ?_
    refine z_iload0 gi_1_4 ?_
    refine z_pushJ gp_1_5 ?_
    refine z_icmp_geF gi_1_7 zr_0 zr_8 (by decide) ?_
    refine z_pushJ gp_1_10 ?_
    refine z_goto gi_1_11 ?_
    refine z_bret1 gi_1_15 gr_1 ?_
    show zW _ _ _ _ _ _ _ _ _ _
    refine z_if_eqF gi_2_14 zr_1 (by decide) ?_
    refine z_iload2 gi_2_17 ?_
    refine z_iload1 gi_2_18 ?_
    refine z_icmp_ne gi_2_19 zr_0 (by omega) (fun h2 => ?_) (fun h2 => ?_)
    · refine z_getS gi_2_24 ?_
      refine z_iload2 gi_2_27 ?_
      refine z_sald (j := 4) (n := 8) (v := (-1)) gi_2_28 (by decide) rfl (by decide) (by decide) rfl ?_
      refine z_istore (ls1 := [some (zi 6), some (zi k), some (zi (-1)), some (zi 1)]) gi_2_29 rfl ?_
      refine z_iinc (c := 1) (e := 2) (ls1 := [some (zi 6), some (zi k), some (zi (-1)), some (zi 2)]) gi_2_30 rfl rfl rfl rfl ?_
      refine z_goto gi_2_33 ?_
      show zW _ _ _ _ [some (zi 6), some (zi k), some (zi (-1)), some (zi 2)] [] _ _ _ _
      refine z_iload3 gi_2_4 ?_
      refine z_pushJ gp_2_5 ?_
      refine z_icmp_geF gi_2_7 zr_2 zr_8 (by decide) ?_
      refine z_iload2 gi_2_10 ?_
      refine z_cS1 gi_2_11 (Nat.le_of_ble_eq_true rfl) gc_1_I ?_
      refine z_iload0 gi_1_0 ?_
      refine z_if_ltT gi_1_1 zrn_1 (by decide) ?_
      refine z_pushJ gp_1_14 ?_
      refine z_bret0 gi_1_15 gr_1 ?_
      show zW _ _ _ _ _ _ _ _ _ _
      refine z_if_eqT gi_2_14 zr_0 (by decide) ?_
      refine z_pushJ gp_2_36 ?_
      refine z_bret0 gi_2_37 gr_2 ?_
      exact ⟨congrArg (fun v => some (zi v)) (by unfold uu; rw [if_neg (by omega)]), rfl, rfl, rfl⟩
    · refine z_pushJ gp_2_22 ?_
      refine z_bret1 gi_2_23 gr_2 ?_
      exact ⟨congrArg (fun v => some (zi v)) (by unfold uu; rw [if_pos (by omega)]), rfl, rfl, rfl⟩
  · refine z_pushJ gp_2_22 ?_
    refine z_bret1 gi_2_23 gr_2 ?_
    exact ⟨congrArg (fun v => some (zi v)) (by unfold uu; rw [if_pos (by omega)]), rfl, rfl, rfl⟩
theorem underC_7 {X : Nat × (Nat → Int32)} {d : Nat} {J M : zA} {R : zR} {k : Int} (hk : 0 ≤ k ∧ k ≤ 7) : zW X (d + 2) 2 0 (gEn 2 [(zi 7), (zi k)]) [] J M R (zPu (uu 7 k) J M R) := by
  show zW _ _ _ _ [some (zi 7), some (zi k), none, none] _ _ _ _ _
  refine z_iload0 gi_2_0 ?_
  refine z_istore (ls1 := [some (zi 7), some (zi k), some (zi 7), none]) gi_2_1 rfl ?_
  refine z_pushJ gp_2_2 ?_
  refine z_istore (ls1 := [some (zi 7), some (zi k), some (zi 7), some (zi 0)]) gi_2_3 rfl ?_
  refine z_iload3 gi_2_4 ?_
  refine z_pushJ gp_2_5 ?_
  refine z_icmp_geF gi_2_7 zr_0 zr_8 (by decide) ?_
  refine z_iload2 gi_2_10 ?_
  refine z_cS1 gi_2_11 (Nat.le_of_ble_eq_true rfl) gc_1_I ?_
  refine z_iload0 gi_1_0 ?_
  refine z_if_ltF gi_1_1 zr_7 (by decide) ?_
  refine z_iload0 gi_1_4 ?_
  refine z_pushJ gp_1_5 ?_
  refine z_icmp_geF gi_1_7 zr_7 zr_8 (by decide) ?_
  refine z_pushJ gp_1_10 ?_
  refine z_goto gi_1_11 ?_
  refine z_bret1 gi_1_15 gr_1 ?_
  show zW _ _ _ _ _ _ _ _ _ _
  refine z_if_eqF gi_2_14 zr_1 (by decide) ?_
  refine z_iload2 gi_2_17 ?_
  refine z_iload1 gi_2_18 ?_
  refine z_icmp_ne gi_2_19 zr_7 (by omega) (fun h1 => ?_) (fun h1 => ?_)
  · refine z_getS gi_2_24 ?_
    refine z_iload2 gi_2_27 ?_
    refine z_sald (j := 4) (n := 8) (v := 6) gi_2_28 (by decide) rfl (by decide) (by decide) rfl ?_
    refine z_istore (ls1 := [some (zi 7), some (zi k), some (zi 6), some (zi 0)]) gi_2_29 rfl ?_
    refine z_iinc (c := 1) (e := 1) (ls1 := [some (zi 7), some (zi k), some (zi 6), some (zi 1)]) gi_2_30 rfl rfl rfl rfl ?_
    refine z_goto gi_2_33 ?_
    show zW _ _ _ _ [some (zi 7), some (zi k), some (zi 6), some (zi 1)] [] _ _ _ _
    refine z_iload3 gi_2_4 ?_
    refine z_pushJ gp_2_5 ?_
    refine z_icmp_geF gi_2_7 zr_1 zr_8 (by decide) ?_
    refine z_iload2 gi_2_10 ?_
    refine z_cS1 gi_2_11 (Nat.le_of_ble_eq_true rfl) gc_1_I ?_
    refine z_iload0 gi_1_0 ?_
    refine z_if_ltF gi_1_1 zr_6 (by decide) ?_
    refine z_iload0 gi_1_4 ?_
    refine z_pushJ gp_1_5 ?_
    refine z_icmp_geF gi_1_7 zr_6 zr_8 (by decide) ?_
    refine z_pushJ gp_1_10 ?_
    refine z_goto gi_1_11 ?_
    refine z_bret1 gi_1_15 gr_1 ?_
    show zW _ _ _ _ _ _ _ _ _ _
    refine z_if_eqF gi_2_14 zr_1 (by decide) ?_
    refine z_iload2 gi_2_17 ?_
    refine z_iload1 gi_2_18 ?_
    refine z_icmp_ne gi_2_19 zr_6 (by omega) (fun h2 => ?_) (fun h2 => ?_)
    · refine z_getS gi_2_24 ?_
      refine z_iload2 gi_2_27 ?_
      refine z_sald (j := 4) (n := 8) (v := 0) gi_2_28 (by decide) rfl (by decide) (by decide) rfl ?_
      refine z_istore (ls1 := [some (zi 7), some (zi k), some (zi 0), some (zi 1)]) gi_2_29 rfl ?_
      refine z_iinc (c := 1) (e := 2) (ls1 := [some (zi 7), some (zi k), some (zi 0), some (zi 2)]) gi_2_30 rfl rfl rfl rfl ?_
      refine z_goto gi_2_33 ?_
      show zW _ _ _ _ [some (zi 7), some (zi k), some (zi 0), some (zi 2)] [] _ _ _ _
      refine z_iload3 gi_2_4 ?_
      refine z_pushJ gp_2_5 ?_
      refine z_icmp_geF gi_2_7 zr_2 zr_8 (by decide) ?_
      refine z_iload2 gi_2_10 ?_
      refine z_cS1 gi_2_11 (Nat.le_of_ble_eq_true rfl) gc_1_I ?_
      refine z_iload0 gi_1_0 ?_
      refine z_if_ltF gi_1_1 zr_0 (by decide) ?_
      refine z_iload0 gi_1_4 ?_
      refine z_pushJ gp_1_5 ?_
      refine z_icmp_geF gi_1_7 zr_0 zr_8 (by decide) ?_
      refine z_pushJ gp_1_10 ?_
      refine z_goto gi_1_11 ?_
      refine z_bret1 gi_1_15 gr_1 ?_
      show zW _ _ _ _ _ _ _ _ _ _
      refine z_if_eqF gi_2_14 zr_1 (by decide) ?_
      refine z_iload2 gi_2_17 ?_
      refine z_iload1 gi_2_18 ?_
      refine z_icmp_ne gi_2_19 zr_0 (by omega) (fun h3 => ?_) (fun h3 => ?_)
      · refine z_getS gi_2_24 ?_
        refine z_iload2 gi_2_27 ?_
        refine z_sald (j := 4) (n := 8) (v := (-1)) gi_2_28 (by decide) rfl (by decide) (by decide) rfl ?_
        refine z_istore (ls1 := [some (zi 7), some (zi k), some (zi (-1)), some (zi 2)]) gi_2_29 rfl ?_
        refine z_iinc (c := 1) (e := 3) (ls1 := [some (zi 7), some (zi k), some (zi (-1)), some (zi 3)]) gi_2_30 rfl rfl rfl rfl ?_
        refine z_goto gi_2_33 ?_
        show zW _ _ _ _ [some (zi 7), some (zi k), some (zi (-1)), some (zi 3)] [] _ _ _ _
        refine z_iload3 gi_2_4 ?_
        refine z_pushJ gp_2_5 ?_
        refine z_icmp_geF gi_2_7 zr_3 zr_8 (by decide) ?_
        refine z_iload2 gi_2_10 ?_
        refine z_cS1 gi_2_11 (Nat.le_of_ble_eq_true rfl) gc_1_I ?_
        refine z_iload0 gi_1_0 ?_
        refine z_if_ltT gi_1_1 zrn_1 (by decide) ?_
        refine z_pushJ gp_1_14 ?_
        refine z_bret0 gi_1_15 gr_1 ?_
        show zW _ _ _ _ _ _ _ _ _ _
        refine z_if_eqT gi_2_14 zr_0 (by decide) ?_
        refine z_pushJ gp_2_36 ?_
        refine z_bret0 gi_2_37 gr_2 ?_
        exact ⟨congrArg (fun v => some (zi v)) (by unfold uu; rw [if_neg (by omega)]), rfl, rfl, rfl⟩
      · refine z_pushJ gp_2_22 ?_
        refine z_bret1 gi_2_23 gr_2 ?_
        exact ⟨congrArg (fun v => some (zi v)) (by unfold uu; rw [if_pos (by omega)]), rfl, rfl, rfl⟩
    · refine z_pushJ gp_2_22 ?_
      refine z_bret1 gi_2_23 gr_2 ?_
      exact ⟨congrArg (fun v => some (zi v)) (by unfold uu; rw [if_pos (by omega)]), rfl, rfl, rfl⟩
  · refine z_pushJ gp_2_22 ?_
    refine z_bret1 gi_2_23 gr_2 ?_
    exact ⟨congrArg (fun v => some (zi v)) (by unfold uu; rw [if_pos (by omega)]), rfl, rfl, rfl⟩
theorem underC {X : Nat × (Nat → Int32)} {d : Nat} {J M : zA} {R : zR} {c k : Int} (hc : 0 ≤ c ∧ c ≤ 7) (hk : 0 ≤ k ∧ k ≤ 7) : zW X (d + 2) 2 0 (gEn 2 [(zi c), (zi k)]) [] J M R (zPu (uu c k) J M R) := by
  have h7 : c = 0 ∨ c = 1 ∨ c = 2 ∨ c = 3 ∨ c = 4 ∨ c = 5 ∨ c = 6 ∨ c = 7 := by omega
  rcases h7 with rfl | rfl | rfl | rfl | rfl | rfl | rfl | rfl
  · exact underC_0 hk
  · exact underC_1 hk
  · exact underC_2 hk
  · exact underC_3 hk
  · exact underC_4 hk
  · exact underC_5 hk
  · exact underC_6 hk
  · exact underC_7 hk
theorem underR_0 {X : Nat × (Nat → Int32)} {d : Nat} {J M : zA} {R : zR} {k : Int} (hk : 0 ≤ k ∧ k ≤ 7) : zW X (d + 2) 234 0 (gEn 234 [(zi 0), (zi k)]) [] J M R (zPu (uu 0 k) J M R) := by
  show zW _ _ _ _ [some (zi 0), some (zi k)] _ _ _ _ _
  refine z_iload1 gi_234_0 ?_
  refine z_if_eq gi_234_1 (by omega) (fun h1 => ?_) (fun h1 => ?_)
  · refine z_pushJ gp_234_56 ?_
    refine z_goto gi_234_57 ?_
    refine z_bret1 gi_234_61 gr_234 ?_
    exact ⟨congrArg (fun v => some (zi v)) (by unfold uu; rw [if_pos (by omega)]), rfl, rfl, rfl⟩
  · refine z_iload0 gi_234_4 ?_
    refine z_iload1 gi_234_5 ?_
    refine z_icmp_eqF gi_234_6 zr_0 (by omega) (by omega) ?_
    refine z_iload1 gi_234_9 ?_
    refine z_pushJ gp_234_10 ?_
    refine z_icmp_ne gi_234_11 (by omega) zr_1 (fun h2 => ?_) (fun h2 => ?_)
    · refine z_iload1 gi_234_19 ?_
      refine z_pushJ gp_234_20 ?_
      refine z_icmp_ne gi_234_21 (by omega) zr_2 (fun h3 => ?_) (fun h3 => ?_)
      · refine z_iload1 gi_234_34 ?_
        refine z_pushJ gp_234_35 ?_
        refine z_icmp_ne gi_234_36 (by omega) zr_3 (fun h4 => ?_) (fun h4 => ?_)
        · refine z_iload1 gi_234_44 ?_
          refine z_pushJ gp_234_45 ?_
          refine z_icmp_ne gi_234_47 (by omega) zr_6 (fun h5 => ?_) (fun h5 => ?_)
          · refine z_pushJ gp_234_60 ?_
            refine z_bret0 gi_234_61 gr_234 ?_
            exact ⟨congrArg (fun v => some (zi v)) (by unfold uu; rw [if_neg (by omega)]), rfl, rfl, rfl⟩
          · refine z_iload0 gi_234_50 ?_
            refine z_pushJ gp_234_51 ?_
            refine z_icmp_neT gi_234_53 zr_0 zr_7 (by decide) ?_
            refine z_pushJ gp_234_60 ?_
            refine z_bret0 gi_234_61 gr_234 ?_
            exact ⟨congrArg (fun v => some (zi v)) (by unfold uu; rw [if_neg (by omega)]), rfl, rfl, rfl⟩
        · refine z_iload0 gi_234_39 ?_
          refine z_pushJ gp_234_40 ?_
          refine z_icmp_eqF gi_234_41 zr_0 zr_5 (by decide) ?_
          refine z_iload1 gi_234_44 ?_
          refine z_pushJ gp_234_45 ?_
          refine z_icmp_neT gi_234_47 (by omega) zr_6 (by omega) ?_
          refine z_pushJ gp_234_60 ?_
          refine z_bret0 gi_234_61 gr_234 ?_
          exact ⟨congrArg (fun v => some (zi v)) (by unfold uu; rw [if_neg (by omega)]), rfl, rfl, rfl⟩
      · refine z_iload0 gi_234_24 ?_
        refine z_pushJ gp_234_25 ?_
        refine z_icmp_eqF gi_234_26 zr_0 zr_3 (by decide) ?_
        refine z_iload0 gi_234_29 ?_
        refine z_pushJ gp_234_30 ?_
        refine z_icmp_eqF gi_234_31 zr_0 zr_5 (by decide) ?_
        refine z_iload1 gi_234_34 ?_
        refine z_pushJ gp_234_35 ?_
        refine z_icmp_neT gi_234_36 (by omega) zr_3 (by omega) ?_
        refine z_iload1 gi_234_44 ?_
        refine z_pushJ gp_234_45 ?_
        refine z_icmp_neT gi_234_47 (by omega) zr_6 (by omega) ?_
        refine z_pushJ gp_234_60 ?_
        refine z_bret0 gi_234_61 gr_234 ?_
        exact ⟨congrArg (fun v => some (zi v)) (by unfold uu; rw [if_neg (by omega)]), rfl, rfl, rfl⟩
    · refine z_iload0 gi_234_14 ?_
      refine z_pushJ gp_234_15 ?_
      refine z_icmp_eqF gi_234_16 zr_0 zr_4 (by decide) ?_
      refine z_iload1 gi_234_19 ?_
      refine z_pushJ gp_234_20 ?_
      refine z_icmp_neT gi_234_21 (by omega) zr_2 (by omega) ?_
      refine z_iload1 gi_234_34 ?_
      refine z_pushJ gp_234_35 ?_
      refine z_icmp_neT gi_234_36 (by omega) zr_3 (by omega) ?_
      refine z_iload1 gi_234_44 ?_
      refine z_pushJ gp_234_45 ?_
      refine z_icmp_neT gi_234_47 (by omega) zr_6 (by omega) ?_
      refine z_pushJ gp_234_60 ?_
      refine z_bret0 gi_234_61 gr_234 ?_
      exact ⟨congrArg (fun v => some (zi v)) (by unfold uu; rw [if_neg (by omega)]), rfl, rfl, rfl⟩
theorem underR_1 {X : Nat × (Nat → Int32)} {d : Nat} {J M : zA} {R : zR} {k : Int} (hk : 0 ≤ k ∧ k ≤ 7) : zW X (d + 2) 234 0 (gEn 234 [(zi 1), (zi k)]) [] J M R (zPu (uu 1 k) J M R) := by
  show zW _ _ _ _ [some (zi 1), some (zi k)] _ _ _ _ _
  refine z_iload1 gi_234_0 ?_
  refine z_if_eq gi_234_1 (by omega) (fun h1 => ?_) (fun h1 => ?_)
  · refine z_pushJ gp_234_56 ?_
    refine z_goto gi_234_57 ?_
    refine z_bret1 gi_234_61 gr_234 ?_
    exact ⟨congrArg (fun v => some (zi v)) (by unfold uu; rw [if_pos (by omega)]), rfl, rfl, rfl⟩
  · refine z_iload0 gi_234_4 ?_
    refine z_iload1 gi_234_5 ?_
    refine z_icmp_eq gi_234_6 zr_1 (by omega) (fun h2 => ?_) (fun h2 => ?_)
    · refine z_pushJ gp_234_56 ?_
      refine z_goto gi_234_57 ?_
      refine z_bret1 gi_234_61 gr_234 ?_
      exact ⟨congrArg (fun v => some (zi v)) (by unfold uu; rw [if_pos (by omega)]), rfl, rfl, rfl⟩
    · refine z_iload1 gi_234_9 ?_
      refine z_pushJ gp_234_10 ?_
      refine z_icmp_neT gi_234_11 (by omega) zr_1 (by omega) ?_
      refine z_iload1 gi_234_19 ?_
      refine z_pushJ gp_234_20 ?_
      refine z_icmp_ne gi_234_21 (by omega) zr_2 (fun h3 => ?_) (fun h3 => ?_)
      · refine z_iload1 gi_234_34 ?_
        refine z_pushJ gp_234_35 ?_
        refine z_icmp_ne gi_234_36 (by omega) zr_3 (fun h4 => ?_) (fun h4 => ?_)
        · refine z_iload1 gi_234_44 ?_
          refine z_pushJ gp_234_45 ?_
          refine z_icmp_ne gi_234_47 (by omega) zr_6 (fun h5 => ?_) (fun h5 => ?_)
          · refine z_pushJ gp_234_60 ?_
            refine z_bret0 gi_234_61 gr_234 ?_
            exact ⟨congrArg (fun v => some (zi v)) (by unfold uu; rw [if_neg (by omega)]), rfl, rfl, rfl⟩
          · refine z_iload0 gi_234_50 ?_
            refine z_pushJ gp_234_51 ?_
            refine z_icmp_neT gi_234_53 zr_1 zr_7 (by decide) ?_
            refine z_pushJ gp_234_60 ?_
            refine z_bret0 gi_234_61 gr_234 ?_
            exact ⟨congrArg (fun v => some (zi v)) (by unfold uu; rw [if_neg (by omega)]), rfl, rfl, rfl⟩
        · refine z_iload0 gi_234_39 ?_
          refine z_pushJ gp_234_40 ?_
          refine z_icmp_eqF gi_234_41 zr_1 zr_5 (by decide) ?_
          refine z_iload1 gi_234_44 ?_
          refine z_pushJ gp_234_45 ?_
          refine z_icmp_neT gi_234_47 (by omega) zr_6 (by omega) ?_
          refine z_pushJ gp_234_60 ?_
          refine z_bret0 gi_234_61 gr_234 ?_
          exact ⟨congrArg (fun v => some (zi v)) (by unfold uu; rw [if_neg (by omega)]), rfl, rfl, rfl⟩
      · refine z_iload0 gi_234_24 ?_
        refine z_pushJ gp_234_25 ?_
        refine z_icmp_eqF gi_234_26 zr_1 zr_3 (by decide) ?_
        refine z_iload0 gi_234_29 ?_
        refine z_pushJ gp_234_30 ?_
        refine z_icmp_eqF gi_234_31 zr_1 zr_5 (by decide) ?_
        refine z_iload1 gi_234_34 ?_
        refine z_pushJ gp_234_35 ?_
        refine z_icmp_neT gi_234_36 (by omega) zr_3 (by omega) ?_
        refine z_iload1 gi_234_44 ?_
        refine z_pushJ gp_234_45 ?_
        refine z_icmp_neT gi_234_47 (by omega) zr_6 (by omega) ?_
        refine z_pushJ gp_234_60 ?_
        refine z_bret0 gi_234_61 gr_234 ?_
        exact ⟨congrArg (fun v => some (zi v)) (by unfold uu; rw [if_neg (by omega)]), rfl, rfl, rfl⟩
theorem underR_2 {X : Nat × (Nat → Int32)} {d : Nat} {J M : zA} {R : zR} {k : Int} (hk : 0 ≤ k ∧ k ≤ 7) : zW X (d + 2) 234 0 (gEn 234 [(zi 2), (zi k)]) [] J M R (zPu (uu 2 k) J M R) := by
  show zW _ _ _ _ [some (zi 2), some (zi k)] _ _ _ _ _
  refine z_iload1 gi_234_0 ?_
  refine z_if_eq gi_234_1 (by omega) (fun h1 => ?_) (fun h1 => ?_)
  · refine z_pushJ gp_234_56 ?_
    refine z_goto gi_234_57 ?_
    refine z_bret1 gi_234_61 gr_234 ?_
    exact ⟨congrArg (fun v => some (zi v)) (by unfold uu; rw [if_pos (by omega)]), rfl, rfl, rfl⟩
  · refine z_iload0 gi_234_4 ?_
    refine z_iload1 gi_234_5 ?_
    refine z_icmp_eq gi_234_6 zr_2 (by omega) (fun h2 => ?_) (fun h2 => ?_)
    · refine z_pushJ gp_234_56 ?_
      refine z_goto gi_234_57 ?_
      refine z_bret1 gi_234_61 gr_234 ?_
      exact ⟨congrArg (fun v => some (zi v)) (by unfold uu; rw [if_pos (by omega)]), rfl, rfl, rfl⟩
    · refine z_iload1 gi_234_9 ?_
      refine z_pushJ gp_234_10 ?_
      refine z_icmp_ne gi_234_11 (by omega) zr_1 (fun h3 => ?_) (fun h3 => ?_)
      · refine z_iload1 gi_234_19 ?_
        refine z_pushJ gp_234_20 ?_
        refine z_icmp_ne gi_234_21 (by omega) zr_2 (fun h4 => ?_) (fun h4 => ?_)
        · refine z_iload1 gi_234_34 ?_
          refine z_pushJ gp_234_35 ?_
          refine z_icmp_ne gi_234_36 (by omega) zr_3 (fun h5 => ?_) (fun h5 => ?_)
          · refine z_iload1 gi_234_44 ?_
            refine z_pushJ gp_234_45 ?_
            refine z_icmp_ne gi_234_47 (by omega) zr_6 (fun h6 => ?_) (fun h6 => ?_)
            · refine z_pushJ gp_234_60 ?_
              refine z_bret0 gi_234_61 gr_234 ?_
              exact ⟨congrArg (fun v => some (zi v)) (by unfold uu; rw [if_neg (by omega)]), rfl, rfl, rfl⟩
            · refine z_iload0 gi_234_50 ?_
              refine z_pushJ gp_234_51 ?_
              refine z_icmp_neT gi_234_53 zr_2 zr_7 (by decide) ?_
              refine z_pushJ gp_234_60 ?_
              refine z_bret0 gi_234_61 gr_234 ?_
              exact ⟨congrArg (fun v => some (zi v)) (by unfold uu; rw [if_neg (by omega)]), rfl, rfl, rfl⟩
          · refine z_iload0 gi_234_39 ?_
            refine z_pushJ gp_234_40 ?_
            refine z_icmp_eqF gi_234_41 zr_2 zr_5 (by decide) ?_
            refine z_iload1 gi_234_44 ?_
            refine z_pushJ gp_234_45 ?_
            refine z_icmp_neT gi_234_47 (by omega) zr_6 (by omega) ?_
            refine z_pushJ gp_234_60 ?_
            refine z_bret0 gi_234_61 gr_234 ?_
            exact ⟨congrArg (fun v => some (zi v)) (by unfold uu; rw [if_neg (by omega)]), rfl, rfl, rfl⟩
        · refine z_iload0 gi_234_24 ?_
          refine z_pushJ gp_234_25 ?_
          refine z_icmp_eqF gi_234_26 zr_2 zr_3 (by decide) ?_
          refine z_iload0 gi_234_29 ?_
          refine z_pushJ gp_234_30 ?_
          refine z_icmp_eqF gi_234_31 zr_2 zr_5 (by decide) ?_
          refine z_iload1 gi_234_34 ?_
          refine z_pushJ gp_234_35 ?_
          refine z_icmp_neT gi_234_36 (by omega) zr_3 (by omega) ?_
          refine z_iload1 gi_234_44 ?_
          refine z_pushJ gp_234_45 ?_
          refine z_icmp_neT gi_234_47 (by omega) zr_6 (by omega) ?_
          refine z_pushJ gp_234_60 ?_
          refine z_bret0 gi_234_61 gr_234 ?_
          exact ⟨congrArg (fun v => some (zi v)) (by unfold uu; rw [if_neg (by omega)]), rfl, rfl, rfl⟩
      · refine z_iload0 gi_234_14 ?_
        refine z_pushJ gp_234_15 ?_
        refine z_icmp_eqF gi_234_16 zr_2 zr_4 (by decide) ?_
        refine z_iload1 gi_234_19 ?_
        refine z_pushJ gp_234_20 ?_
        refine z_icmp_neT gi_234_21 (by omega) zr_2 (by omega) ?_
        refine z_iload1 gi_234_34 ?_
        refine z_pushJ gp_234_35 ?_
        refine z_icmp_neT gi_234_36 (by omega) zr_3 (by omega) ?_
        refine z_iload1 gi_234_44 ?_
        refine z_pushJ gp_234_45 ?_
        refine z_icmp_neT gi_234_47 (by omega) zr_6 (by omega) ?_
        refine z_pushJ gp_234_60 ?_
        refine z_bret0 gi_234_61 gr_234 ?_
        exact ⟨congrArg (fun v => some (zi v)) (by unfold uu; rw [if_neg (by omega)]), rfl, rfl, rfl⟩
theorem underR_3 {X : Nat × (Nat → Int32)} {d : Nat} {J M : zA} {R : zR} {k : Int} (hk : 0 ≤ k ∧ k ≤ 7) : zW X (d + 2) 234 0 (gEn 234 [(zi 3), (zi k)]) [] J M R (zPu (uu 3 k) J M R) := by
  show zW _ _ _ _ [some (zi 3), some (zi k)] _ _ _ _ _
  refine z_iload1 gi_234_0 ?_
  refine z_if_eq gi_234_1 (by omega) (fun h1 => ?_) (fun h1 => ?_)
  · refine z_pushJ gp_234_56 ?_
    refine z_goto gi_234_57 ?_
    refine z_bret1 gi_234_61 gr_234 ?_
    exact ⟨congrArg (fun v => some (zi v)) (by unfold uu; rw [if_pos (by omega)]), rfl, rfl, rfl⟩
  · refine z_iload0 gi_234_4 ?_
    refine z_iload1 gi_234_5 ?_
    refine z_icmp_eq gi_234_6 zr_3 (by omega) (fun h2 => ?_) (fun h2 => ?_)
    · refine z_pushJ gp_234_56 ?_
      refine z_goto gi_234_57 ?_
      refine z_bret1 gi_234_61 gr_234 ?_
      exact ⟨congrArg (fun v => some (zi v)) (by unfold uu; rw [if_pos (by omega)]), rfl, rfl, rfl⟩
    · refine z_iload1 gi_234_9 ?_
      refine z_pushJ gp_234_10 ?_
      refine z_icmp_ne gi_234_11 (by omega) zr_1 (fun h3 => ?_) (fun h3 => ?_)
      · refine z_iload1 gi_234_19 ?_
        refine z_pushJ gp_234_20 ?_
        refine z_icmp_ne gi_234_21 (by omega) zr_2 (fun h4 => ?_) (fun h4 => ?_)
        · refine z_iload1 gi_234_34 ?_
          refine z_pushJ gp_234_35 ?_
          refine z_icmp_ne gi_234_36 (by omega) zr_3 (fun h5 => ?_) (fun h5 => ?_)
          · refine z_iload1 gi_234_44 ?_
            refine z_pushJ gp_234_45 ?_
            refine z_icmp_ne gi_234_47 (by omega) zr_6 (fun h6 => ?_) (fun h6 => ?_)
            · refine z_pushJ gp_234_60 ?_
              refine z_bret0 gi_234_61 gr_234 ?_
              exact ⟨congrArg (fun v => some (zi v)) (by unfold uu; rw [if_neg (by omega)]), rfl, rfl, rfl⟩
            · refine z_iload0 gi_234_50 ?_
              refine z_pushJ gp_234_51 ?_
              refine z_icmp_neT gi_234_53 zr_3 zr_7 (by decide) ?_
              refine z_pushJ gp_234_60 ?_
              refine z_bret0 gi_234_61 gr_234 ?_
              exact ⟨congrArg (fun v => some (zi v)) (by unfold uu; rw [if_neg (by omega)]), rfl, rfl, rfl⟩
          · refine z_iload0 gi_234_39 ?_
            refine z_pushJ gp_234_40 ?_
            refine z_icmp_eqF gi_234_41 zr_3 zr_5 (by decide) ?_
            refine z_iload1 gi_234_44 ?_
            refine z_pushJ gp_234_45 ?_
            refine z_icmp_neT gi_234_47 (by omega) zr_6 (by omega) ?_
            refine z_pushJ gp_234_60 ?_
            refine z_bret0 gi_234_61 gr_234 ?_
            exact ⟨congrArg (fun v => some (zi v)) (by unfold uu; rw [if_neg (by omega)]), rfl, rfl, rfl⟩
        · refine z_iload0 gi_234_24 ?_
          refine z_pushJ gp_234_25 ?_
          refine z_icmp_eqT gi_234_26 zr_3 zr_3 (by decide) ?_
          refine z_pushJ gp_234_56 ?_
          refine z_goto gi_234_57 ?_
          refine z_bret1 gi_234_61 gr_234 ?_
          exact ⟨congrArg (fun v => some (zi v)) (by unfold uu; rw [if_pos (by omega)]), rfl, rfl, rfl⟩
      · refine z_iload0 gi_234_14 ?_
        refine z_pushJ gp_234_15 ?_
        refine z_icmp_eqF gi_234_16 zr_3 zr_4 (by decide) ?_
        refine z_iload1 gi_234_19 ?_
        refine z_pushJ gp_234_20 ?_
        refine z_icmp_neT gi_234_21 (by omega) zr_2 (by omega) ?_
        refine z_iload1 gi_234_34 ?_
        refine z_pushJ gp_234_35 ?_
        refine z_icmp_neT gi_234_36 (by omega) zr_3 (by omega) ?_
        refine z_iload1 gi_234_44 ?_
        refine z_pushJ gp_234_45 ?_
        refine z_icmp_neT gi_234_47 (by omega) zr_6 (by omega) ?_
        refine z_pushJ gp_234_60 ?_
        refine z_bret0 gi_234_61 gr_234 ?_
        exact ⟨congrArg (fun v => some (zi v)) (by unfold uu; rw [if_neg (by omega)]), rfl, rfl, rfl⟩
theorem underR_4 {X : Nat × (Nat → Int32)} {d : Nat} {J M : zA} {R : zR} {k : Int} (hk : 0 ≤ k ∧ k ≤ 7) : zW X (d + 2) 234 0 (gEn 234 [(zi 4), (zi k)]) [] J M R (zPu (uu 4 k) J M R) := by
  show zW _ _ _ _ [some (zi 4), some (zi k)] _ _ _ _ _
  refine z_iload1 gi_234_0 ?_
  refine z_if_eq gi_234_1 (by omega) (fun h1 => ?_) (fun h1 => ?_)
  · refine z_pushJ gp_234_56 ?_
    refine z_goto gi_234_57 ?_
    refine z_bret1 gi_234_61 gr_234 ?_
    exact ⟨congrArg (fun v => some (zi v)) (by unfold uu; rw [if_pos (by omega)]), rfl, rfl, rfl⟩
  · refine z_iload0 gi_234_4 ?_
    refine z_iload1 gi_234_5 ?_
    refine z_icmp_eq gi_234_6 zr_4 (by omega) (fun h2 => ?_) (fun h2 => ?_)
    · refine z_pushJ gp_234_56 ?_
      refine z_goto gi_234_57 ?_
      refine z_bret1 gi_234_61 gr_234 ?_
      exact ⟨congrArg (fun v => some (zi v)) (by unfold uu; rw [if_pos (by omega)]), rfl, rfl, rfl⟩
    · refine z_iload1 gi_234_9 ?_
      refine z_pushJ gp_234_10 ?_
      refine z_icmp_ne gi_234_11 (by omega) zr_1 (fun h3 => ?_) (fun h3 => ?_)
      · refine z_iload1 gi_234_19 ?_
        refine z_pushJ gp_234_20 ?_
        refine z_icmp_ne gi_234_21 (by omega) zr_2 (fun h4 => ?_) (fun h4 => ?_)
        · refine z_iload1 gi_234_34 ?_
          refine z_pushJ gp_234_35 ?_
          refine z_icmp_ne gi_234_36 (by omega) zr_3 (fun h5 => ?_) (fun h5 => ?_)
          · refine z_iload1 gi_234_44 ?_
            refine z_pushJ gp_234_45 ?_
            refine z_icmp_ne gi_234_47 (by omega) zr_6 (fun h6 => ?_) (fun h6 => ?_)
            · refine z_pushJ gp_234_60 ?_
              refine z_bret0 gi_234_61 gr_234 ?_
              exact ⟨congrArg (fun v => some (zi v)) (by unfold uu; rw [if_neg (by omega)]), rfl, rfl, rfl⟩
            · refine z_iload0 gi_234_50 ?_
              refine z_pushJ gp_234_51 ?_
              refine z_icmp_neT gi_234_53 zr_4 zr_7 (by decide) ?_
              refine z_pushJ gp_234_60 ?_
              refine z_bret0 gi_234_61 gr_234 ?_
              exact ⟨congrArg (fun v => some (zi v)) (by unfold uu; rw [if_neg (by omega)]), rfl, rfl, rfl⟩
          · refine z_iload0 gi_234_39 ?_
            refine z_pushJ gp_234_40 ?_
            refine z_icmp_eqF gi_234_41 zr_4 zr_5 (by decide) ?_
            refine z_iload1 gi_234_44 ?_
            refine z_pushJ gp_234_45 ?_
            refine z_icmp_neT gi_234_47 (by omega) zr_6 (by omega) ?_
            refine z_pushJ gp_234_60 ?_
            refine z_bret0 gi_234_61 gr_234 ?_
            exact ⟨congrArg (fun v => some (zi v)) (by unfold uu; rw [if_neg (by omega)]), rfl, rfl, rfl⟩
        · refine z_iload0 gi_234_24 ?_
          refine z_pushJ gp_234_25 ?_
          refine z_icmp_eqF gi_234_26 zr_4 zr_3 (by decide) ?_
          refine z_iload0 gi_234_29 ?_
          refine z_pushJ gp_234_30 ?_
          refine z_icmp_eqF gi_234_31 zr_4 zr_5 (by decide) ?_
          refine z_iload1 gi_234_34 ?_
          refine z_pushJ gp_234_35 ?_
          refine z_icmp_neT gi_234_36 (by omega) zr_3 (by omega) ?_
          refine z_iload1 gi_234_44 ?_
          refine z_pushJ gp_234_45 ?_
          refine z_icmp_neT gi_234_47 (by omega) zr_6 (by omega) ?_
          refine z_pushJ gp_234_60 ?_
          refine z_bret0 gi_234_61 gr_234 ?_
          exact ⟨congrArg (fun v => some (zi v)) (by unfold uu; rw [if_neg (by omega)]), rfl, rfl, rfl⟩
      · refine z_iload0 gi_234_14 ?_
        refine z_pushJ gp_234_15 ?_
        refine z_icmp_eqT gi_234_16 zr_4 zr_4 (by decide) ?_
        refine z_pushJ gp_234_56 ?_
        refine z_goto gi_234_57 ?_
        refine z_bret1 gi_234_61 gr_234 ?_
        exact ⟨congrArg (fun v => some (zi v)) (by unfold uu; rw [if_pos (by omega)]), rfl, rfl, rfl⟩
theorem underR_5 {X : Nat × (Nat → Int32)} {d : Nat} {J M : zA} {R : zR} {k : Int} (hk : 0 ≤ k ∧ k ≤ 7) : zW X (d + 2) 234 0 (gEn 234 [(zi 5), (zi k)]) [] J M R (zPu (uu 5 k) J M R) := by
  show zW _ _ _ _ [some (zi 5), some (zi k)] _ _ _ _ _
  refine z_iload1 gi_234_0 ?_
  refine z_if_eq gi_234_1 (by omega) (fun h1 => ?_) (fun h1 => ?_)
  · refine z_pushJ gp_234_56 ?_
    refine z_goto gi_234_57 ?_
    refine z_bret1 gi_234_61 gr_234 ?_
    exact ⟨congrArg (fun v => some (zi v)) (by unfold uu; rw [if_pos (by omega)]), rfl, rfl, rfl⟩
  · refine z_iload0 gi_234_4 ?_
    refine z_iload1 gi_234_5 ?_
    refine z_icmp_eq gi_234_6 zr_5 (by omega) (fun h2 => ?_) (fun h2 => ?_)
    · refine z_pushJ gp_234_56 ?_
      refine z_goto gi_234_57 ?_
      refine z_bret1 gi_234_61 gr_234 ?_
      exact ⟨congrArg (fun v => some (zi v)) (by unfold uu; rw [if_pos (by omega)]), rfl, rfl, rfl⟩
    · refine z_iload1 gi_234_9 ?_
      refine z_pushJ gp_234_10 ?_
      refine z_icmp_ne gi_234_11 (by omega) zr_1 (fun h3 => ?_) (fun h3 => ?_)
      · refine z_iload1 gi_234_19 ?_
        refine z_pushJ gp_234_20 ?_
        refine z_icmp_ne gi_234_21 (by omega) zr_2 (fun h4 => ?_) (fun h4 => ?_)
        · refine z_iload1 gi_234_34 ?_
          refine z_pushJ gp_234_35 ?_
          refine z_icmp_ne gi_234_36 (by omega) zr_3 (fun h5 => ?_) (fun h5 => ?_)
          · refine z_iload1 gi_234_44 ?_
            refine z_pushJ gp_234_45 ?_
            refine z_icmp_ne gi_234_47 (by omega) zr_6 (fun h6 => ?_) (fun h6 => ?_)
            · refine z_pushJ gp_234_60 ?_
              refine z_bret0 gi_234_61 gr_234 ?_
              exact ⟨congrArg (fun v => some (zi v)) (by unfold uu; rw [if_neg (by omega)]), rfl, rfl, rfl⟩
            · refine z_iload0 gi_234_50 ?_
              refine z_pushJ gp_234_51 ?_
              refine z_icmp_neT gi_234_53 zr_5 zr_7 (by decide) ?_
              refine z_pushJ gp_234_60 ?_
              refine z_bret0 gi_234_61 gr_234 ?_
              exact ⟨congrArg (fun v => some (zi v)) (by unfold uu; rw [if_neg (by omega)]), rfl, rfl, rfl⟩
          · refine z_iload0 gi_234_39 ?_
            refine z_pushJ gp_234_40 ?_
            refine z_icmp_eqT gi_234_41 zr_5 zr_5 (by decide) ?_
            refine z_pushJ gp_234_56 ?_
            refine z_goto gi_234_57 ?_
            refine z_bret1 gi_234_61 gr_234 ?_
            exact ⟨congrArg (fun v => some (zi v)) (by unfold uu; rw [if_pos (by omega)]), rfl, rfl, rfl⟩
        · refine z_iload0 gi_234_24 ?_
          refine z_pushJ gp_234_25 ?_
          refine z_icmp_eqF gi_234_26 zr_5 zr_3 (by decide) ?_
          refine z_iload0 gi_234_29 ?_
          refine z_pushJ gp_234_30 ?_
          refine z_icmp_eqT gi_234_31 zr_5 zr_5 (by decide) ?_
          refine z_pushJ gp_234_56 ?_
          refine z_goto gi_234_57 ?_
          refine z_bret1 gi_234_61 gr_234 ?_
          exact ⟨congrArg (fun v => some (zi v)) (by unfold uu; rw [if_pos (by omega)]), rfl, rfl, rfl⟩
      · refine z_iload0 gi_234_14 ?_
        refine z_pushJ gp_234_15 ?_
        refine z_icmp_eqF gi_234_16 zr_5 zr_4 (by decide) ?_
        refine z_iload1 gi_234_19 ?_
        refine z_pushJ gp_234_20 ?_
        refine z_icmp_neT gi_234_21 (by omega) zr_2 (by omega) ?_
        refine z_iload1 gi_234_34 ?_
        refine z_pushJ gp_234_35 ?_
        refine z_icmp_neT gi_234_36 (by omega) zr_3 (by omega) ?_
        refine z_iload1 gi_234_44 ?_
        refine z_pushJ gp_234_45 ?_
        refine z_icmp_neT gi_234_47 (by omega) zr_6 (by omega) ?_
        refine z_pushJ gp_234_60 ?_
        refine z_bret0 gi_234_61 gr_234 ?_
        exact ⟨congrArg (fun v => some (zi v)) (by unfold uu; rw [if_neg (by omega)]), rfl, rfl, rfl⟩
theorem underR_6 {X : Nat × (Nat → Int32)} {d : Nat} {J M : zA} {R : zR} {k : Int} (hk : 0 ≤ k ∧ k ≤ 7) : zW X (d + 2) 234 0 (gEn 234 [(zi 6), (zi k)]) [] J M R (zPu (uu 6 k) J M R) := by
  show zW _ _ _ _ [some (zi 6), some (zi k)] _ _ _ _ _
  refine z_iload1 gi_234_0 ?_
  refine z_if_eq gi_234_1 (by omega) (fun h1 => ?_) (fun h1 => ?_)
  · refine z_pushJ gp_234_56 ?_
    refine z_goto gi_234_57 ?_
    refine z_bret1 gi_234_61 gr_234 ?_
    exact ⟨congrArg (fun v => some (zi v)) (by unfold uu; rw [if_pos (by omega)]), rfl, rfl, rfl⟩
  · refine z_iload0 gi_234_4 ?_
    refine z_iload1 gi_234_5 ?_
    refine z_icmp_eq gi_234_6 zr_6 (by omega) (fun h2 => ?_) (fun h2 => ?_)
    · refine z_pushJ gp_234_56 ?_
      refine z_goto gi_234_57 ?_
      refine z_bret1 gi_234_61 gr_234 ?_
      exact ⟨congrArg (fun v => some (zi v)) (by unfold uu; rw [if_pos (by omega)]), rfl, rfl, rfl⟩
    · refine z_iload1 gi_234_9 ?_
      refine z_pushJ gp_234_10 ?_
      refine z_icmp_ne gi_234_11 (by omega) zr_1 (fun h3 => ?_) (fun h3 => ?_)
      · refine z_iload1 gi_234_19 ?_
        refine z_pushJ gp_234_20 ?_
        refine z_icmp_ne gi_234_21 (by omega) zr_2 (fun h4 => ?_) (fun h4 => ?_)
        · refine z_iload1 gi_234_34 ?_
          refine z_pushJ gp_234_35 ?_
          refine z_icmp_ne gi_234_36 (by omega) zr_3 (fun h5 => ?_) (fun h5 => ?_)
          · refine z_iload1 gi_234_44 ?_
            refine z_pushJ gp_234_45 ?_
            refine z_icmp_ne gi_234_47 (by omega) zr_6 (fun h6 => ?_) (fun h6 => ?_)
            · refine z_pushJ gp_234_60 ?_
              refine z_bret0 gi_234_61 gr_234 ?_
              exact ⟨congrArg (fun v => some (zi v)) (by unfold uu; rw [if_neg (by omega)]), rfl, rfl, rfl⟩
            · refine z_iload0 gi_234_50 ?_
              refine z_pushJ gp_234_51 ?_
              refine z_icmp_neT gi_234_53 zr_6 zr_7 (by decide) ?_
              refine z_pushJ gp_234_60 ?_
              refine z_bret0 gi_234_61 gr_234 ?_
              exact ⟨congrArg (fun v => some (zi v)) (by unfold uu; rw [if_neg (by omega)]), rfl, rfl, rfl⟩
          · refine z_iload0 gi_234_39 ?_
            refine z_pushJ gp_234_40 ?_
            refine z_icmp_eqF gi_234_41 zr_6 zr_5 (by decide) ?_
            refine z_iload1 gi_234_44 ?_
            refine z_pushJ gp_234_45 ?_
            refine z_icmp_neT gi_234_47 (by omega) zr_6 (by omega) ?_
            refine z_pushJ gp_234_60 ?_
            refine z_bret0 gi_234_61 gr_234 ?_
            exact ⟨congrArg (fun v => some (zi v)) (by unfold uu; rw [if_neg (by omega)]), rfl, rfl, rfl⟩
        · refine z_iload0 gi_234_24 ?_
          refine z_pushJ gp_234_25 ?_
          refine z_icmp_eqF gi_234_26 zr_6 zr_3 (by decide) ?_
          refine z_iload0 gi_234_29 ?_
          refine z_pushJ gp_234_30 ?_
          refine z_icmp_eqF gi_234_31 zr_6 zr_5 (by decide) ?_
          refine z_iload1 gi_234_34 ?_
          refine z_pushJ gp_234_35 ?_
          refine z_icmp_neT gi_234_36 (by omega) zr_3 (by omega) ?_
          refine z_iload1 gi_234_44 ?_
          refine z_pushJ gp_234_45 ?_
          refine z_icmp_neT gi_234_47 (by omega) zr_6 (by omega) ?_
          refine z_pushJ gp_234_60 ?_
          refine z_bret0 gi_234_61 gr_234 ?_
          exact ⟨congrArg (fun v => some (zi v)) (by unfold uu; rw [if_neg (by omega)]), rfl, rfl, rfl⟩
      · refine z_iload0 gi_234_14 ?_
        refine z_pushJ gp_234_15 ?_
        refine z_icmp_eqF gi_234_16 zr_6 zr_4 (by decide) ?_
        refine z_iload1 gi_234_19 ?_
        refine z_pushJ gp_234_20 ?_
        refine z_icmp_neT gi_234_21 (by omega) zr_2 (by omega) ?_
        refine z_iload1 gi_234_34 ?_
        refine z_pushJ gp_234_35 ?_
        refine z_icmp_neT gi_234_36 (by omega) zr_3 (by omega) ?_
        refine z_iload1 gi_234_44 ?_
        refine z_pushJ gp_234_45 ?_
        refine z_icmp_neT gi_234_47 (by omega) zr_6 (by omega) ?_
        refine z_pushJ gp_234_60 ?_
        refine z_bret0 gi_234_61 gr_234 ?_
        exact ⟨congrArg (fun v => some (zi v)) (by unfold uu; rw [if_neg (by omega)]), rfl, rfl, rfl⟩
theorem underR_7 {X : Nat × (Nat → Int32)} {d : Nat} {J M : zA} {R : zR} {k : Int} (hk : 0 ≤ k ∧ k ≤ 7) : zW X (d + 2) 234 0 (gEn 234 [(zi 7), (zi k)]) [] J M R (zPu (uu 7 k) J M R) := by
  show zW _ _ _ _ [some (zi 7), some (zi k)] _ _ _ _ _
  refine z_iload1 gi_234_0 ?_
  refine z_if_eq gi_234_1 (by omega) (fun h1 => ?_) (fun h1 => ?_)
  · refine z_pushJ gp_234_56 ?_
    refine z_goto gi_234_57 ?_
    refine z_bret1 gi_234_61 gr_234 ?_
    exact ⟨congrArg (fun v => some (zi v)) (by unfold uu; rw [if_pos (by omega)]), rfl, rfl, rfl⟩
  · refine z_iload0 gi_234_4 ?_
    refine z_iload1 gi_234_5 ?_
    refine z_icmp_eq gi_234_6 zr_7 (by omega) (fun h2 => ?_) (fun h2 => ?_)
    · refine z_pushJ gp_234_56 ?_
      refine z_goto gi_234_57 ?_
      refine z_bret1 gi_234_61 gr_234 ?_
      exact ⟨congrArg (fun v => some (zi v)) (by unfold uu; rw [if_pos (by omega)]), rfl, rfl, rfl⟩
    · refine z_iload1 gi_234_9 ?_
      refine z_pushJ gp_234_10 ?_
      refine z_icmp_ne gi_234_11 (by omega) zr_1 (fun h3 => ?_) (fun h3 => ?_)
      · refine z_iload1 gi_234_19 ?_
        refine z_pushJ gp_234_20 ?_
        refine z_icmp_ne gi_234_21 (by omega) zr_2 (fun h4 => ?_) (fun h4 => ?_)
        · refine z_iload1 gi_234_34 ?_
          refine z_pushJ gp_234_35 ?_
          refine z_icmp_ne gi_234_36 (by omega) zr_3 (fun h5 => ?_) (fun h5 => ?_)
          · refine z_iload1 gi_234_44 ?_
            refine z_pushJ gp_234_45 ?_
            refine z_icmp_ne gi_234_47 (by omega) zr_6 (fun h6 => ?_) (fun h6 => ?_)
            · refine z_pushJ gp_234_60 ?_
              refine z_bret0 gi_234_61 gr_234 ?_
              exact ⟨congrArg (fun v => some (zi v)) (by unfold uu; rw [if_neg (by omega)]), rfl, rfl, rfl⟩
            · refine z_iload0 gi_234_50 ?_
              refine z_pushJ gp_234_51 ?_
              refine z_icmp_neF gi_234_53 zr_7 zr_7 (by decide) ?_
              refine z_pushJ gp_234_56 ?_
              refine z_goto gi_234_57 ?_
              refine z_bret1 gi_234_61 gr_234 ?_
              exact ⟨congrArg (fun v => some (zi v)) (by unfold uu; rw [if_pos (by omega)]), rfl, rfl, rfl⟩
          · refine z_iload0 gi_234_39 ?_
            refine z_pushJ gp_234_40 ?_
            refine z_icmp_eqF gi_234_41 zr_7 zr_5 (by decide) ?_
            refine z_iload1 gi_234_44 ?_
            refine z_pushJ gp_234_45 ?_
            refine z_icmp_neT gi_234_47 (by omega) zr_6 (by omega) ?_
            refine z_pushJ gp_234_60 ?_
            refine z_bret0 gi_234_61 gr_234 ?_
            exact ⟨congrArg (fun v => some (zi v)) (by unfold uu; rw [if_neg (by omega)]), rfl, rfl, rfl⟩
        · refine z_iload0 gi_234_24 ?_
          refine z_pushJ gp_234_25 ?_
          refine z_icmp_eqF gi_234_26 zr_7 zr_3 (by decide) ?_
          refine z_iload0 gi_234_29 ?_
          refine z_pushJ gp_234_30 ?_
          refine z_icmp_eqF gi_234_31 zr_7 zr_5 (by decide) ?_
          refine z_iload1 gi_234_34 ?_
          refine z_pushJ gp_234_35 ?_
          refine z_icmp_neT gi_234_36 (by omega) zr_3 (by omega) ?_
          refine z_iload1 gi_234_44 ?_
          refine z_pushJ gp_234_45 ?_
          refine z_icmp_neT gi_234_47 (by omega) zr_6 (by omega) ?_
          refine z_pushJ gp_234_60 ?_
          refine z_bret0 gi_234_61 gr_234 ?_
          exact ⟨congrArg (fun v => some (zi v)) (by unfold uu; rw [if_neg (by omega)]), rfl, rfl, rfl⟩
      · refine z_iload0 gi_234_14 ?_
        refine z_pushJ gp_234_15 ?_
        refine z_icmp_eqF gi_234_16 zr_7 zr_4 (by decide) ?_
        refine z_iload1 gi_234_19 ?_
        refine z_pushJ gp_234_20 ?_
        refine z_icmp_neT gi_234_21 (by omega) zr_2 (by omega) ?_
        refine z_iload1 gi_234_34 ?_
        refine z_pushJ gp_234_35 ?_
        refine z_icmp_neT gi_234_36 (by omega) zr_3 (by omega) ?_
        refine z_iload1 gi_234_44 ?_
        refine z_pushJ gp_234_45 ?_
        refine z_icmp_neT gi_234_47 (by omega) zr_6 (by omega) ?_
        refine z_pushJ gp_234_60 ?_
        refine z_bret0 gi_234_61 gr_234 ?_
        exact ⟨congrArg (fun v => some (zi v)) (by unfold uu; rw [if_neg (by omega)]), rfl, rfl, rfl⟩
theorem underR {X : Nat × (Nat → Int32)} {d : Nat} {J M : zA} {R : zR} {c k : Int} (hc : 0 ≤ c ∧ c ≤ 7) (hk : 0 ≤ k ∧ k ≤ 7) : zW X (d + 2) 234 0 (gEn 234 [(zi c), (zi k)]) [] J M R (zPu (uu c k) J M R) := by
  have h7 : c = 0 ∨ c = 1 ∨ c = 2 ∨ c = 3 ∨ c = 4 ∨ c = 5 ∨ c = 6 ∨ c = 7 := by omega
  rcases h7 with rfl | rfl | rfl | rfl | rfl | rfl | rfl | rfl
  · exact underR_0 hk
  · exact underR_1 hk
  · exact underR_2 hk
  · exact underR_3 hk
  · exact underR_4 hk
  · exact underR_5 hk
  · exact underR_6 hk
  · exact underR_7 hk
theorem st_taken_n {X : Nat × (Nat → Int32)} {d : Nat} {J M : zA} {R : zR} {s k : Int} (hr : Rel X J M R) (hs : -2147483648 ≤ s ∧ s < 2147483648) (hk : -2147483648 ≤ k ∧ k < 2147483648) (hs6 : ¬ (0 ≤ s ∧ s < 6)) : zW X (d + 20) 141 0 (gEn 141 [(.ref 0), (zi s), (zi k)]) [] J M R (stP X (d + 20) 255 [(zi s), (zi k)]) := by
  have hr0 := hr
  obtain ⟨hR, hG, hY, hD, hP, hC, hAc, hS, hTp, hX, hW⟩ := hr0
  have hRr : zRoR R := zRoR_of hR
  show zW _ _ _ _ [some (.ref 0), some (zi s), some (zi k), none, none] _ _ _ _ _
  refine z_iload1 gi_141_0 ?_
  refine z_cS1 gi_141_1 (Nat.le_of_ble_eq_true rfl) gc_143_I ?_
  refine z_iload0 gi_143_0 ?_
  refine z_if_lt gi_143_1 (by omega) (fun h1 => ?_) (fun h1 => ?_)
  · refine z_pushJ gp_143_14 ?_
    refine z_bret0 gi_143_15 gr_143 ?_
    show zW _ _ _ _ _ _ _ _ _ _
    refine z_if_eqT gi_141_4 zr_0 (by decide) ?_
    refine z_pushJ gp_141_14 ?_
    refine z_iret gi_141_15 gr_141 ?_
    refine ⟨_, rfl, ?_⟩
    show zW _ _ _ _ [some (.ref 50), some (zi s), some (zi k)] _ _ _ _ _
    refine z_iload1 gi_255_0 ?_
    refine z_cS1 gi_255_1 (Nat.le_of_ble_eq_true rfl) gc_248_I ?_
    refine z_iload0 gi_248_0 ?_
    refine z_pushJ gp_248_1 ?_
    refine z_pushJ gp_248_2 ?_
    refine z_cS3 gi_248_3 (Nat.le_of_ble_eq_true rfl) gc_148_III ?_
    refine z_iload0 gi_148_0 ?_
    refine z_iload1 gi_148_1 ?_
    refine z_icmp_ltT gi_148_2 (by omega) zr_0 (by omega) ?_
    refine z_pushJ gp_148_14 ?_
    refine z_bret0 gi_148_15 gr_148 ?_
    show zW _ _ _ _ _ _ _ _ _ _
    refine z_bret0 gi_248_6 gr_248 ?_
    show zW _ _ _ _ _ _ _ _ _ _
    refine z_if_eqT gi_255_4 zr_0 (by decide) ?_
    refine z_pushJ gp_255_17 ?_
    refine z_iret gi_255_18 gr_255 ?_
    refine ⟨?_, ?_⟩
    · first | rfl | exact congrArg (fun v => some (zi v)) (by omega) | (exfalso; omega)
    · exact hr
  · refine z_iload0 gi_143_4 ?_
    refine z_pushJ gp_143_5 ?_
    refine z_icmp_geT gi_143_7 (by omega) zr_6 (by omega) ?_
    refine z_pushJ gp_143_14 ?_
    refine z_bret0 gi_143_15 gr_143 ?_
    show zW _ _ _ _ _ _ _ _ _ _
    refine z_if_eqT gi_141_4 zr_0 (by decide) ?_
    refine z_pushJ gp_141_14 ?_
    refine z_iret gi_141_15 gr_141 ?_
    refine ⟨_, rfl, ?_⟩
    show zW _ _ _ _ [some (.ref 50), some (zi s), some (zi k)] _ _ _ _ _
    refine z_iload1 gi_255_0 ?_
    refine z_cS1 gi_255_1 (Nat.le_of_ble_eq_true rfl) gc_248_I ?_
    refine z_iload0 gi_248_0 ?_
    refine z_pushJ gp_248_1 ?_
    refine z_pushJ gp_248_2 ?_
    refine z_cS3 gi_248_3 (Nat.le_of_ble_eq_true rfl) gc_148_III ?_
    refine z_iload0 gi_148_0 ?_
    refine z_iload1 gi_148_1 ?_
    refine z_icmp_ltF gi_148_2 (by omega) zr_0 (by omega) ?_
    refine z_iload0 gi_148_5 ?_
    refine z_iload2 gi_148_6 ?_
    refine z_icmp_gtT gi_148_7 (by omega) zr_5 (by omega) ?_
    refine z_pushJ gp_148_14 ?_
    refine z_bret0 gi_148_15 gr_148 ?_
    show zW _ _ _ _ _ _ _ _ _ _
    refine z_bret0 gi_248_6 gr_248 ?_
    show zW _ _ _ _ _ _ _ _ _ _
    refine z_if_eqT gi_255_4 zr_0 (by decide) ?_
    refine z_pushJ gp_255_17 ?_
    refine z_iret gi_255_18 gr_255 ?_
    refine ⟨?_, ?_⟩
    · first | rfl | exact congrArg (fun v => some (zi v)) (by omega) | (exfalso; omega)
    · exact hr
theorem st_taken_0 {X : Nat × (Nat → Int32)} {d : Nat} {J M : zA} {R : zR} {s k : Int} (hr : Rel X J M R) (hs : -2147483648 ≤ s ∧ s < 2147483648) (hk : -2147483648 ≤ k ∧ k < 2147483648) (hs6 : 0 ≤ s ∧ s < 6) (hh : J (38 + 2 * s.toNat) 0 = 0) : zW X (d + 20) 141 0 (gEn 141 [(.ref 0), (zi s), (zi k)]) [] J M R (stP X (d + 20) 255 [(zi s), (zi k)]) := by
  have hr0 := hr
  obtain ⟨hR, hG, hY, hD, hP, hC, hAc, hS, hTp, hX, hW⟩ := hr0
  have hRr : zRoR R := zRoR_of hR
  have hA0 := hAc
  obtain ⟨a1, a2, a3, a4, a5, a6⟩ := hA0
  have e83 : J 83 s = -1 := (hS s hs6.1 hs6.2).1.symm.trans (cH_0 hh)
  have s3 : 0 ≤ J (38 + 2 * s.toNat) 2 ∧ J (38 + 2 * s.toNat) 2 ≤ 4 := (hS s hs6.1 hs6.2).2.2.1
  have s4 : 0 ≤ J (38 + 2 * s.toNat) 3 ∧ J (38 + 2 * s.toNat) 3 ≤ 60 := (hS s hs6.1 hs6.2).2.2.2.1
  show zW _ _ _ _ [some (.ref 0), some (zi s), some (zi k), none, none] _ _ _ _ _
  refine z_iload1 gi_141_0 ?_
  refine z_cS1 gi_141_1 (Nat.le_of_ble_eq_true rfl) gc_143_I ?_
  refine z_iload0 gi_143_0 ?_
  refine z_if_ltF gi_143_1 (by omega) (by omega) ?_
  refine z_iload0 gi_143_4 ?_
  refine z_pushJ gp_143_5 ?_
  refine z_icmp_geF gi_143_7 (by omega) zr_6 (by omega) ?_
  refine z_pushJ gp_143_10 ?_
  refine z_goto gi_143_11 ?_
  refine z_bret1 gi_143_15 gr_143 ?_
  show zW _ _ _ _ _ _ _ _ _ _
  refine z_if_eqF gi_141_4 zr_1 (by decide) ?_
  refine z_iload2 gi_141_7 ?_
  refine z_cS1 gi_141_8 (Nat.le_of_ble_eq_true rfl) gc_1_I ?_
  refine z_iload0 gi_1_0 ?_
  refine z_if_lt gi_1_1 (by omega) (fun h1 => ?_) (fun h1 => ?_)
  · refine z_pushJ gp_1_14 ?_
    refine z_bret0 gi_1_15 gr_1 ?_
    show zW _ _ _ _ _ _ _ _ _ _
    refine z_if_neF gi_141_11 zr_0 (by decide) ?_
    refine z_pushJ gp_141_14 ?_
    refine z_iret gi_141_15 gr_141 ?_
    refine ⟨_, rfl, ?_⟩
    show zW _ _ _ _ [some (.ref 50), some (zi s), some (zi k)] _ _ _ _ _
    refine z_iload1 gi_255_0 ?_
    refine z_cS1 gi_255_1 (Nat.le_of_ble_eq_true rfl) gc_248_I ?_
    refine z_iload0 gi_248_0 ?_
    refine z_pushJ gp_248_1 ?_
    refine z_pushJ gp_248_2 ?_
    refine z_cS3 gi_248_3 (Nat.le_of_ble_eq_true rfl) gc_148_III ?_
    refine z_iload0 gi_148_0 ?_
    refine z_iload1 gi_148_1 ?_
    refine z_icmp_ltF gi_148_2 (by omega) zr_0 (by omega) ?_
    refine z_iload0 gi_148_5 ?_
    refine z_iload2 gi_148_6 ?_
    refine z_icmp_gtF gi_148_7 (by omega) zr_5 (by omega) ?_
    refine z_pushJ gp_148_10 ?_
    refine z_goto gi_148_11 ?_
    refine z_bret1 gi_148_15 gr_148 ?_
    show zW _ _ _ _ _ _ _ _ _ _
    refine z_bret1 gi_248_6 gr_248 ?_
    show zW _ _ _ _ _ _ _ _ _ _
    refine z_if_eqF gi_255_4 zr_1 (by decide) ?_
    refine z_iload2 gi_255_7 ?_
    refine z_pushJ gp_255_8 ?_
    refine z_pushJ gp_255_9 ?_
    refine z_cS3 gi_255_11 (Nat.le_of_ble_eq_true rfl) gc_148_III ?_
    refine z_iload0 gi_148_0 ?_
    refine z_iload1 gi_148_1 ?_
    refine z_icmp_ltT gi_148_2 (by omega) zr_0 (by omega) ?_
    refine z_pushJ gp_148_14 ?_
    refine z_bret0 gi_148_15 gr_148 ?_
    show zW _ _ _ _ _ _ _ _ _ _
    refine z_if_neF gi_255_14 zr_0 (by decide) ?_
    refine z_pushJ gp_255_17 ?_
    refine z_iret gi_255_18 gr_255 ?_
    refine ⟨?_, ?_⟩
    · first | rfl | exact congrArg (fun v => some (zi v)) (by omega) | (exfalso; omega)
    · exact hr
  · refine z_iload0 gi_1_4 ?_
    refine z_pushJ gp_1_5 ?_
    refine z_icmp_ge gi_1_7 (by omega) zr_8 (fun h2 => ?_) (fun h2 => ?_)
    · refine z_pushJ gp_1_14 ?_
      refine z_bret0 gi_1_15 gr_1 ?_
      show zW _ _ _ _ _ _ _ _ _ _
      refine z_if_neF gi_141_11 zr_0 (by decide) ?_
      refine z_pushJ gp_141_14 ?_
      refine z_iret gi_141_15 gr_141 ?_
      refine ⟨_, rfl, ?_⟩
      show zW _ _ _ _ [some (.ref 50), some (zi s), some (zi k)] _ _ _ _ _
      refine z_iload1 gi_255_0 ?_
      refine z_cS1 gi_255_1 (Nat.le_of_ble_eq_true rfl) gc_248_I ?_
      refine z_iload0 gi_248_0 ?_
      refine z_pushJ gp_248_1 ?_
      refine z_pushJ gp_248_2 ?_
      refine z_cS3 gi_248_3 (Nat.le_of_ble_eq_true rfl) gc_148_III ?_
      refine z_iload0 gi_148_0 ?_
      refine z_iload1 gi_148_1 ?_
      refine z_icmp_ltF gi_148_2 (by omega) zr_0 (by omega) ?_
      refine z_iload0 gi_148_5 ?_
      refine z_iload2 gi_148_6 ?_
      refine z_icmp_gtF gi_148_7 (by omega) zr_5 (by omega) ?_
      refine z_pushJ gp_148_10 ?_
      refine z_goto gi_148_11 ?_
      refine z_bret1 gi_148_15 gr_148 ?_
      show zW _ _ _ _ _ _ _ _ _ _
      refine z_bret1 gi_248_6 gr_248 ?_
      show zW _ _ _ _ _ _ _ _ _ _
      refine z_if_eqF gi_255_4 zr_1 (by decide) ?_
      refine z_iload2 gi_255_7 ?_
      refine z_pushJ gp_255_8 ?_
      refine z_pushJ gp_255_9 ?_
      refine z_cS3 gi_255_11 (Nat.le_of_ble_eq_true rfl) gc_148_III ?_
      refine z_iload0 gi_148_0 ?_
      refine z_iload1 gi_148_1 ?_
      refine z_icmp_ltF gi_148_2 (by omega) zr_0 (by omega) ?_
      refine z_iload0 gi_148_5 ?_
      refine z_iload2 gi_148_6 ?_
      refine z_icmp_gtT gi_148_7 (by omega) zr_7 (by omega) ?_
      refine z_pushJ gp_148_14 ?_
      refine z_bret0 gi_148_15 gr_148 ?_
      show zW _ _ _ _ _ _ _ _ _ _
      refine z_if_neF gi_255_14 zr_0 (by decide) ?_
      refine z_pushJ gp_255_17 ?_
      refine z_iret gi_255_18 gr_255 ?_
      refine ⟨?_, ?_⟩
      · first | rfl | exact congrArg (fun v => some (zi v)) (by omega) | (exfalso; omega)
      · exact hr
    · refine z_pushJ gp_1_10 ?_
      refine z_goto gi_1_11 ?_
      refine z_bret1 gi_1_15 gr_1 ?_
      show zW _ _ _ _ _ _ _ _ _ _
      refine z_if_neT gi_141_11 zr_1 (by decide) ?_
      refine z_aload0 gi_141_16 ?_
      refine z_getR (r := 37) gi_141_17 gk_0 (hR _ rm_0_11) ?_
      refine z_iload1 gi_141_20 ?_
      refine z_aald (r := 38 + 2 * s.toNat) gi_141_21 rfl (by decide) (by omega) (rr_shelf hR (by omega)) ?_
      refine z_astore (ls1 := [some (.ref 0), some (zi s), some (zi k), some (.ref (38 + 2 * s.toNat)), none]) gi_141_22 rfl ?_
      refine z_aload3 gi_141_23 ?_
      refine z_callVi (As := []) (le := [some _]) gi_141_24 rfl (zk_shelf (by omega)) (Nat.le_of_ble_eq_true rfl) (Nat.le_of_ble_eq_true rfl) rfl ?_
      refine z_aload0 gi_62_0 ?_
      refine z_getI (v := 0) gi_62_1 (zk_shelf (by omega)) (hh) ?_
      refine z_if_neF gi_62_4 zr_0 (by decide) ?_
      refine z_pushJ gp_62_7 ?_
      refine z_goto gi_62_8 ?_
      refine z_bret1 gi_62_12 gr_62 ?_
      show zW _ _ _ _ _ _ _ _ _ _
      refine z_if_eqF gi_141_27 zr_1 (by decide) ?_
      refine z_pushJ gp_141_30 ?_
      refine z_iret rfl gr_141 ?_
      refine ⟨_, rfl, ?_⟩
      show zW _ _ _ _ [some (.ref 50), some (zi s), some (zi k)] _ _ _ _ _
      refine z_iload1 gi_255_0 ?_
      refine z_cS1 gi_255_1 (Nat.le_of_ble_eq_true rfl) gc_248_I ?_
      refine z_iload0 gi_248_0 ?_
      refine z_pushJ gp_248_1 ?_
      refine z_pushJ gp_248_2 ?_
      refine z_cS3 gi_248_3 (Nat.le_of_ble_eq_true rfl) gc_148_III ?_
      refine z_iload0 gi_148_0 ?_
      refine z_iload1 gi_148_1 ?_
      refine z_icmp_ltF gi_148_2 (by omega) zr_0 (by omega) ?_
      refine z_iload0 gi_148_5 ?_
      refine z_iload2 gi_148_6 ?_
      refine z_icmp_gtF gi_148_7 (by omega) zr_5 (by omega) ?_
      refine z_pushJ gp_148_10 ?_
      refine z_goto gi_148_11 ?_
      refine z_bret1 gi_148_15 gr_148 ?_
      show zW _ _ _ _ _ _ _ _ _ _
      refine z_bret1 gi_248_6 gr_248 ?_
      show zW _ _ _ _ _ _ _ _ _ _
      refine z_if_eqF gi_255_4 zr_1 (by decide) ?_
      refine z_iload2 gi_255_7 ?_
      refine z_pushJ gp_255_8 ?_
      refine z_pushJ gp_255_9 ?_
      refine z_cS3 gi_255_11 (Nat.le_of_ble_eq_true rfl) gc_148_III ?_
      refine z_iload0 gi_148_0 ?_
      refine z_iload1 gi_148_1 ?_
      refine z_icmp_ltF gi_148_2 (by omega) zr_0 (by omega) ?_
      refine z_iload0 gi_148_5 ?_
      refine z_iload2 gi_148_6 ?_
      refine z_icmp_gtF gi_148_7 (by omega) zr_7 (by omega) ?_
      refine z_pushJ gp_148_10 ?_
      refine z_goto gi_148_11 ?_
      refine z_bret1 gi_148_15 gr_148 ?_
      show zW _ _ _ _ _ _ _ _ _ _
      refine z_if_neT gi_255_14 zr_1 (by decide) ?_
      refine z_aload0 gi_255_19 ?_
      refine z_getR (r := 83) gi_255_20 gk_50 (hRr _ rm_50_58 (by decide)) ?_
      refine z_iload1 gi_255_23 ?_
      refine z_iald (v := (-1)) gi_255_24 gk_83 (by decide) (by omega) (e83) ?_
      refine z_pushJ gp_255_25 ?_
      refine z_icmp_neF gi_255_26 zrn_1 zrn_1 (by decide) ?_
      refine z_pushJ gp_255_29 ?_
      refine z_iret gi_255_31 gr_255 ?_
      refine ⟨?_, ?_⟩
      · first | rfl | exact congrArg (fun v => some (zi v)) (by omega) | (exfalso; omega)
      · exact hr
theorem st_taken_1 {X : Nat × (Nat → Int32)} {d : Nat} {J M : zA} {R : zR} {s k : Int} (hr : Rel X J M R) (hs : -2147483648 ≤ s ∧ s < 2147483648) (hk : -2147483648 ≤ k ∧ k < 2147483648) (hs6 : 0 ≤ s ∧ s < 6) (hh : J (38 + 2 * s.toNat) 0 = 1) : zW X (d + 20) 141 0 (gEn 141 [(.ref 0), (zi s), (zi k)]) [] J M R (stP X (d + 20) 255 [(zi s), (zi k)]) := by
  have hr0 := hr
  obtain ⟨hR, hG, hY, hD, hP, hC, hAc, hS, hTp, hX, hW⟩ := hr0
  have hRr : zRoR R := zRoR_of hR
  have hA0 := hAc
  obtain ⟨a1, a2, a3, a4, a5, a6⟩ := hA0
  have e83 : J 83 s = J (38 + 2 * s.toNat) 1 := (hS s hs6.1 hs6.2).1.symm.trans (cH_1 hh)
  have s3 : 0 ≤ J (38 + 2 * s.toNat) 2 ∧ J (38 + 2 * s.toNat) 2 ≤ 4 := (hS s hs6.1 hs6.2).2.2.1
  have s4 : 0 ≤ J (38 + 2 * s.toNat) 3 ∧ J (38 + 2 * s.toNat) 3 ≤ 60 := (hS s hs6.1 hs6.2).2.2.2.1
  have s5 : 0 ≤ J (38 + 2 * s.toNat) 1 ∧ J (38 + 2 * s.toNat) 1 < J 34 1 := (hS s hs6.1 hs6.2).2.2.2.2.1 hh
  have h6 := (a5 (J (38 + 2 * s.toNat) 1) s5.1 s5.2).2
  show zW _ _ _ _ [some (.ref 0), some (zi s), some (zi k), none, none] _ _ _ _ _
  refine z_iload1 gi_141_0 ?_
  refine z_cS1 gi_141_1 (Nat.le_of_ble_eq_true rfl) gc_143_I ?_
  refine z_iload0 gi_143_0 ?_
  refine z_if_ltF gi_143_1 (by omega) (by omega) ?_
  refine z_iload0 gi_143_4 ?_
  refine z_pushJ gp_143_5 ?_
  refine z_icmp_geF gi_143_7 (by omega) zr_6 (by omega) ?_
  refine z_pushJ gp_143_10 ?_
  refine z_goto gi_143_11 ?_
  refine z_bret1 gi_143_15 gr_143 ?_
  show zW _ _ _ _ _ _ _ _ _ _
  refine z_if_eqF gi_141_4 zr_1 (by decide) ?_
  refine z_iload2 gi_141_7 ?_
  refine z_cS1 gi_141_8 (Nat.le_of_ble_eq_true rfl) gc_1_I ?_
  refine z_iload0 gi_1_0 ?_
  refine z_if_lt gi_1_1 (by omega) (fun h1 => ?_) (fun h1 => ?_)
  · refine z_pushJ gp_1_14 ?_
    refine z_bret0 gi_1_15 gr_1 ?_
    show zW _ _ _ _ _ _ _ _ _ _
    refine z_if_neF gi_141_11 zr_0 (by decide) ?_
    refine z_pushJ gp_141_14 ?_
    refine z_iret gi_141_15 gr_141 ?_
    refine ⟨_, rfl, ?_⟩
    show zW _ _ _ _ [some (.ref 50), some (zi s), some (zi k)] _ _ _ _ _
    refine z_iload1 gi_255_0 ?_
    refine z_cS1 gi_255_1 (Nat.le_of_ble_eq_true rfl) gc_248_I ?_
    refine z_iload0 gi_248_0 ?_
    refine z_pushJ gp_248_1 ?_
    refine z_pushJ gp_248_2 ?_
    refine z_cS3 gi_248_3 (Nat.le_of_ble_eq_true rfl) gc_148_III ?_
    refine z_iload0 gi_148_0 ?_
    refine z_iload1 gi_148_1 ?_
    refine z_icmp_ltF gi_148_2 (by omega) zr_0 (by omega) ?_
    refine z_iload0 gi_148_5 ?_
    refine z_iload2 gi_148_6 ?_
    refine z_icmp_gtF gi_148_7 (by omega) zr_5 (by omega) ?_
    refine z_pushJ gp_148_10 ?_
    refine z_goto gi_148_11 ?_
    refine z_bret1 gi_148_15 gr_148 ?_
    show zW _ _ _ _ _ _ _ _ _ _
    refine z_bret1 gi_248_6 gr_248 ?_
    show zW _ _ _ _ _ _ _ _ _ _
    refine z_if_eqF gi_255_4 zr_1 (by decide) ?_
    refine z_iload2 gi_255_7 ?_
    refine z_pushJ gp_255_8 ?_
    refine z_pushJ gp_255_9 ?_
    refine z_cS3 gi_255_11 (Nat.le_of_ble_eq_true rfl) gc_148_III ?_
    refine z_iload0 gi_148_0 ?_
    refine z_iload1 gi_148_1 ?_
    refine z_icmp_ltT gi_148_2 (by omega) zr_0 (by omega) ?_
    refine z_pushJ gp_148_14 ?_
    refine z_bret0 gi_148_15 gr_148 ?_
    show zW _ _ _ _ _ _ _ _ _ _
    refine z_if_neF gi_255_14 zr_0 (by decide) ?_
    refine z_pushJ gp_255_17 ?_
    refine z_iret gi_255_18 gr_255 ?_
    refine ⟨?_, ?_⟩
    · first | rfl | exact congrArg (fun v => some (zi v)) (by omega) | (exfalso; omega)
    · exact hr
  · refine z_iload0 gi_1_4 ?_
    refine z_pushJ gp_1_5 ?_
    refine z_icmp_ge gi_1_7 (by omega) zr_8 (fun h2 => ?_) (fun h2 => ?_)
    · refine z_pushJ gp_1_14 ?_
      refine z_bret0 gi_1_15 gr_1 ?_
      show zW _ _ _ _ _ _ _ _ _ _
      refine z_if_neF gi_141_11 zr_0 (by decide) ?_
      refine z_pushJ gp_141_14 ?_
      refine z_iret gi_141_15 gr_141 ?_
      refine ⟨_, rfl, ?_⟩
      show zW _ _ _ _ [some (.ref 50), some (zi s), some (zi k)] _ _ _ _ _
      refine z_iload1 gi_255_0 ?_
      refine z_cS1 gi_255_1 (Nat.le_of_ble_eq_true rfl) gc_248_I ?_
      refine z_iload0 gi_248_0 ?_
      refine z_pushJ gp_248_1 ?_
      refine z_pushJ gp_248_2 ?_
      refine z_cS3 gi_248_3 (Nat.le_of_ble_eq_true rfl) gc_148_III ?_
      refine z_iload0 gi_148_0 ?_
      refine z_iload1 gi_148_1 ?_
      refine z_icmp_ltF gi_148_2 (by omega) zr_0 (by omega) ?_
      refine z_iload0 gi_148_5 ?_
      refine z_iload2 gi_148_6 ?_
      refine z_icmp_gtF gi_148_7 (by omega) zr_5 (by omega) ?_
      refine z_pushJ gp_148_10 ?_
      refine z_goto gi_148_11 ?_
      refine z_bret1 gi_148_15 gr_148 ?_
      show zW _ _ _ _ _ _ _ _ _ _
      refine z_bret1 gi_248_6 gr_248 ?_
      show zW _ _ _ _ _ _ _ _ _ _
      refine z_if_eqF gi_255_4 zr_1 (by decide) ?_
      refine z_iload2 gi_255_7 ?_
      refine z_pushJ gp_255_8 ?_
      refine z_pushJ gp_255_9 ?_
      refine z_cS3 gi_255_11 (Nat.le_of_ble_eq_true rfl) gc_148_III ?_
      refine z_iload0 gi_148_0 ?_
      refine z_iload1 gi_148_1 ?_
      refine z_icmp_ltF gi_148_2 (by omega) zr_0 (by omega) ?_
      refine z_iload0 gi_148_5 ?_
      refine z_iload2 gi_148_6 ?_
      refine z_icmp_gtT gi_148_7 (by omega) zr_7 (by omega) ?_
      refine z_pushJ gp_148_14 ?_
      refine z_bret0 gi_148_15 gr_148 ?_
      show zW _ _ _ _ _ _ _ _ _ _
      refine z_if_neF gi_255_14 zr_0 (by decide) ?_
      refine z_pushJ gp_255_17 ?_
      refine z_iret gi_255_18 gr_255 ?_
      refine ⟨?_, ?_⟩
      · first | rfl | exact congrArg (fun v => some (zi v)) (by omega) | (exfalso; omega)
      · exact hr
    · refine z_pushJ gp_1_10 ?_
      refine z_goto gi_1_11 ?_
      refine z_bret1 gi_1_15 gr_1 ?_
      show zW _ _ _ _ _ _ _ _ _ _
      refine z_if_neT gi_141_11 zr_1 (by decide) ?_
      refine z_aload0 gi_141_16 ?_
      refine z_getR (r := 37) gi_141_17 gk_0 (hR _ rm_0_11) ?_
      refine z_iload1 gi_141_20 ?_
      refine z_aald (r := 38 + 2 * s.toNat) gi_141_21 rfl (by decide) (by omega) (rr_shelf hR (by omega)) ?_
      refine z_astore (ls1 := [some (.ref 0), some (zi s), some (zi k), some (.ref (38 + 2 * s.toNat)), none]) gi_141_22 rfl ?_
      refine z_aload3 gi_141_23 ?_
      refine z_callVi (As := []) (le := [some _]) gi_141_24 rfl (zk_shelf (by omega)) (Nat.le_of_ble_eq_true rfl) (Nat.le_of_ble_eq_true rfl) rfl ?_
      refine z_aload0 gi_62_0 ?_
      refine z_getI (v := 1) gi_62_1 (zk_shelf (by omega)) (hh) ?_
      refine z_if_neT gi_62_4 zr_1 (by decide) ?_
      refine z_pushJ gp_62_11 ?_
      refine z_bret0 gi_62_12 gr_62 ?_
      show zW _ _ _ _ _ _ _ _ _ _
      refine z_if_eqT gi_141_27 zr_0 (by decide) ?_
      refine z_aload3 gi_141_33 ?_
      refine z_callVi (As := []) (le := [some _]) gi_141_34 rfl (zk_shelf (by omega)) (Nat.le_of_ble_eq_true rfl) (Nat.le_of_ble_eq_true rfl) rfl ?_
      refine z_aload0 gi_63_0 ?_
      refine z_getI (v := 1) gi_63_1 (zk_shelf (by omega)) (hh) ?_
      refine z_pushJ gp_63_4 ?_
      refine z_icmp_neF gi_63_5 zr_1 zr_1 (by decide) ?_
      refine z_pushJ gp_63_8 ?_
      refine z_goto rfl ?_
      refine z_bret1 gi_63_13 gr_63 ?_
      show zW _ _ _ _ _ _ _ _ _ _
      refine z_if_neT gi_141_37 zr_1 (by decide) ?_
      refine z_aload0 rfl ?_
      refine z_getR (r := 34) rfl gk_0 (hR _ rm_0_10) ?_
      refine z_aload3 rfl ?_
      refine z_getI (v := J (38 + 2 * s.toNat) 1) rfl (zk_shelf (by omega)) (rfl) ?_
      refine z_cV1 rfl gk_34 go_4 (Nat.le_of_ble_eq_true rfl) gc_4_RI ?_
      refine z_aload0 rfl ?_
      refine z_iload1 rfl ?_
      refine z_cV1 rfl gk_34 go_3 (Nat.le_of_ble_eq_true rfl) gc_3_RI ?_
      refine z_iload1 gi_3_0 ?_
      refine z_if_lt gi_3_1 (by omega) (fun h3 => ?_) (fun h3 => ?_)
      · refine z_pushJ gp_3_16 ?_
        refine z_bret0 gi_3_17 gr_3 ?_
        show zW _ _ _ _ _ _ _ _ _ _
        refine z_if_eqT gi_4_5 zr_0 (by decide) ?_
        refine z_pushJ gp_4_17 ?_
        refine z_iret gi_4_18 gr_4 ?_
        show zW _ _ _ _ _ _ _ _ _ _
        refine z_istore (ls1 := [some (.ref 0), some (zi s), some (zi k), some (.ref (38 + 2 * s.toNat)), some (zi (-1))]) gi_141_54 rfl ?_
        refine z_iload4 gi_141_56 ?_
        refine z_iload2 gi_141_58 ?_
        refine z_callSP (As := [_, _]) (v := uu (-1) k) gi_141_59 rfl (Nat.le_of_ble_eq_true rfl) (Nat.le_of_ble_eq_true rfl) (underC (by omega) (by omega)) ?_
        have q4 := @uu_r (-1) k
        refine z_if_eq gi_141_62 (by omega) (fun h5 => ?_) (fun h5 => ?_)
        · refine z_pushJ gp_141_70 ?_
          refine z_iret gi_141_72 gr_141 ?_
          refine ⟨_, rfl, ?_⟩
          show zW _ _ _ _ [some (.ref 50), some (zi s), some (zi k)] _ _ _ _ _
          refine z_iload1 gi_255_0 ?_
          refine z_cS1 gi_255_1 (Nat.le_of_ble_eq_true rfl) gc_248_I ?_
          refine z_iload0 gi_248_0 ?_
          refine z_pushJ gp_248_1 ?_
          refine z_pushJ gp_248_2 ?_
          refine z_cS3 gi_248_3 (Nat.le_of_ble_eq_true rfl) gc_148_III ?_
          refine z_iload0 gi_148_0 ?_
          refine z_iload1 gi_148_1 ?_
          refine z_icmp_ltF gi_148_2 (by omega) zr_0 (by omega) ?_
          refine z_iload0 gi_148_5 ?_
          refine z_iload2 gi_148_6 ?_
          refine z_icmp_gtF gi_148_7 (by omega) zr_5 (by omega) ?_
          refine z_pushJ gp_148_10 ?_
          refine z_goto gi_148_11 ?_
          refine z_bret1 gi_148_15 gr_148 ?_
          show zW _ _ _ _ _ _ _ _ _ _
          refine z_bret1 gi_248_6 gr_248 ?_
          show zW _ _ _ _ _ _ _ _ _ _
          refine z_if_eqF gi_255_4 zr_1 (by decide) ?_
          refine z_iload2 gi_255_7 ?_
          refine z_pushJ gp_255_8 ?_
          refine z_pushJ gp_255_9 ?_
          refine z_cS3 gi_255_11 (Nat.le_of_ble_eq_true rfl) gc_148_III ?_
          refine z_iload0 gi_148_0 ?_
          refine z_iload1 gi_148_1 ?_
          refine z_icmp_ltF gi_148_2 (by omega) zr_0 (by omega) ?_
          refine z_iload0 gi_148_5 ?_
          refine z_iload2 gi_148_6 ?_
          refine z_icmp_gtF gi_148_7 (by omega) zr_7 (by omega) ?_
          refine z_pushJ gp_148_10 ?_
          refine z_goto gi_148_11 ?_
          refine z_bret1 gi_148_15 gr_148 ?_
          show zW _ _ _ _ _ _ _ _ _ _
          refine z_if_neT gi_255_14 zr_1 (by decide) ?_
          refine z_aload0 gi_255_19 ?_
          refine z_getR (r := 83) gi_255_20 gk_50 (hRr _ rm_50_58 (by decide)) ?_
          refine z_iload1 gi_255_23 ?_
          refine z_iald (v := J (38 + 2 * s.toNat) 1) gi_255_24 gk_83 (by decide) (by omega) (e83) ?_
          refine z_pushJ gp_255_25 ?_
          refine z_icmp_ne gi_255_26 (by omega) zrn_1 (fun h6 => ?_) (fun h6 => ?_)
          · refine z_aload0 gi_255_32 ?_
            refine z_getR (r := 83) gi_255_33 gk_50 (hRr _ rm_50_58 (by decide)) ?_
            refine z_iload1 gi_255_36 ?_
            refine z_iald (v := J (38 + 2 * s.toNat) 1) gi_255_37 gk_83 (by decide) (by omega) (e83) ?_
            refine z_if_ltT gi_255_38 (by omega) (by omega) ?_
            refine z_pushJ gp_255_73 ?_
            refine z_iret gi_255_75 gr_255 ?_
            refine ⟨?_, ?_⟩
            · first | rfl | exact congrArg (fun v => some (zi v)) (by omega) | (exfalso; omega)
            · exact hr
          · refine z_pushJ gp_255_29 ?_
            refine z_iret gi_255_31 gr_255 ?_
            refine ⟨?_, ?_⟩
            · first | rfl | exact congrArg (fun v => some (zi v)) (by omega) | (exfalso; omega)
            · exact hr
        · refine z_iload4 gi_141_65 ?_
          refine z_goto gi_141_67 ?_
          refine z_iret gi_141_72 gr_141 ?_
          refine ⟨_, rfl, ?_⟩
          show zW _ _ _ _ [some (.ref 50), some (zi s), some (zi k)] _ _ _ _ _
          refine z_iload1 gi_255_0 ?_
          refine z_cS1 gi_255_1 (Nat.le_of_ble_eq_true rfl) gc_248_I ?_
          refine z_iload0 gi_248_0 ?_
          refine z_pushJ gp_248_1 ?_
          refine z_pushJ gp_248_2 ?_
          refine z_cS3 gi_248_3 (Nat.le_of_ble_eq_true rfl) gc_148_III ?_
          refine z_iload0 gi_148_0 ?_
          refine z_iload1 gi_148_1 ?_
          refine z_icmp_ltF gi_148_2 (by omega) zr_0 (by omega) ?_
          refine z_iload0 gi_148_5 ?_
          refine z_iload2 gi_148_6 ?_
          refine z_icmp_gtF gi_148_7 (by omega) zr_5 (by omega) ?_
          refine z_pushJ gp_148_10 ?_
          refine z_goto gi_148_11 ?_
          refine z_bret1 gi_148_15 gr_148 ?_
          show zW _ _ _ _ _ _ _ _ _ _
          refine z_bret1 gi_248_6 gr_248 ?_
          show zW _ _ _ _ _ _ _ _ _ _
          refine z_if_eqF gi_255_4 zr_1 (by decide) ?_
          refine z_iload2 gi_255_7 ?_
          refine z_pushJ gp_255_8 ?_
          refine z_pushJ gp_255_9 ?_
          refine z_cS3 gi_255_11 (Nat.le_of_ble_eq_true rfl) gc_148_III ?_
          refine z_iload0 gi_148_0 ?_
          refine z_iload1 gi_148_1 ?_
          refine z_icmp_ltF gi_148_2 (by omega) zr_0 (by omega) ?_
          refine z_iload0 gi_148_5 ?_
          refine z_iload2 gi_148_6 ?_
          refine z_icmp_gtF gi_148_7 (by omega) zr_7 (by omega) ?_
          refine z_pushJ gp_148_10 ?_
          refine z_goto gi_148_11 ?_
          refine z_bret1 gi_148_15 gr_148 ?_
          show zW _ _ _ _ _ _ _ _ _ _
          refine z_if_neT gi_255_14 zr_1 (by decide) ?_
          refine z_aload0 gi_255_19 ?_
          refine z_getR (r := 83) gi_255_20 gk_50 (hRr _ rm_50_58 (by decide)) ?_
          refine z_iload1 gi_255_23 ?_
          refine z_iald (v := J (38 + 2 * s.toNat) 1) gi_255_24 gk_83 (by decide) (by omega) (e83) ?_
          refine z_pushJ gp_255_25 ?_
          refine z_icmp_ne gi_255_26 (by omega) zrn_1 (fun h6 => ?_) (fun h6 => ?_)
          · refine z_aload0 gi_255_32 ?_
            refine z_getR (r := 83) gi_255_33 gk_50 (hRr _ rm_50_58 (by decide)) ?_
            refine z_iload1 gi_255_36 ?_
            refine z_iald (v := J (38 + 2 * s.toNat) 1) gi_255_37 gk_83 (by decide) (by omega) (e83) ?_
            refine z_if_ltT gi_255_38 (by omega) (by omega) ?_
            refine z_pushJ gp_255_73 ?_
            refine z_iret gi_255_75 gr_255 ?_
            refine ⟨?_, ?_⟩
            · first | rfl | exact congrArg (fun v => some (zi v)) (by omega) | (exfalso; omega)
            · exact hr
          · refine z_pushJ gp_255_29 ?_
            refine z_iret gi_255_31 gr_255 ?_
            refine ⟨?_, ?_⟩
            · first | rfl | exact congrArg (fun v => some (zi v)) (by omega) | (exfalso; omega)
            · exact hr
      · refine z_iload1 gi_3_4 ?_
        refine z_aload0 gi_3_5 ?_
        refine z_getI (v := J 34 1) gi_3_6 gk_34 (rfl) ?_
        refine z_icmp_ge gi_3_9 (by omega) (by omega) (fun h6 => ?_) (fun h6 => ?_)
        · refine z_pushJ gp_3_16 ?_
          refine z_bret0 gi_3_17 gr_3 ?_
          show zW _ _ _ _ _ _ _ _ _ _
          refine z_if_eqT gi_4_5 zr_0 (by decide) ?_
          refine z_pushJ gp_4_17 ?_
          refine z_iret gi_4_18 gr_4 ?_
          show zW _ _ _ _ _ _ _ _ _ _
          refine z_istore (ls1 := [some (.ref 0), some (zi s), some (zi k), some (.ref (38 + 2 * s.toNat)), some (zi (-1))]) gi_141_54 rfl ?_
          refine z_iload4 gi_141_56 ?_
          refine z_iload2 gi_141_58 ?_
          refine z_callSP (As := [_, _]) (v := uu (-1) k) gi_141_59 rfl (Nat.le_of_ble_eq_true rfl) (Nat.le_of_ble_eq_true rfl) (underC (by omega) (by omega)) ?_
          have q7 := @uu_r (-1) k
          refine z_if_eq gi_141_62 (by omega) (fun h8 => ?_) (fun h8 => ?_)
          · refine z_pushJ gp_141_70 ?_
            refine z_iret gi_141_72 gr_141 ?_
            refine ⟨_, rfl, ?_⟩
            show zW _ _ _ _ [some (.ref 50), some (zi s), some (zi k)] _ _ _ _ _
            refine z_iload1 gi_255_0 ?_
            refine z_cS1 gi_255_1 (Nat.le_of_ble_eq_true rfl) gc_248_I ?_
            refine z_iload0 gi_248_0 ?_
            refine z_pushJ gp_248_1 ?_
            refine z_pushJ gp_248_2 ?_
            refine z_cS3 gi_248_3 (Nat.le_of_ble_eq_true rfl) gc_148_III ?_
            refine z_iload0 gi_148_0 ?_
            refine z_iload1 gi_148_1 ?_
            refine z_icmp_ltF gi_148_2 (by omega) zr_0 (by omega) ?_
            refine z_iload0 gi_148_5 ?_
            refine z_iload2 gi_148_6 ?_
            refine z_icmp_gtF gi_148_7 (by omega) zr_5 (by omega) ?_
            refine z_pushJ gp_148_10 ?_
            refine z_goto gi_148_11 ?_
            refine z_bret1 gi_148_15 gr_148 ?_
            show zW _ _ _ _ _ _ _ _ _ _
            refine z_bret1 gi_248_6 gr_248 ?_
            show zW _ _ _ _ _ _ _ _ _ _
            refine z_if_eqF gi_255_4 zr_1 (by decide) ?_
            refine z_iload2 gi_255_7 ?_
            refine z_pushJ gp_255_8 ?_
            refine z_pushJ gp_255_9 ?_
            refine z_cS3 gi_255_11 (Nat.le_of_ble_eq_true rfl) gc_148_III ?_
            refine z_iload0 gi_148_0 ?_
            refine z_iload1 gi_148_1 ?_
            refine z_icmp_ltF gi_148_2 (by omega) zr_0 (by omega) ?_
            refine z_iload0 gi_148_5 ?_
            refine z_iload2 gi_148_6 ?_
            refine z_icmp_gtF gi_148_7 (by omega) zr_7 (by omega) ?_
            refine z_pushJ gp_148_10 ?_
            refine z_goto gi_148_11 ?_
            refine z_bret1 gi_148_15 gr_148 ?_
            show zW _ _ _ _ _ _ _ _ _ _
            refine z_if_neT gi_255_14 zr_1 (by decide) ?_
            refine z_aload0 gi_255_19 ?_
            refine z_getR (r := 83) gi_255_20 gk_50 (hRr _ rm_50_58 (by decide)) ?_
            refine z_iload1 gi_255_23 ?_
            refine z_iald (v := J (38 + 2 * s.toNat) 1) gi_255_24 gk_83 (by decide) (by omega) (e83) ?_
            refine z_pushJ gp_255_25 ?_
            refine z_icmp_neT gi_255_26 (by omega) zrn_1 (by omega) ?_
            refine z_aload0 gi_255_32 ?_
            refine z_getR (r := 83) gi_255_33 gk_50 (hRr _ rm_50_58 (by decide)) ?_
            refine z_iload1 gi_255_36 ?_
            refine z_iald (v := J (38 + 2 * s.toNat) 1) gi_255_37 gk_83 (by decide) (by omega) (e83) ?_
            refine z_if_ltF gi_255_38 (by omega) (by omega) ?_
            refine z_aload0 gi_255_41 ?_
            refine z_getR (r := 81) gi_255_42 gk_50 (hRr _ rm_50_55 (by decide)) ?_
            refine z_aload0 gi_255_45 ?_
            refine z_getR (r := 83) gi_255_46 gk_50 (hRr _ rm_50_58 (by decide)) ?_
            refine z_iload1 gi_255_49 ?_
            refine z_iald (v := J (38 + 2 * s.toNat) 1) gi_255_50 gk_83 (by decide) (by omega) (e83) ?_
            refine z_iald (v := J 35 (J (38 + 2 * s.toNat) 1)) gi_255_51 gk_81 (by decide) (by omega) ((a5 _ (by omega) (by omega)).1.symm) ?_
            refine z_iload2 gi_255_52 ?_
            refine z_callSP (As := [_, _]) (v := uu (J 35 (J (38 + 2 * s.toNat) 1)) k) gi_255_53 rfl (Nat.le_of_ble_eq_true rfl) (Nat.le_of_ble_eq_true rfl) (underR (by omega) (by omega)) ?_
            have q9 := @uu_r (J 35 (J (38 + 2 * s.toNat) 1)) k
            refine z_if_eq gi_255_56 (by omega) (fun h10 => ?_) (fun h10 => ?_)
            · refine z_pushJ gp_255_73 ?_
              refine z_iret gi_255_75 gr_255 ?_
              refine ⟨?_, ?_⟩
              · first | rfl | exact congrArg (fun v => some (zi v)) (by omega) | (exfalso; omega)
              · exact hr
            · refine z_aload0 gi_255_59 ?_
              refine z_getR (r := 81) gi_255_60 gk_50 (hRr _ rm_50_55 (by decide)) ?_
              refine z_aload0 gi_255_63 ?_
              refine z_getR (r := 83) gi_255_64 gk_50 (hRr _ rm_50_58 (by decide)) ?_
              refine z_iload1 gi_255_67 ?_
              refine z_iald (v := J (38 + 2 * s.toNat) 1) gi_255_68 gk_83 (by decide) (by omega) (e83) ?_
              refine z_iald (v := J 35 (J (38 + 2 * s.toNat) 1)) gi_255_69 gk_81 (by decide) (by omega) ((a5 _ (by omega) (by omega)).1.symm) ?_
              refine z_goto gi_255_70 ?_
              refine z_iret gi_255_75 gr_255 ?_
              refine ⟨?_, ?_⟩
              · first | rfl | exact congrArg (fun v => some (zi v)) (by omega) | (exfalso; omega)
              · exact hr
          · refine z_iload4 gi_141_65 ?_
            refine z_goto gi_141_67 ?_
            refine z_iret gi_141_72 gr_141 ?_
            refine ⟨_, rfl, ?_⟩
            show zW _ _ _ _ [some (.ref 50), some (zi s), some (zi k)] _ _ _ _ _
            refine z_iload1 gi_255_0 ?_
            refine z_cS1 gi_255_1 (Nat.le_of_ble_eq_true rfl) gc_248_I ?_
            refine z_iload0 gi_248_0 ?_
            refine z_pushJ gp_248_1 ?_
            refine z_pushJ gp_248_2 ?_
            refine z_cS3 gi_248_3 (Nat.le_of_ble_eq_true rfl) gc_148_III ?_
            refine z_iload0 gi_148_0 ?_
            refine z_iload1 gi_148_1 ?_
            refine z_icmp_ltF gi_148_2 (by omega) zr_0 (by omega) ?_
            refine z_iload0 gi_148_5 ?_
            refine z_iload2 gi_148_6 ?_
            refine z_icmp_gtF gi_148_7 (by omega) zr_5 (by omega) ?_
            refine z_pushJ gp_148_10 ?_
            refine z_goto gi_148_11 ?_
            refine z_bret1 gi_148_15 gr_148 ?_
            show zW _ _ _ _ _ _ _ _ _ _
            refine z_bret1 gi_248_6 gr_248 ?_
            show zW _ _ _ _ _ _ _ _ _ _
            refine z_if_eqF gi_255_4 zr_1 (by decide) ?_
            refine z_iload2 gi_255_7 ?_
            refine z_pushJ gp_255_8 ?_
            refine z_pushJ gp_255_9 ?_
            refine z_cS3 gi_255_11 (Nat.le_of_ble_eq_true rfl) gc_148_III ?_
            refine z_iload0 gi_148_0 ?_
            refine z_iload1 gi_148_1 ?_
            refine z_icmp_ltF gi_148_2 (by omega) zr_0 (by omega) ?_
            refine z_iload0 gi_148_5 ?_
            refine z_iload2 gi_148_6 ?_
            refine z_icmp_gtF gi_148_7 (by omega) zr_7 (by omega) ?_
            refine z_pushJ gp_148_10 ?_
            refine z_goto gi_148_11 ?_
            refine z_bret1 gi_148_15 gr_148 ?_
            show zW _ _ _ _ _ _ _ _ _ _
            refine z_if_neT gi_255_14 zr_1 (by decide) ?_
            refine z_aload0 gi_255_19 ?_
            refine z_getR (r := 83) gi_255_20 gk_50 (hRr _ rm_50_58 (by decide)) ?_
            refine z_iload1 gi_255_23 ?_
            refine z_iald (v := J (38 + 2 * s.toNat) 1) gi_255_24 gk_83 (by decide) (by omega) (e83) ?_
            refine z_pushJ gp_255_25 ?_
            refine z_icmp_neT gi_255_26 (by omega) zrn_1 (by omega) ?_
            refine z_aload0 gi_255_32 ?_
            refine z_getR (r := 83) gi_255_33 gk_50 (hRr _ rm_50_58 (by decide)) ?_
            refine z_iload1 gi_255_36 ?_
            refine z_iald (v := J (38 + 2 * s.toNat) 1) gi_255_37 gk_83 (by decide) (by omega) (e83) ?_
            refine z_if_ltF gi_255_38 (by omega) (by omega) ?_
            refine z_aload0 gi_255_41 ?_
            refine z_getR (r := 81) gi_255_42 gk_50 (hRr _ rm_50_55 (by decide)) ?_
            refine z_aload0 gi_255_45 ?_
            refine z_getR (r := 83) gi_255_46 gk_50 (hRr _ rm_50_58 (by decide)) ?_
            refine z_iload1 gi_255_49 ?_
            refine z_iald (v := J (38 + 2 * s.toNat) 1) gi_255_50 gk_83 (by decide) (by omega) (e83) ?_
            refine z_iald (v := J 35 (J (38 + 2 * s.toNat) 1)) gi_255_51 gk_81 (by decide) (by omega) ((a5 _ (by omega) (by omega)).1.symm) ?_
            refine z_iload2 gi_255_52 ?_
            refine z_callSP (As := [_, _]) (v := uu (J 35 (J (38 + 2 * s.toNat) 1)) k) gi_255_53 rfl (Nat.le_of_ble_eq_true rfl) (Nat.le_of_ble_eq_true rfl) (underR (by omega) (by omega)) ?_
            have q9 := @uu_r (J 35 (J (38 + 2 * s.toNat) 1)) k
            refine z_if_eq gi_255_56 (by omega) (fun h10 => ?_) (fun h10 => ?_)
            · refine z_pushJ gp_255_73 ?_
              refine z_iret gi_255_75 gr_255 ?_
              refine ⟨?_, ?_⟩
              · first | rfl | exact congrArg (fun v => some (zi v)) (by omega) | (exfalso; omega)
              · exact hr
            · refine z_aload0 gi_255_59 ?_
              refine z_getR (r := 81) gi_255_60 gk_50 (hRr _ rm_50_55 (by decide)) ?_
              refine z_aload0 gi_255_63 ?_
              refine z_getR (r := 83) gi_255_64 gk_50 (hRr _ rm_50_58 (by decide)) ?_
              refine z_iload1 gi_255_67 ?_
              refine z_iald (v := J (38 + 2 * s.toNat) 1) gi_255_68 gk_83 (by decide) (by omega) (e83) ?_
              refine z_iald (v := J 35 (J (38 + 2 * s.toNat) 1)) gi_255_69 gk_81 (by decide) (by omega) ((a5 _ (by omega) (by omega)).1.symm) ?_
              refine z_goto gi_255_70 ?_
              refine z_iret gi_255_75 gr_255 ?_
              refine ⟨?_, ?_⟩
              · first | rfl | exact congrArg (fun v => some (zi v)) (by omega) | (exfalso; omega)
              · exact hr
        · refine z_pushJ gp_3_12 ?_
          refine z_goto gi_3_13 ?_
          refine z_bret1 gi_3_17 gr_3 ?_
          show zW _ _ _ _ _ _ _ _ _ _
          refine z_if_eqF gi_4_5 zr_1 (by decide) ?_
          refine z_aload0 rfl ?_
          refine z_getR (r := 35) rfl gk_34 (hR _ rm_34_0) ?_
          refine z_iload1 rfl ?_
          refine z_iald (v := J 35 (J (38 + 2 * s.toNat) 1)) rfl gk_35 (by decide) (by omega) (rfl) ?_
          refine z_goto rfl ?_
          refine z_iret gi_4_18 gr_4 ?_
          show zW _ _ _ _ _ _ _ _ _ _
          refine z_istore (ls1 := [some (.ref 0), some (zi s), some (zi k), some (.ref (38 + 2 * s.toNat)), some (zi (J 35 (J (38 + 2 * s.toNat) 1)))]) gi_141_54 rfl ?_
          refine z_iload4 gi_141_56 ?_
          refine z_iload2 gi_141_58 ?_
          refine z_callSP (As := [_, _]) (v := uu (J 35 (J (38 + 2 * s.toNat) 1)) k) gi_141_59 rfl (Nat.le_of_ble_eq_true rfl) (Nat.le_of_ble_eq_true rfl) (underC (by omega) (by omega)) ?_
          have q9 := @uu_r (J 35 (J (38 + 2 * s.toNat) 1)) k
          refine z_if_eq gi_141_62 (by omega) (fun h10 => ?_) (fun h10 => ?_)
          · refine z_pushJ gp_141_70 ?_
            refine z_iret gi_141_72 gr_141 ?_
            refine ⟨_, rfl, ?_⟩
            show zW _ _ _ _ [some (.ref 50), some (zi s), some (zi k)] _ _ _ _ _
            refine z_iload1 gi_255_0 ?_
            refine z_cS1 gi_255_1 (Nat.le_of_ble_eq_true rfl) gc_248_I ?_
            refine z_iload0 gi_248_0 ?_
            refine z_pushJ gp_248_1 ?_
            refine z_pushJ gp_248_2 ?_
            refine z_cS3 gi_248_3 (Nat.le_of_ble_eq_true rfl) gc_148_III ?_
            refine z_iload0 gi_148_0 ?_
            refine z_iload1 gi_148_1 ?_
            refine z_icmp_ltF gi_148_2 (by omega) zr_0 (by omega) ?_
            refine z_iload0 gi_148_5 ?_
            refine z_iload2 gi_148_6 ?_
            refine z_icmp_gtF gi_148_7 (by omega) zr_5 (by omega) ?_
            refine z_pushJ gp_148_10 ?_
            refine z_goto gi_148_11 ?_
            refine z_bret1 gi_148_15 gr_148 ?_
            show zW _ _ _ _ _ _ _ _ _ _
            refine z_bret1 gi_248_6 gr_248 ?_
            show zW _ _ _ _ _ _ _ _ _ _
            refine z_if_eqF gi_255_4 zr_1 (by decide) ?_
            refine z_iload2 gi_255_7 ?_
            refine z_pushJ gp_255_8 ?_
            refine z_pushJ gp_255_9 ?_
            refine z_cS3 gi_255_11 (Nat.le_of_ble_eq_true rfl) gc_148_III ?_
            refine z_iload0 gi_148_0 ?_
            refine z_iload1 gi_148_1 ?_
            refine z_icmp_ltF gi_148_2 (by omega) zr_0 (by omega) ?_
            refine z_iload0 gi_148_5 ?_
            refine z_iload2 gi_148_6 ?_
            refine z_icmp_gtF gi_148_7 (by omega) zr_7 (by omega) ?_
            refine z_pushJ gp_148_10 ?_
            refine z_goto gi_148_11 ?_
            refine z_bret1 gi_148_15 gr_148 ?_
            show zW _ _ _ _ _ _ _ _ _ _
            refine z_if_neT gi_255_14 zr_1 (by decide) ?_
            refine z_aload0 gi_255_19 ?_
            refine z_getR (r := 83) gi_255_20 gk_50 (hRr _ rm_50_58 (by decide)) ?_
            refine z_iload1 gi_255_23 ?_
            refine z_iald (v := J (38 + 2 * s.toNat) 1) gi_255_24 gk_83 (by decide) (by omega) (e83) ?_
            refine z_pushJ gp_255_25 ?_
            refine z_icmp_neT gi_255_26 (by omega) zrn_1 (by omega) ?_
            refine z_aload0 gi_255_32 ?_
            refine z_getR (r := 83) gi_255_33 gk_50 (hRr _ rm_50_58 (by decide)) ?_
            refine z_iload1 gi_255_36 ?_
            refine z_iald (v := J (38 + 2 * s.toNat) 1) gi_255_37 gk_83 (by decide) (by omega) (e83) ?_
            refine z_if_ltF gi_255_38 (by omega) (by omega) ?_
            refine z_aload0 gi_255_41 ?_
            refine z_getR (r := 81) gi_255_42 gk_50 (hRr _ rm_50_55 (by decide)) ?_
            refine z_aload0 gi_255_45 ?_
            refine z_getR (r := 83) gi_255_46 gk_50 (hRr _ rm_50_58 (by decide)) ?_
            refine z_iload1 gi_255_49 ?_
            refine z_iald (v := J (38 + 2 * s.toNat) 1) gi_255_50 gk_83 (by decide) (by omega) (e83) ?_
            refine z_iald (v := J 35 (J (38 + 2 * s.toNat) 1)) gi_255_51 gk_81 (by decide) (by omega) ((a5 _ (by omega) (by omega)).1.symm) ?_
            refine z_iload2 gi_255_52 ?_
            refine z_callSP (As := [_, _]) (v := uu (J 35 (J (38 + 2 * s.toNat) 1)) k) gi_255_53 rfl (Nat.le_of_ble_eq_true rfl) (Nat.le_of_ble_eq_true rfl) (underR (by omega) (by omega)) ?_
            have q11 := @uu_r (J 35 (J (38 + 2 * s.toNat) 1)) k
            refine z_if_eqT gi_255_56 (by omega) (by omega) ?_
            refine z_pushJ gp_255_73 ?_
            refine z_iret gi_255_75 gr_255 ?_
            refine ⟨?_, ?_⟩
            · first | rfl | exact congrArg (fun v => some (zi v)) (by omega) | (exfalso; omega)
            · exact hr
          · refine z_iload4 gi_141_65 ?_
            refine z_goto gi_141_67 ?_
            refine z_iret gi_141_72 gr_141 ?_
            refine ⟨_, rfl, ?_⟩
            show zW _ _ _ _ [some (.ref 50), some (zi s), some (zi k)] _ _ _ _ _
            refine z_iload1 gi_255_0 ?_
            refine z_cS1 gi_255_1 (Nat.le_of_ble_eq_true rfl) gc_248_I ?_
            refine z_iload0 gi_248_0 ?_
            refine z_pushJ gp_248_1 ?_
            refine z_pushJ gp_248_2 ?_
            refine z_cS3 gi_248_3 (Nat.le_of_ble_eq_true rfl) gc_148_III ?_
            refine z_iload0 gi_148_0 ?_
            refine z_iload1 gi_148_1 ?_
            refine z_icmp_ltF gi_148_2 (by omega) zr_0 (by omega) ?_
            refine z_iload0 gi_148_5 ?_
            refine z_iload2 gi_148_6 ?_
            refine z_icmp_gtF gi_148_7 (by omega) zr_5 (by omega) ?_
            refine z_pushJ gp_148_10 ?_
            refine z_goto gi_148_11 ?_
            refine z_bret1 gi_148_15 gr_148 ?_
            show zW _ _ _ _ _ _ _ _ _ _
            refine z_bret1 gi_248_6 gr_248 ?_
            show zW _ _ _ _ _ _ _ _ _ _
            refine z_if_eqF gi_255_4 zr_1 (by decide) ?_
            refine z_iload2 gi_255_7 ?_
            refine z_pushJ gp_255_8 ?_
            refine z_pushJ gp_255_9 ?_
            refine z_cS3 gi_255_11 (Nat.le_of_ble_eq_true rfl) gc_148_III ?_
            refine z_iload0 gi_148_0 ?_
            refine z_iload1 gi_148_1 ?_
            refine z_icmp_ltF gi_148_2 (by omega) zr_0 (by omega) ?_
            refine z_iload0 gi_148_5 ?_
            refine z_iload2 gi_148_6 ?_
            refine z_icmp_gtF gi_148_7 (by omega) zr_7 (by omega) ?_
            refine z_pushJ gp_148_10 ?_
            refine z_goto gi_148_11 ?_
            refine z_bret1 gi_148_15 gr_148 ?_
            show zW _ _ _ _ _ _ _ _ _ _
            refine z_if_neT gi_255_14 zr_1 (by decide) ?_
            refine z_aload0 gi_255_19 ?_
            refine z_getR (r := 83) gi_255_20 gk_50 (hRr _ rm_50_58 (by decide)) ?_
            refine z_iload1 gi_255_23 ?_
            refine z_iald (v := J (38 + 2 * s.toNat) 1) gi_255_24 gk_83 (by decide) (by omega) (e83) ?_
            refine z_pushJ gp_255_25 ?_
            refine z_icmp_neT gi_255_26 (by omega) zrn_1 (by omega) ?_
            refine z_aload0 gi_255_32 ?_
            refine z_getR (r := 83) gi_255_33 gk_50 (hRr _ rm_50_58 (by decide)) ?_
            refine z_iload1 gi_255_36 ?_
            refine z_iald (v := J (38 + 2 * s.toNat) 1) gi_255_37 gk_83 (by decide) (by omega) (e83) ?_
            refine z_if_ltF gi_255_38 (by omega) (by omega) ?_
            refine z_aload0 gi_255_41 ?_
            refine z_getR (r := 81) gi_255_42 gk_50 (hRr _ rm_50_55 (by decide)) ?_
            refine z_aload0 gi_255_45 ?_
            refine z_getR (r := 83) gi_255_46 gk_50 (hRr _ rm_50_58 (by decide)) ?_
            refine z_iload1 gi_255_49 ?_
            refine z_iald (v := J (38 + 2 * s.toNat) 1) gi_255_50 gk_83 (by decide) (by omega) (e83) ?_
            refine z_iald (v := J 35 (J (38 + 2 * s.toNat) 1)) gi_255_51 gk_81 (by decide) (by omega) ((a5 _ (by omega) (by omega)).1.symm) ?_
            refine z_iload2 gi_255_52 ?_
            refine z_callSP (As := [_, _]) (v := uu (J 35 (J (38 + 2 * s.toNat) 1)) k) gi_255_53 rfl (Nat.le_of_ble_eq_true rfl) (Nat.le_of_ble_eq_true rfl) (underR (by omega) (by omega)) ?_
            have q11 := @uu_r (J 35 (J (38 + 2 * s.toNat) 1)) k
            refine z_if_eq gi_255_56 (by omega) (fun h12 => ?_) (fun h12 => ?_)
            · refine z_pushJ gp_255_73 ?_
              refine z_iret gi_255_75 gr_255 ?_
              refine ⟨?_, ?_⟩
              · first | rfl | exact congrArg (fun v => some (zi v)) (by omega) | (exfalso; omega)
              · exact hr
            · refine z_aload0 gi_255_59 ?_
              refine z_getR (r := 81) gi_255_60 gk_50 (hRr _ rm_50_55 (by decide)) ?_
              refine z_aload0 gi_255_63 ?_
              refine z_getR (r := 83) gi_255_64 gk_50 (hRr _ rm_50_58 (by decide)) ?_
              refine z_iload1 gi_255_67 ?_
              refine z_iald (v := J (38 + 2 * s.toNat) 1) gi_255_68 gk_83 (by decide) (by omega) (e83) ?_
              refine z_iald (v := J 35 (J (38 + 2 * s.toNat) 1)) gi_255_69 gk_81 (by decide) (by omega) ((a5 _ (by omega) (by omega)).1.symm) ?_
              refine z_goto gi_255_70 ?_
              refine z_iret gi_255_75 gr_255 ?_
              refine ⟨?_, ?_⟩
              · first | rfl | exact congrArg (fun v => some (zi v)) (by omega) | (exfalso; omega)
              · exact hr
theorem st_taken_2 {X : Nat × (Nat → Int32)} {d : Nat} {J M : zA} {R : zR} {s k : Int} (hr : Rel X J M R) (hs : -2147483648 ≤ s ∧ s < 2147483648) (hk : -2147483648 ≤ k ∧ k < 2147483648) (hs6 : 0 ≤ s ∧ s < 6) (hh : J (38 + 2 * s.toNat) 0 = 2) : zW X (d + 20) 141 0 (gEn 141 [(.ref 0), (zi s), (zi k)]) [] J M R (stP X (d + 20) 255 [(zi s), (zi k)]) := by
  have hr0 := hr
  obtain ⟨hR, hG, hY, hD, hP, hC, hAc, hS, hTp, hX, hW⟩ := hr0
  have hRr : zRoR R := zRoR_of hR
  have hA0 := hAc
  obtain ⟨a1, a2, a3, a4, a5, a6⟩ := hA0
  have e83 : J 83 s = -2 - J (38 + 2 * s.toNat) 2 := (hS s hs6.1 hs6.2).1.symm.trans (cH_2 hh)
  have s3 : 0 ≤ J (38 + 2 * s.toNat) 2 ∧ J (38 + 2 * s.toNat) 2 ≤ 4 := (hS s hs6.1 hs6.2).2.2.1
  have s4 : 0 ≤ J (38 + 2 * s.toNat) 3 ∧ J (38 + 2 * s.toNat) 3 ≤ 60 := (hS s hs6.1 hs6.2).2.2.2.1
  have s6 := (hS s hs6.1 hs6.2).2.2.2.2.2 hh
  have s7 : J 84 s = J (38 + 2 * s.toNat) 3 := s6.1.symm
  have s8 : ∀ i, 0 ≤ i → i < J (38 + 2 * s.toNat) 3 → M (39 + 2 * s.toNat) i = M 85 (60 * s + i) := s6.2.1
  show zW _ _ _ _ [some (.ref 0), some (zi s), some (zi k), none, none] _ _ _ _ _
  refine z_iload1 gi_141_0 ?_
  refine z_cS1 gi_141_1 (Nat.le_of_ble_eq_true rfl) gc_143_I ?_
  refine z_iload0 gi_143_0 ?_
  refine z_if_ltF gi_143_1 (by omega) (by omega) ?_
  refine z_iload0 gi_143_4 ?_
  refine z_pushJ gp_143_5 ?_
  refine z_icmp_geF gi_143_7 (by omega) zr_6 (by omega) ?_
  refine z_pushJ gp_143_10 ?_
  refine z_goto gi_143_11 ?_
  refine z_bret1 gi_143_15 gr_143 ?_
  show zW _ _ _ _ _ _ _ _ _ _
  refine z_if_eqF gi_141_4 zr_1 (by decide) ?_
  refine z_iload2 gi_141_7 ?_
  refine z_cS1 gi_141_8 (Nat.le_of_ble_eq_true rfl) gc_1_I ?_
  refine z_iload0 gi_1_0 ?_
  refine z_if_lt gi_1_1 (by omega) (fun h1 => ?_) (fun h1 => ?_)
  · refine z_pushJ gp_1_14 ?_
    refine z_bret0 gi_1_15 gr_1 ?_
    show zW _ _ _ _ _ _ _ _ _ _
    refine z_if_neF gi_141_11 zr_0 (by decide) ?_
    refine z_pushJ gp_141_14 ?_
    refine z_iret gi_141_15 gr_141 ?_
    refine ⟨_, rfl, ?_⟩
    show zW _ _ _ _ [some (.ref 50), some (zi s), some (zi k)] _ _ _ _ _
    refine z_iload1 gi_255_0 ?_
    refine z_cS1 gi_255_1 (Nat.le_of_ble_eq_true rfl) gc_248_I ?_
    refine z_iload0 gi_248_0 ?_
    refine z_pushJ gp_248_1 ?_
    refine z_pushJ gp_248_2 ?_
    refine z_cS3 gi_248_3 (Nat.le_of_ble_eq_true rfl) gc_148_III ?_
    refine z_iload0 gi_148_0 ?_
    refine z_iload1 gi_148_1 ?_
    refine z_icmp_ltF gi_148_2 (by omega) zr_0 (by omega) ?_
    refine z_iload0 gi_148_5 ?_
    refine z_iload2 gi_148_6 ?_
    refine z_icmp_gtF gi_148_7 (by omega) zr_5 (by omega) ?_
    refine z_pushJ gp_148_10 ?_
    refine z_goto gi_148_11 ?_
    refine z_bret1 gi_148_15 gr_148 ?_
    show zW _ _ _ _ _ _ _ _ _ _
    refine z_bret1 gi_248_6 gr_248 ?_
    show zW _ _ _ _ _ _ _ _ _ _
    refine z_if_eqF gi_255_4 zr_1 (by decide) ?_
    refine z_iload2 gi_255_7 ?_
    refine z_pushJ gp_255_8 ?_
    refine z_pushJ gp_255_9 ?_
    refine z_cS3 gi_255_11 (Nat.le_of_ble_eq_true rfl) gc_148_III ?_
    refine z_iload0 gi_148_0 ?_
    refine z_iload1 gi_148_1 ?_
    refine z_icmp_ltT gi_148_2 (by omega) zr_0 (by omega) ?_
    refine z_pushJ gp_148_14 ?_
    refine z_bret0 gi_148_15 gr_148 ?_
    show zW _ _ _ _ _ _ _ _ _ _
    refine z_if_neF gi_255_14 zr_0 (by decide) ?_
    refine z_pushJ gp_255_17 ?_
    refine z_iret gi_255_18 gr_255 ?_
    refine ⟨?_, ?_⟩
    · first | rfl | exact congrArg (fun v => some (zi v)) (by omega) | (exfalso; omega)
    · exact hr
  · refine z_iload0 gi_1_4 ?_
    refine z_pushJ gp_1_5 ?_
    refine z_icmp_ge gi_1_7 (by omega) zr_8 (fun h2 => ?_) (fun h2 => ?_)
    · refine z_pushJ gp_1_14 ?_
      refine z_bret0 gi_1_15 gr_1 ?_
      show zW _ _ _ _ _ _ _ _ _ _
      refine z_if_neF gi_141_11 zr_0 (by decide) ?_
      refine z_pushJ gp_141_14 ?_
      refine z_iret gi_141_15 gr_141 ?_
      refine ⟨_, rfl, ?_⟩
      show zW _ _ _ _ [some (.ref 50), some (zi s), some (zi k)] _ _ _ _ _
      refine z_iload1 gi_255_0 ?_
      refine z_cS1 gi_255_1 (Nat.le_of_ble_eq_true rfl) gc_248_I ?_
      refine z_iload0 gi_248_0 ?_
      refine z_pushJ gp_248_1 ?_
      refine z_pushJ gp_248_2 ?_
      refine z_cS3 gi_248_3 (Nat.le_of_ble_eq_true rfl) gc_148_III ?_
      refine z_iload0 gi_148_0 ?_
      refine z_iload1 gi_148_1 ?_
      refine z_icmp_ltF gi_148_2 (by omega) zr_0 (by omega) ?_
      refine z_iload0 gi_148_5 ?_
      refine z_iload2 gi_148_6 ?_
      refine z_icmp_gtF gi_148_7 (by omega) zr_5 (by omega) ?_
      refine z_pushJ gp_148_10 ?_
      refine z_goto gi_148_11 ?_
      refine z_bret1 gi_148_15 gr_148 ?_
      show zW _ _ _ _ _ _ _ _ _ _
      refine z_bret1 gi_248_6 gr_248 ?_
      show zW _ _ _ _ _ _ _ _ _ _
      refine z_if_eqF gi_255_4 zr_1 (by decide) ?_
      refine z_iload2 gi_255_7 ?_
      refine z_pushJ gp_255_8 ?_
      refine z_pushJ gp_255_9 ?_
      refine z_cS3 gi_255_11 (Nat.le_of_ble_eq_true rfl) gc_148_III ?_
      refine z_iload0 gi_148_0 ?_
      refine z_iload1 gi_148_1 ?_
      refine z_icmp_ltF gi_148_2 (by omega) zr_0 (by omega) ?_
      refine z_iload0 gi_148_5 ?_
      refine z_iload2 gi_148_6 ?_
      refine z_icmp_gtT gi_148_7 (by omega) zr_7 (by omega) ?_
      refine z_pushJ gp_148_14 ?_
      refine z_bret0 gi_148_15 gr_148 ?_
      show zW _ _ _ _ _ _ _ _ _ _
      refine z_if_neF gi_255_14 zr_0 (by decide) ?_
      refine z_pushJ gp_255_17 ?_
      refine z_iret gi_255_18 gr_255 ?_
      refine ⟨?_, ?_⟩
      · first | rfl | exact congrArg (fun v => some (zi v)) (by omega) | (exfalso; omega)
      · exact hr
    · refine z_pushJ gp_1_10 ?_
      refine z_goto gi_1_11 ?_
      refine z_bret1 gi_1_15 gr_1 ?_
      show zW _ _ _ _ _ _ _ _ _ _
      refine z_if_neT gi_141_11 zr_1 (by decide) ?_
      refine z_aload0 gi_141_16 ?_
      refine z_getR (r := 37) gi_141_17 gk_0 (hR _ rm_0_11) ?_
      refine z_iload1 gi_141_20 ?_
      refine z_aald (r := 38 + 2 * s.toNat) gi_141_21 rfl (by decide) (by omega) (rr_shelf hR (by omega)) ?_
      refine z_astore (ls1 := [some (.ref 0), some (zi s), some (zi k), some (.ref (38 + 2 * s.toNat)), none]) gi_141_22 rfl ?_
      refine z_aload3 gi_141_23 ?_
      refine z_callVi (As := []) (le := [some _]) gi_141_24 rfl (zk_shelf (by omega)) (Nat.le_of_ble_eq_true rfl) (Nat.le_of_ble_eq_true rfl) rfl ?_
      refine z_aload0 gi_62_0 ?_
      refine z_getI (v := 2) gi_62_1 (zk_shelf (by omega)) (hh) ?_
      refine z_if_neT gi_62_4 zr_2 (by decide) ?_
      refine z_pushJ gp_62_11 ?_
      refine z_bret0 gi_62_12 gr_62 ?_
      show zW _ _ _ _ _ _ _ _ _ _
      refine z_if_eqT gi_141_27 zr_0 (by decide) ?_
      refine z_aload3 gi_141_33 ?_
      refine z_callVi (As := []) (le := [some _]) gi_141_34 rfl (zk_shelf (by omega)) (Nat.le_of_ble_eq_true rfl) (Nat.le_of_ble_eq_true rfl) rfl ?_
      refine z_aload0 gi_63_0 ?_
      refine z_getI (v := 2) gi_63_1 (zk_shelf (by omega)) (hh) ?_
      refine z_pushJ gp_63_4 ?_
      refine z_icmp_neT gi_63_5 zr_2 zr_1 (by decide) ?_
      refine z_pushJ gp_63_12 ?_
      refine z_bret0 gi_63_13 gr_63 ?_
      show zW _ _ _ _ _ _ _ _ _ _
      refine z_if_neF gi_141_37 zr_0 (by decide) ?_
      refine z_pushJ gp_141_40 ?_
      refine z_iret rfl gr_141 ?_
      refine ⟨_, rfl, ?_⟩
      show zW _ _ _ _ [some (.ref 50), some (zi s), some (zi k)] _ _ _ _ _
      refine z_iload1 gi_255_0 ?_
      refine z_cS1 gi_255_1 (Nat.le_of_ble_eq_true rfl) gc_248_I ?_
      refine z_iload0 gi_248_0 ?_
      refine z_pushJ gp_248_1 ?_
      refine z_pushJ gp_248_2 ?_
      refine z_cS3 gi_248_3 (Nat.le_of_ble_eq_true rfl) gc_148_III ?_
      refine z_iload0 gi_148_0 ?_
      refine z_iload1 gi_148_1 ?_
      refine z_icmp_ltF gi_148_2 (by omega) zr_0 (by omega) ?_
      refine z_iload0 gi_148_5 ?_
      refine z_iload2 gi_148_6 ?_
      refine z_icmp_gtF gi_148_7 (by omega) zr_5 (by omega) ?_
      refine z_pushJ gp_148_10 ?_
      refine z_goto gi_148_11 ?_
      refine z_bret1 gi_148_15 gr_148 ?_
      show zW _ _ _ _ _ _ _ _ _ _
      refine z_bret1 gi_248_6 gr_248 ?_
      show zW _ _ _ _ _ _ _ _ _ _
      refine z_if_eqF gi_255_4 zr_1 (by decide) ?_
      refine z_iload2 gi_255_7 ?_
      refine z_pushJ gp_255_8 ?_
      refine z_pushJ gp_255_9 ?_
      refine z_cS3 gi_255_11 (Nat.le_of_ble_eq_true rfl) gc_148_III ?_
      refine z_iload0 gi_148_0 ?_
      refine z_iload1 gi_148_1 ?_
      refine z_icmp_ltF gi_148_2 (by omega) zr_0 (by omega) ?_
      refine z_iload0 gi_148_5 ?_
      refine z_iload2 gi_148_6 ?_
      refine z_icmp_gtF gi_148_7 (by omega) zr_7 (by omega) ?_
      refine z_pushJ gp_148_10 ?_
      refine z_goto gi_148_11 ?_
      refine z_bret1 gi_148_15 gr_148 ?_
      show zW _ _ _ _ _ _ _ _ _ _
      refine z_if_neT gi_255_14 zr_1 (by decide) ?_
      refine z_aload0 gi_255_19 ?_
      refine z_getR (r := 83) gi_255_20 gk_50 (hRr _ rm_50_58 (by decide)) ?_
      refine z_iload1 gi_255_23 ?_
      refine z_iald (v := (-2) - (J (38 + 2 * s.toNat) 2)) gi_255_24 gk_83 (by decide) (by omega) (e83) ?_
      refine z_pushJ gp_255_25 ?_
      refine z_icmp_ne gi_255_26 (by omega) zrn_1 (fun h3 => ?_) (fun h3 => ?_)
      · refine z_aload0 gi_255_32 ?_
        refine z_getR (r := 83) gi_255_33 gk_50 (hRr _ rm_50_58 (by decide)) ?_
        refine z_iload1 gi_255_36 ?_
        refine z_iald (v := (-2) - (J (38 + 2 * s.toNat) 2)) gi_255_37 gk_83 (by decide) (by omega) (e83) ?_
        refine z_if_lt gi_255_38 (by omega) (fun h4 => ?_) (fun h4 => ?_)
        · refine z_pushJ gp_255_73 ?_
          refine z_iret gi_255_75 gr_255 ?_
          refine ⟨?_, ?_⟩
          · first | rfl | exact congrArg (fun v => some (zi v)) (by omega) | (exfalso; omega)
          · exact hr
        · refine z_aload0 gi_255_41 ?_
          refine z_getR (r := 81) gi_255_42 gk_50 (hRr _ rm_50_55 (by decide)) ?_
          refine z_aload0 gi_255_45 ?_
          refine z_getR (r := 83) gi_255_46 gk_50 (hRr _ rm_50_58 (by decide)) ?_
          refine z_iload1 gi_255_49 ?_
          refine z_iald (v := (-2) - (J (38 + 2 * s.toNat) 2)) gi_255_50 gk_83 (by decide) (by omega) (e83) ?_
          refine z_iald (v := J 81 ((-2) - (J (38 + 2 * s.toNat) 2))) gi_255_51 gk_81 (by decide) (by omega) (rfl) ?_
          refine z_iload2 gi_255_52 ?_
          refine z_callSP (As := [_, _]) (v := uu (J 81 ((-2) - (J (38 + 2 * s.toNat) 2))) k) gi_255_53 rfl (Nat.le_of_ble_eq_true rfl) (Nat.le_of_ble_eq_true rfl) (underR (by omega) (by omega)) ?_
          have q5 := @uu_r (J 81 ((-2) - (J (38 + 2 * s.toNat) 2))) k
          refine z_if_eq gi_255_56 (by omega) (fun h6 => ?_) (fun h6 => ?_)
          · refine z_pushJ gp_255_73 ?_
            refine z_iret gi_255_75 gr_255 ?_
            refine ⟨?_, ?_⟩
            · first | rfl | exact congrArg (fun v => some (zi v)) (by omega) | (exfalso; omega)
            · exact hr
          · refine z_aload0 gi_255_59 ?_
            refine z_getR (r := 81) gi_255_60 gk_50 (hRr _ rm_50_55 (by decide)) ?_
            refine z_aload0 gi_255_63 ?_
            refine z_getR (r := 83) gi_255_64 gk_50 (hRr _ rm_50_58 (by decide)) ?_
            refine z_iload1 gi_255_67 ?_
            refine z_iald (v := (-2) - (J (38 + 2 * s.toNat) 2)) gi_255_68 gk_83 (by decide) (by omega) (e83) ?_
            refine z_iald (v := J 81 ((-2) - (J (38 + 2 * s.toNat) 2))) gi_255_69 gk_81 (by decide) (by omega) (rfl) ?_
            refine z_goto gi_255_70 ?_
            refine z_iret gi_255_75 gr_255 ?_
            refine ⟨?_, ?_⟩
            · first | rfl | exact congrArg (fun v => some (zi v)) (by omega) | (exfalso; omega)
            · exact hr
      · refine z_pushJ gp_255_29 ?_
        refine z_iret gi_255_31 gr_255 ?_
        refine ⟨?_, ?_⟩
        · first | rfl | exact congrArg (fun v => some (zi v)) (by omega) | (exfalso; omega)
        · exact hr
theorem st_taken {X : Nat × (Nat → Int32)} {d : Nat} {J M : zA} {R : zR} {s k : Int} (hr : Rel X J M R) (hs : -2147483648 ≤ s ∧ s < 2147483648) (hk : -2147483648 ≤ k ∧ k < 2147483648) : zW X (d + 20) 141 0 (gEn 141 [(.ref 0), (zi s), (zi k)]) [] J M R (stP X (d + 20) 255 [(zi s), (zi k)]) := by
  by_cases hs6 : 0 ≤ s ∧ s < 6
  · have hS : RelS J M := hr.2.2.2.2.2.2.2.1
    have h2 := (hS s hs6.1 hs6.2).2.1
    have h4 : J (38 + 2 * s.toNat) 0 = 0 ∨ J (38 + 2 * s.toNat) 0 = 1 ∨ J (38 + 2 * s.toNat) 0 = 2 := by omega
    rcases h4 with hh | hh | hh
    · exact st_taken_0 hr hs hk hs6 hh
    · exact st_taken_1 hr hs hk hs6 hh
    · exact st_taken_2 hr hs hk hs6 hh
  · exact st_taken_n hr hs hk hs6
