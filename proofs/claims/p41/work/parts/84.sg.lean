/-- how many of the first k are v -/
noncomputable def cW (b : Int → Int) (v : Int) : Nat → Int
  | 0 => 0
  | k + 1 => if b k = v then cW b v k + 1 else cW b v k
theorem cW_1 {b : Int → Int} {v : Int} {k : Nat} (h : b k = v) : cW b v (k + 1) = cW b v k + 1 := by
  show (if _ then _ else _) = _
  rw [if_pos h]
theorem cW_0 {b : Int → Int} {v : Int} {k : Nat} (h : ¬ b k = v) : cW b v (k + 1) = cW b v k := by
  show (if _ then _ else _) = _
  rw [if_neg h]
theorem cW_r {b : Int → Int} {v : Int} : ∀ k : Nat, 0 ≤ cW b v k ∧ cW b v k ≤ k := by
  intro k
  induction k with
  | zero => exact ⟨Int.le_refl 0, Int.le_refl 0⟩
  | succ k ih =>
    by_cases h : b k = v
    · rw [cW_1 h]; omega
    · rw [cW_0 h]; omega
theorem cellsC_z {X : Nat × (Nat → Int32)} {d : Nat} {J M : zA} {R : zR} {P : zP} (hR : zRok R) {s z : Int} {b : Int → Int} (hs : 0 ≤ s ∧ s < 6) (hzr : 0 ≤ z ∧ z ≤ 60) (hbr : ∀ i, 0 ≤ i → i < z → -128 ≤ b i ∧ b i ≤ 127) (hz : J (38 + 2 * s.toNat) 3 = z) (hb : ∀ i, 0 ≤ i → i < z → M (39 + 2 * s.toNat) i = b i) {v : Int} (hv : -128 ≤ v ∧ v ≤ 127) : ∀ (j k : Nat), (k : Int) + j = z → zW X d 75 35 [some (.ref (38 + 2 * s.toNat)), some (zl v), none, some (zi (cW b v z.toNat)), some (zi z)] [] J M R P → zW X d 75 5 [some (.ref (38 + 2 * s.toNat)), some (zl v), none, some (zi (cW b v k)), some (zi (k : Int))] [] J M R P := by
  intro j
  induction j with
  | zero =>
    intro k hk K
    refine z_iload rfl rfl ?_
    refine z_aload rfl rfl ?_
    refine z_getI (v := z) rfl (zk_shelf (by omega)) (hz) ?_
    refine z_icmp_geT rfl (by omega) (by omega) (by omega) ?_
    obtain rfl : z = (k : Int) := by omega
    exact K
  | succ j ih =>
    intro k hk K
    have qb := hbr k (by omega) (by omega)
    have qc := @cW_r b v k
    refine z_iload4 rfl ?_
    refine z_aload0 rfl ?_
    refine z_getI (v := z) rfl (zk_shelf (by omega)) (hz) ?_
    refine z_icmp_geF rfl (by omega) (by omega) (by omega) ?_
    refine z_aload0 rfl ?_
    refine z_getR (r := 39 + 2 * s.toNat) rfl (zk_shelf (by omega)) (rr_cells hR (by omega)) ?_
    refine z_iload4 rfl ?_
    refine z_lald (v := b (k : Int)) rfl (zk_cells (by omega)) (by decide) (by omega) (hb _ (by omega) (by omega)) ?_
    refine z_lload1 rfl ?_
    refine z_lcmp_ne rfl rfl (by omega) (by omega) (fun h1 => ?_) (fun h1 => ?_)
    · refine z_iinc (c := 1) (e := (k : Int) + 1) (ls1 := [some (.ref (38 + 2 * s.toNat)), some (zl v), none, some (zi (cW b v k)), some (zi ((k : Int) + 1))]) gi_75_29 rfl rfl rfl rfl ?_
      refine z_goto gi_75_32 ?_
      show zW _ _ _ _ [some (.ref (38 + 2 * s.toNat)), some (zl v), none, some (zi (cW b v k)), some (zi ((k : Int) + 1))] [] _ _ _ _
      have hg := ih (k + 1) (by omega) K
      rw [cW_0 (k := k) (by omega)] at hg
      exact hg
    · refine z_iinc (c := 1) (e := (cW b v k) + 1) (ls1 := [some (.ref (38 + 2 * s.toNat)), some (zl v), none, some (zi ((cW b v k) + 1)), some (zi (k : Int))]) rfl rfl rfl rfl rfl ?_
      refine z_iinc (c := 1) (e := (k : Int) + 1) (ls1 := [some (.ref (38 + 2 * s.toNat)), some (zl v), none, some (zi ((cW b v k) + 1)), some (zi ((k : Int) + 1))]) gi_75_29 rfl rfl rfl rfl ?_
      refine z_goto gi_75_32 ?_
      show zW _ _ _ _ [some (.ref (38 + 2 * s.toNat)), some (zl v), none, some (zi ((cW b v k) + 1)), some (zi ((k : Int) + 1))] [] _ _ _ _
      have hg := ih (k + 1) (by omega) K
      rw [cW_1 (k := k) (by omega)] at hg
      exact hg
theorem cellsR_z {X : Nat × (Nat → Int32)} {d : Nat} {J M : zA} {R : zR} {P : zP} (hR : zRoR R) {s z : Int} {b : Int → Int} (hs : 0 ≤ s ∧ s < 6) (hzr : 0 ≤ z ∧ z ≤ 60) (hbr : ∀ i, 0 ≤ i → i < z → -128 ≤ b i ∧ b i ≤ 127) {w : Int} (hz : J 84 s = z) (hb : ∀ i, 0 ≤ i → i < z → M 85 (60 * s + i) = b i) : ∀ (j k : Nat), (k : Int) + j = z → zW X (d + 6) 216 84 [some (.ref 50), some (zi s), some (zi w), some (zi (cW b 0 z.toNat)), some (zi (cW b 1 z.toNat)), some (zi z)] [] J M R P → zW X (d + 6) 216 40 [some (.ref 50), some (zi s), some (zi w), some (zi (cW b 0 k)), some (zi (cW b 1 k)), some (zi (k : Int))] [] J M R P := by
  intro j
  induction j with
  | zero =>
    intro k hk K
    refine z_iload rfl rfl ?_
    refine z_aload rfl rfl ?_
    refine z_getR (r := 84) rfl rfl (hR _ rm_50_59 (by decide)) ?_
    refine z_iload rfl rfl ?_
    refine z_iald (v := z) rfl rfl (by decide) (by omega) (hz) ?_
    refine z_icmp_geT rfl (by omega) (by omega) (by omega) ?_
    obtain rfl : z = (k : Int) := by omega
    exact K
  | succ j ih =>
    intro k hk K
    have qb := hbr k (by omega) (by omega)
    have qc := @cW_r b 0 k
    have qd := @cW_r b 1 k
    refine z_iload5 rfl ?_
    refine z_aload0 rfl ?_
    refine z_getR (r := 84) rfl gk_50 (hR _ rm_50_59 (by decide)) ?_
    refine z_iload1 rfl ?_
    refine z_iald (v := z) rfl gk_84 (by decide) (by omega) (hz) ?_
    refine z_icmp_geF rfl (by omega) (by omega) (by omega) ?_
    refine z_aload0 rfl ?_
    refine z_iload1 rfl ?_
    refine z_iload5 rfl ?_
    refine z_cV2 rfl gk_50 go_193 (Nat.le_of_ble_eq_true rfl) gc_193_RII ?_
    refine z_aload0 gi_193_0 ?_
    refine z_getR (r := 85) gi_193_1 gk_50 (hR _ rm_50_60 (by decide)) ?_
    refine z_pushJ gp_193_4 ?_
    refine z_iload1 gi_193_6 ?_
    refine z_imul (e := 60 * s) gi_193_7 rfl ?_
    refine z_iload2 gi_193_8 ?_
    refine z_iadd (e := 60 * s + (k : Int)) gi_193_9 rfl ?_
    refine z_lald (v := b (k : Int)) gi_193_10 gk_85 (by decide) (by omega) (hb _ (by omega) (by omega)) ?_
    refine z_l2i gi_193_11 ?_
    refine z_iret gi_193_12 gr_193 ?_
    show zW _ _ _ _ _ _ _ _ _ _
    refine z_if_ne rfl (by omega) (fun h1 => ?_) (fun h1 => ?_)
    · refine z_aload0 gi_216_64 ?_
      refine z_iload1 gi_216_65 ?_
      refine z_iload5 gi_216_66 ?_
      refine z_cV2 gi_216_68 gk_50 go_193 (Nat.le_of_ble_eq_true rfl) gc_193_RII ?_
      refine z_aload0 gi_193_0 ?_
      refine z_getR (r := 85) gi_193_1 gk_50 (hR _ rm_50_60 (by decide)) ?_
      refine z_pushJ gp_193_4 ?_
      refine z_iload1 gi_193_6 ?_
      refine z_imul (e := 60 * s) gi_193_7 rfl ?_
      refine z_iload2 gi_193_8 ?_
      refine z_iadd (e := 60 * s + (k : Int)) gi_193_9 rfl ?_
      refine z_lald (v := b (k : Int)) gi_193_10 gk_85 (by decide) (by omega) (hb _ (by omega) (by omega)) ?_
      refine z_l2i gi_193_11 ?_
      refine z_iret gi_193_12 gr_193 ?_
      show zW _ _ _ _ _ _ _ _ _ _
      refine z_pushJ gp_216_71 ?_
      refine z_icmp_ne gi_216_72 (by omega) zr_1 (fun h2 => ?_) (fun h2 => ?_)
      · refine z_iinc (c := 1) (e := (k : Int) + 1) (ls1 := [some (.ref 50), some (zi s), some (zi w), some (zi (cW b 0 k)), some (zi (cW b 1 k)), some (zi ((k : Int) + 1))]) gi_216_78 rfl rfl rfl rfl ?_
        refine z_goto gi_216_81 ?_
        show zW _ _ _ _ [some (.ref 50), some (zi s), some (zi w), some (zi (cW b 0 k)), some (zi (cW b 1 k)), some (zi ((k : Int) + 1))] [] _ _ _ _
        have hg := ih (k + 1) (by omega) K
        rw [cW_0 (k := k) (v := 0) (by omega), cW_0 (k := k) (v := 1) (by omega)] at hg
        exact hg
      · refine z_iinc (c := 1) (e := (cW b 1 k) + 1) (ls1 := [some (.ref 50), some (zi s), some (zi w), some (zi (cW b 0 k)), some (zi ((cW b 1 k) + 1)), some (zi (k : Int))]) gi_216_75 rfl rfl rfl rfl ?_
        refine z_iinc (c := 1) (e := (k : Int) + 1) (ls1 := [some (.ref 50), some (zi s), some (zi w), some (zi (cW b 0 k)), some (zi ((cW b 1 k) + 1)), some (zi ((k : Int) + 1))]) gi_216_78 rfl rfl rfl rfl ?_
        refine z_goto gi_216_81 ?_
        show zW _ _ _ _ [some (.ref 50), some (zi s), some (zi w), some (zi (cW b 0 k)), some (zi ((cW b 1 k) + 1)), some (zi ((k : Int) + 1))] [] _ _ _ _
        have hg := ih (k + 1) (by omega) K
        rw [cW_0 (k := k) (v := 0) (by omega), cW_1 (k := k) (v := 1) (by omega)] at hg
        exact hg
    · refine z_iinc (c := 1) (e := (cW b 0 k) + 1) (ls1 := [some (.ref 50), some (zi s), some (zi w), some (zi ((cW b 0 k) + 1)), some (zi (cW b 1 k)), some (zi (k : Int))]) rfl rfl rfl rfl rfl ?_
      refine z_aload0 gi_216_64 ?_
      refine z_iload1 gi_216_65 ?_
      refine z_iload5 gi_216_66 ?_
      refine z_cV2 gi_216_68 gk_50 go_193 (Nat.le_of_ble_eq_true rfl) gc_193_RII ?_
      refine z_aload0 gi_193_0 ?_
      refine z_getR (r := 85) gi_193_1 gk_50 (hR _ rm_50_60 (by decide)) ?_
      refine z_pushJ gp_193_4 ?_
      refine z_iload1 gi_193_6 ?_
      refine z_imul (e := 60 * s) gi_193_7 rfl ?_
      refine z_iload2 gi_193_8 ?_
      refine z_iadd (e := 60 * s + (k : Int)) gi_193_9 rfl ?_
      refine z_lald (v := b (k : Int)) gi_193_10 gk_85 (by decide) (by omega) (hb _ (by omega) (by omega)) ?_
      refine z_l2i gi_193_11 ?_
      refine z_iret gi_193_12 gr_193 ?_
      show zW _ _ _ _ _ _ _ _ _ _
      refine z_pushJ gp_216_71 ?_
      refine z_icmp_ne gi_216_72 (by omega) zr_1 (fun h3 => ?_) (fun h3 => ?_)
      · refine z_iinc (c := 1) (e := (k : Int) + 1) (ls1 := [some (.ref 50), some (zi s), some (zi w), some (zi ((cW b 0 k) + 1)), some (zi (cW b 1 k)), some (zi ((k : Int) + 1))]) gi_216_78 rfl rfl rfl rfl ?_
        refine z_goto gi_216_81 ?_
        show zW _ _ _ _ [some (.ref 50), some (zi s), some (zi w), some (zi ((cW b 0 k) + 1)), some (zi (cW b 1 k)), some (zi ((k : Int) + 1))] [] _ _ _ _
        have hg := ih (k + 1) (by omega) K
        rw [cW_1 (k := k) (v := 0) (by omega), cW_0 (k := k) (v := 1) (by omega)] at hg
        exact hg
      · refine z_iinc (c := 1) (e := (cW b 1 k) + 1) (ls1 := [some (.ref 50), some (zi s), some (zi w), some (zi ((cW b 0 k) + 1)), some (zi ((cW b 1 k) + 1)), some (zi (k : Int))]) gi_216_75 rfl rfl rfl rfl ?_
        refine z_iinc (c := 1) (e := (k : Int) + 1) (ls1 := [some (.ref 50), some (zi s), some (zi w), some (zi ((cW b 0 k) + 1)), some (zi ((cW b 1 k) + 1)), some (zi ((k : Int) + 1))]) gi_216_78 rfl rfl rfl rfl ?_
        refine z_goto gi_216_81 ?_
        show zW _ _ _ _ [some (.ref 50), some (zi s), some (zi w), some (zi ((cW b 0 k) + 1)), some (zi ((cW b 1 k) + 1)), some (zi ((k : Int) + 1))] [] _ _ _ _
        have hg := ih (k + 1) (by omega) K
        rw [cW_1 (k := k) (v := 0) (by omega), cW_1 (k := k) (v := 1) (by omega)] at hg
        exact hg
theorem st_strangers_n {X : Nat × (Nat → Int32)} {d : Nat} {J M : zA} {R : zR} {s w : Int} (hr : Rel X J M R) (hs : -2147483648 ≤ s ∧ s < 2147483648) (hw : -2147483648 ≤ w ∧ w < 2147483648) (hs6 : ¬ (0 ≤ s ∧ s < 6)) : zW X (d + 20) 120 0 (gEn 120 [(.ref 0), (zi s), (zi w)]) [] J M R (stP X (d + 20) 216 [(zi s), (zi w)]) := by
  have hr0 := hr
  obtain ⟨hR, hG, hY, hD, hP, hC, hAc, hS, hTp, hX, hW⟩ := hr0
  have hRr : zRoR R := zRoR_of hR
  show zW _ _ _ _ [some (.ref 0), some (zi s), some (zi w), none, none, none] _ _ _ _ _
  refine z_iload1 gi_120_0 ?_
  refine z_cS1 gi_120_1 (Nat.le_of_ble_eq_true rfl) gc_143_I ?_
  refine z_iload0 gi_143_0 ?_
  refine z_if_lt gi_143_1 (by omega) (fun h1 => ?_) (fun h1 => ?_)
  · refine z_pushJ gp_143_14 ?_
    refine z_bret0 gi_143_15 gr_143 ?_
    show zW _ _ _ _ _ _ _ _ _ _
    refine z_if_eqT gi_120_4 zr_0 (by decide) ?_
    refine z_pushJ gp_120_16 ?_
    refine z_iret gi_120_17 gr_120 ?_
    refine ⟨_, rfl, ?_⟩
    show zW _ _ _ _ [some (.ref 50), some (zi s), some (zi w), none, none, none] _ _ _ _ _
    refine z_iload1 gi_216_0 ?_
    refine z_cS1 gi_216_1 (Nat.le_of_ble_eq_true rfl) gc_248_I ?_
    refine z_iload0 gi_248_0 ?_
    refine z_pushJ gp_248_1 ?_
    refine z_pushJ gp_248_2 ?_
    refine z_cS3 gi_248_3 (Nat.le_of_ble_eq_true rfl) gc_148_III ?_
    refine z_iload0 gi_148_0 ?_
    refine z_iload1 gi_148_1 ?_
    refine z_icmp_ltT gi_148_2 (by omega) zr_0 (by omega) ?_
    refine z_pushJ gp_148_14 ?_
    refine z_bret0 gi_148_15 gr_148 ?_
    show zW _ _ _ _ _ _ _ _ _ _
    refine z_bret0 gi_248_6 gr_248 ?_
    show zW _ _ _ _ _ _ _ _ _ _
    refine z_if_eqT gi_216_4 zr_0 (by decide) ?_
    refine z_pushJ gp_216_16 ?_
    refine z_iret gi_216_17 gr_216 ?_
    refine ⟨?_, ?_⟩
    · first | rfl | exact congrArg (fun v => some (zi v)) (by omega) | (exfalso; omega)
    · exact hr
  · refine z_iload0 gi_143_4 ?_
    refine z_pushJ gp_143_5 ?_
    refine z_icmp_geT gi_143_7 (by omega) zr_6 (by omega) ?_
    refine z_pushJ gp_143_14 ?_
    refine z_bret0 gi_143_15 gr_143 ?_
    show zW _ _ _ _ _ _ _ _ _ _
    refine z_if_eqT gi_120_4 zr_0 (by decide) ?_
    refine z_pushJ gp_120_16 ?_
    refine z_iret gi_120_17 gr_120 ?_
    refine ⟨_, rfl, ?_⟩
    show zW _ _ _ _ [some (.ref 50), some (zi s), some (zi w), none, none, none] _ _ _ _ _
    refine z_iload1 gi_216_0 ?_
    refine z_cS1 gi_216_1 (Nat.le_of_ble_eq_true rfl) gc_248_I ?_
    refine z_iload0 gi_248_0 ?_
    refine z_pushJ gp_248_1 ?_
    refine z_pushJ gp_248_2 ?_
    refine z_cS3 gi_248_3 (Nat.le_of_ble_eq_true rfl) gc_148_III ?_
    refine z_iload0 gi_148_0 ?_
    refine z_iload1 gi_148_1 ?_
    refine z_icmp_ltF gi_148_2 (by omega) zr_0 (by omega) ?_
    refine z_iload0 gi_148_5 ?_
    refine z_iload2 gi_148_6 ?_
    refine z_icmp_gtT gi_148_7 (by omega) zr_5 (by omega) ?_
    refine z_pushJ gp_148_14 ?_
    refine z_bret0 gi_148_15 gr_148 ?_
    show zW _ _ _ _ _ _ _ _ _ _
    refine z_bret0 gi_248_6 gr_248 ?_
    show zW _ _ _ _ _ _ _ _ _ _
    refine z_if_eqT gi_216_4 zr_0 (by decide) ?_
    refine z_pushJ gp_216_16 ?_
    refine z_iret gi_216_17 gr_216 ?_
    refine ⟨?_, ?_⟩
    · first | rfl | exact congrArg (fun v => some (zi v)) (by omega) | (exfalso; omega)
    · exact hr
theorem st_strangers_0 {X : Nat × (Nat → Int32)} {d : Nat} {J M : zA} {R : zR} {s w : Int} (hr : Rel X J M R) (hs : -2147483648 ≤ s ∧ s < 2147483648) (hw : -2147483648 ≤ w ∧ w < 2147483648) (hs6 : 0 ≤ s ∧ s < 6) (hh : J (38 + 2 * s.toNat) 0 = 0) : zW X (d + 20) 120 0 (gEn 120 [(.ref 0), (zi s), (zi w)]) [] J M R (stP X (d + 20) 216 [(zi s), (zi w)]) := by
  have hr0 := hr
  obtain ⟨hR, hG, hY, hD, hP, hC, hAc, hS, hTp, hX, hW⟩ := hr0
  have hRr : zRoR R := zRoR_of hR
  have hA0 := hAc
  obtain ⟨a1, a2, a3, a4, a5, a6⟩ := hA0
  have e83 : J 83 s = -1 := (hS s hs6.1 hs6.2).1.symm.trans (cH_0 hh)
  have s3 : 0 ≤ J (38 + 2 * s.toNat) 2 ∧ J (38 + 2 * s.toNat) 2 ≤ 4 := (hS s hs6.1 hs6.2).2.2.1
  have s4 : 0 ≤ J (38 + 2 * s.toNat) 3 ∧ J (38 + 2 * s.toNat) 3 ≤ 60 := (hS s hs6.1 hs6.2).2.2.2.1
  show zW _ _ _ _ [some (.ref 0), some (zi s), some (zi w), none, none, none] _ _ _ _ _
  refine z_iload1 gi_120_0 ?_
  refine z_cS1 gi_120_1 (Nat.le_of_ble_eq_true rfl) gc_143_I ?_
  refine z_iload0 gi_143_0 ?_
  refine z_if_ltF gi_143_1 (by omega) (by omega) ?_
  refine z_iload0 gi_143_4 ?_
  refine z_pushJ gp_143_5 ?_
  refine z_icmp_geF gi_143_7 (by omega) zr_6 (by omega) ?_
  refine z_pushJ gp_143_10 ?_
  refine z_goto gi_143_11 ?_
  refine z_bret1 gi_143_15 gr_143 ?_
  show zW _ _ _ _ _ _ _ _ _ _
  refine z_if_eqF gi_120_4 zr_1 (by decide) ?_
  refine z_iload2 gi_120_7 ?_
  refine z_if_lt gi_120_8 (by omega) (fun h1 => ?_) (fun h1 => ?_)
  · refine z_pushJ gp_120_16 ?_
    refine z_iret gi_120_17 gr_120 ?_
    refine ⟨_, rfl, ?_⟩
    show zW _ _ _ _ [some (.ref 50), some (zi s), some (zi w), none, none, none] _ _ _ _ _
    refine z_iload1 gi_216_0 ?_
    refine z_cS1 gi_216_1 (Nat.le_of_ble_eq_true rfl) gc_248_I ?_
    refine z_iload0 gi_248_0 ?_
    refine z_pushJ gp_248_1 ?_
    refine z_pushJ gp_248_2 ?_
    refine z_cS3 gi_248_3 (Nat.le_of_ble_eq_true rfl) gc_148_III ?_
    refine z_iload0 gi_148_0 ?_
    refine z_iload1 gi_148_1 ?_
    refine z_icmp_ltF gi_148_2 (by omega) zr_0 (by omega) ?_
    refine z_iload0 gi_148_5 ?_
    refine z_iload2 gi_148_6 ?_
    refine z_icmp_gtF gi_148_7 (by omega) zr_5 (by omega) ?_
    refine z_pushJ gp_148_10 ?_
    refine z_goto gi_148_11 ?_
    refine z_bret1 gi_148_15 gr_148 ?_
    show zW _ _ _ _ _ _ _ _ _ _
    refine z_bret1 gi_248_6 gr_248 ?_
    show zW _ _ _ _ _ _ _ _ _ _
    refine z_if_eqF gi_216_4 zr_1 (by decide) ?_
    refine z_iload2 gi_216_7 ?_
    refine z_pushJ gp_216_8 ?_
    refine z_pushJ gp_216_9 ?_
    refine z_cS3 gi_216_10 (Nat.le_of_ble_eq_true rfl) gc_148_III ?_
    refine z_iload0 gi_148_0 ?_
    refine z_iload1 gi_148_1 ?_
    refine z_icmp_ltT gi_148_2 (by omega) zr_0 (by omega) ?_
    refine z_pushJ gp_148_14 ?_
    refine z_bret0 gi_148_15 gr_148 ?_
    show zW _ _ _ _ _ _ _ _ _ _
    refine z_if_neF gi_216_13 zr_0 (by decide) ?_
    refine z_pushJ gp_216_16 ?_
    refine z_iret gi_216_17 gr_216 ?_
    refine ⟨?_, ?_⟩
    · first | rfl | exact congrArg (fun v => some (zi v)) (by first | omega | (split <;> omega)) | (exfalso; omega)
    · exact hr
  · refine z_iload2 gi_120_11 ?_
    refine z_pushJ gp_120_12 ?_
    refine z_icmp_le gi_120_13 (by omega) zr_2 (fun h2 => ?_) (fun h2 => ?_)
    · refine z_aload0 gi_120_18 ?_
      refine z_getR (r := 37) gi_120_19 gk_0 (hR _ rm_0_11) ?_
      refine z_iload1 gi_120_22 ?_
      refine z_aald (r := 38 + 2 * s.toNat) gi_120_23 rfl (by decide) (by omega) (rr_shelf hR (by omega)) ?_
      refine z_callVi (As := []) (le := [some _]) gi_120_24 rfl (zk_shelf (by omega)) (Nat.le_of_ble_eq_true rfl) (Nat.le_of_ble_eq_true rfl) rfl ?_
      refine z_aload0 gi_69_0 ?_
      refine z_getI (v := 0) gi_69_1 (zk_shelf (by omega)) (hh) ?_
      refine z_if_neF gi_69_4 zr_0 (by decide) ?_
      refine z_pushJ gp_69_7 ?_
      refine z_iret gi_69_9 gr_69 ?_
      show zW _ _ _ _ _ _ _ _ _ _
      refine z_istore (ls1 := [some (.ref 0), some (zi s), some (zi w), some (zi (-11)), none, none]) gi_120_27 rfl ?_
      refine z_iload3 gi_120_28 ?_
      refine z_if_geF gi_120_29 zrn_11 (by decide) ?_
      refine z_iload3 gi_120_32 ?_
      refine z_iret gi_120_33 gr_120 ?_
      refine ⟨_, rfl, ?_⟩
      show zW _ _ _ _ [some (.ref 50), some (zi s), some (zi w), none, none, none] _ _ _ _ _
      refine z_iload1 gi_216_0 ?_
      refine z_cS1 gi_216_1 (Nat.le_of_ble_eq_true rfl) gc_248_I ?_
      refine z_iload0 gi_248_0 ?_
      refine z_pushJ gp_248_1 ?_
      refine z_pushJ gp_248_2 ?_
      refine z_cS3 gi_248_3 (Nat.le_of_ble_eq_true rfl) gc_148_III ?_
      refine z_iload0 gi_148_0 ?_
      refine z_iload1 gi_148_1 ?_
      refine z_icmp_ltF gi_148_2 (by omega) zr_0 (by omega) ?_
      refine z_iload0 gi_148_5 ?_
      refine z_iload2 gi_148_6 ?_
      refine z_icmp_gtF gi_148_7 (by omega) zr_5 (by omega) ?_
      refine z_pushJ gp_148_10 ?_
      refine z_goto gi_148_11 ?_
      refine z_bret1 gi_148_15 gr_148 ?_
      show zW _ _ _ _ _ _ _ _ _ _
      refine z_bret1 gi_248_6 gr_248 ?_
      show zW _ _ _ _ _ _ _ _ _ _
      refine z_if_eqF gi_216_4 zr_1 (by decide) ?_
      refine z_iload2 gi_216_7 ?_
      refine z_pushJ gp_216_8 ?_
      refine z_pushJ gp_216_9 ?_
      refine z_cS3 gi_216_10 (Nat.le_of_ble_eq_true rfl) gc_148_III ?_
      refine z_iload0 gi_148_0 ?_
      refine z_iload1 gi_148_1 ?_
      refine z_icmp_ltF gi_148_2 (by omega) zr_0 (by omega) ?_
      refine z_iload0 gi_148_5 ?_
      refine z_iload2 gi_148_6 ?_
      refine z_icmp_gtF gi_148_7 (by omega) zr_2 (by omega) ?_
      refine z_pushJ gp_148_10 ?_
      refine z_goto gi_148_11 ?_
      refine z_bret1 gi_148_15 gr_148 ?_
      show zW _ _ _ _ _ _ _ _ _ _
      refine z_if_neT gi_216_13 zr_1 (by decide) ?_
      refine z_aload0 gi_216_18 ?_
      refine z_iload1 gi_216_19 ?_
      refine z_cV1 gi_216_20 gk_50 go_192 (Nat.le_of_ble_eq_true rfl) gc_192_RI ?_
      refine z_aload0 gi_192_0 ?_
      refine z_getR (r := 83) gi_192_1 gk_50 (hRr _ rm_50_58 (by decide)) ?_
      refine z_iload1 gi_192_4 ?_
      refine z_iald (v := (-1)) gi_192_5 gk_83 (by decide) (by omega) (e83) ?_
      refine z_pushJ gp_192_6 ?_
      refine z_icmp_neF gi_192_7 zrn_1 zrn_1 (by decide) ?_
      refine z_pushJ gp_192_10 ?_
      refine z_goto gi_192_12 ?_
      refine z_iret gi_192_32 gr_192 ?_
      show zW _ _ _ _ _ _ _ _ _ _
      refine z_if_geF gi_216_23 zrn_11 (by decide) ?_
      refine z_aload0 gi_216_26 ?_
      refine z_iload1 gi_216_27 ?_
      refine z_cV1 gi_216_28 gk_50 go_192 (Nat.le_of_ble_eq_true rfl) gc_192_RI ?_
      refine z_aload0 gi_192_0 ?_
      refine z_getR (r := 83) gi_192_1 gk_50 (hRr _ rm_50_58 (by decide)) ?_
      refine z_iload1 gi_192_4 ?_
      refine z_iald (v := (-1)) gi_192_5 gk_83 (by decide) (by omega) (e83) ?_
      refine z_pushJ gp_192_6 ?_
      refine z_icmp_neF gi_192_7 zrn_1 zrn_1 (by decide) ?_
      refine z_pushJ gp_192_10 ?_
      refine z_goto gi_192_12 ?_
      refine z_iret gi_192_32 gr_192 ?_
      show zW _ _ _ _ _ _ _ _ _ _
      refine z_iret gi_216_31 gr_216 ?_
      refine ⟨?_, ?_⟩
      · first | rfl | exact congrArg (fun v => some (zi v)) (by first | omega | (split <;> omega)) | (exfalso; omega)
      · exact hr
    · refine z_pushJ gp_120_16 ?_
      refine z_iret gi_120_17 gr_120 ?_
      refine ⟨_, rfl, ?_⟩
      show zW _ _ _ _ [some (.ref 50), some (zi s), some (zi w), none, none, none] _ _ _ _ _
      refine z_iload1 gi_216_0 ?_
      refine z_cS1 gi_216_1 (Nat.le_of_ble_eq_true rfl) gc_248_I ?_
      refine z_iload0 gi_248_0 ?_
      refine z_pushJ gp_248_1 ?_
      refine z_pushJ gp_248_2 ?_
      refine z_cS3 gi_248_3 (Nat.le_of_ble_eq_true rfl) gc_148_III ?_
      refine z_iload0 gi_148_0 ?_
      refine z_iload1 gi_148_1 ?_
      refine z_icmp_ltF gi_148_2 (by omega) zr_0 (by omega) ?_
      refine z_iload0 gi_148_5 ?_
      refine z_iload2 gi_148_6 ?_
      refine z_icmp_gtF gi_148_7 (by omega) zr_5 (by omega) ?_
      refine z_pushJ gp_148_10 ?_
      refine z_goto gi_148_11 ?_
      refine z_bret1 gi_148_15 gr_148 ?_
      show zW _ _ _ _ _ _ _ _ _ _
      refine z_bret1 gi_248_6 gr_248 ?_
      show zW _ _ _ _ _ _ _ _ _ _
      refine z_if_eqF gi_216_4 zr_1 (by decide) ?_
      refine z_iload2 gi_216_7 ?_
      refine z_pushJ gp_216_8 ?_
      refine z_pushJ gp_216_9 ?_
      refine z_cS3 gi_216_10 (Nat.le_of_ble_eq_true rfl) gc_148_III ?_
      refine z_iload0 gi_148_0 ?_
      refine z_iload1 gi_148_1 ?_
      refine z_icmp_ltF gi_148_2 (by omega) zr_0 (by omega) ?_
      refine z_iload0 gi_148_5 ?_
      refine z_iload2 gi_148_6 ?_
      refine z_icmp_gtT gi_148_7 (by omega) zr_2 (by omega) ?_
      refine z_pushJ gp_148_14 ?_
      refine z_bret0 gi_148_15 gr_148 ?_
      show zW _ _ _ _ _ _ _ _ _ _
      refine z_if_neF gi_216_13 zr_0 (by decide) ?_
      refine z_pushJ gp_216_16 ?_
      refine z_iret gi_216_17 gr_216 ?_
      refine ⟨?_, ?_⟩
      · first | rfl | exact congrArg (fun v => some (zi v)) (by first | omega | (split <;> omega)) | (exfalso; omega)
      · exact hr
theorem st_strangers_1 {X : Nat × (Nat → Int32)} {d : Nat} {J M : zA} {R : zR} {s w : Int} (hr : Rel X J M R) (hs : -2147483648 ≤ s ∧ s < 2147483648) (hw : -2147483648 ≤ w ∧ w < 2147483648) (hs6 : 0 ≤ s ∧ s < 6) (hh : J (38 + 2 * s.toNat) 0 = 1) : zW X (d + 20) 120 0 (gEn 120 [(.ref 0), (zi s), (zi w)]) [] J M R (stP X (d + 20) 216 [(zi s), (zi w)]) := by
  have hr0 := hr
  obtain ⟨hR, hG, hY, hD, hP, hC, hAc, hS, hTp, hX, hW⟩ := hr0
  have hRr : zRoR R := zRoR_of hR
  have hA0 := hAc
  obtain ⟨a1, a2, a3, a4, a5, a6⟩ := hA0
  have e83 : J 83 s = J (38 + 2 * s.toNat) 1 := (hS s hs6.1 hs6.2).1.symm.trans (cH_1 hh)
  have s3 : 0 ≤ J (38 + 2 * s.toNat) 2 ∧ J (38 + 2 * s.toNat) 2 ≤ 4 := (hS s hs6.1 hs6.2).2.2.1
  have s4 : 0 ≤ J (38 + 2 * s.toNat) 3 ∧ J (38 + 2 * s.toNat) 3 ≤ 60 := (hS s hs6.1 hs6.2).2.2.2.1
  have s5 : 0 ≤ J (38 + 2 * s.toNat) 1 ∧ J (38 + 2 * s.toNat) 1 < J 34 1 := (hS s hs6.1 hs6.2).2.2.2.2.1 hh
  show zW _ _ _ _ [some (.ref 0), some (zi s), some (zi w), none, none, none] _ _ _ _ _
  refine z_iload1 gi_120_0 ?_
  refine z_cS1 gi_120_1 (Nat.le_of_ble_eq_true rfl) gc_143_I ?_
  refine z_iload0 gi_143_0 ?_
  refine z_if_ltF gi_143_1 (by omega) (by omega) ?_
  refine z_iload0 gi_143_4 ?_
  refine z_pushJ gp_143_5 ?_
  refine z_icmp_geF gi_143_7 (by omega) zr_6 (by omega) ?_
  refine z_pushJ gp_143_10 ?_
  refine z_goto gi_143_11 ?_
  refine z_bret1 gi_143_15 gr_143 ?_
  show zW _ _ _ _ _ _ _ _ _ _
  refine z_if_eqF gi_120_4 zr_1 (by decide) ?_
  refine z_iload2 gi_120_7 ?_
  refine z_if_lt gi_120_8 (by omega) (fun h1 => ?_) (fun h1 => ?_)
  · refine z_pushJ gp_120_16 ?_
    refine z_iret gi_120_17 gr_120 ?_
    refine ⟨_, rfl, ?_⟩
    show zW _ _ _ _ [some (.ref 50), some (zi s), some (zi w), none, none, none] _ _ _ _ _
    refine z_iload1 gi_216_0 ?_
    refine z_cS1 gi_216_1 (Nat.le_of_ble_eq_true rfl) gc_248_I ?_
    refine z_iload0 gi_248_0 ?_
    refine z_pushJ gp_248_1 ?_
    refine z_pushJ gp_248_2 ?_
    refine z_cS3 gi_248_3 (Nat.le_of_ble_eq_true rfl) gc_148_III ?_
    refine z_iload0 gi_148_0 ?_
    refine z_iload1 gi_148_1 ?_
    refine z_icmp_ltF gi_148_2 (by omega) zr_0 (by omega) ?_
    refine z_iload0 gi_148_5 ?_
    refine z_iload2 gi_148_6 ?_
    refine z_icmp_gtF gi_148_7 (by omega) zr_5 (by omega) ?_
    refine z_pushJ gp_148_10 ?_
    refine z_goto gi_148_11 ?_
    refine z_bret1 gi_148_15 gr_148 ?_
    show zW _ _ _ _ _ _ _ _ _ _
    refine z_bret1 gi_248_6 gr_248 ?_
    show zW _ _ _ _ _ _ _ _ _ _
    refine z_if_eqF gi_216_4 zr_1 (by decide) ?_
    refine z_iload2 gi_216_7 ?_
    refine z_pushJ gp_216_8 ?_
    refine z_pushJ gp_216_9 ?_
    refine z_cS3 gi_216_10 (Nat.le_of_ble_eq_true rfl) gc_148_III ?_
    refine z_iload0 gi_148_0 ?_
    refine z_iload1 gi_148_1 ?_
    refine z_icmp_ltT gi_148_2 (by omega) zr_0 (by omega) ?_
    refine z_pushJ gp_148_14 ?_
    refine z_bret0 gi_148_15 gr_148 ?_
    show zW _ _ _ _ _ _ _ _ _ _
    refine z_if_neF gi_216_13 zr_0 (by decide) ?_
    refine z_pushJ gp_216_16 ?_
    refine z_iret gi_216_17 gr_216 ?_
    refine ⟨?_, ?_⟩
    · first | rfl | exact congrArg (fun v => some (zi v)) (by first | omega | (split <;> omega)) | (exfalso; omega)
    · exact hr
  · refine z_iload2 gi_120_11 ?_
    refine z_pushJ gp_120_12 ?_
    refine z_icmp_le gi_120_13 (by omega) zr_2 (fun h2 => ?_) (fun h2 => ?_)
    · refine z_aload0 gi_120_18 ?_
      refine z_getR (r := 37) gi_120_19 gk_0 (hR _ rm_0_11) ?_
      refine z_iload1 gi_120_22 ?_
      refine z_aald (r := 38 + 2 * s.toNat) gi_120_23 rfl (by decide) (by omega) (rr_shelf hR (by omega)) ?_
      refine z_callVi (As := []) (le := [some _]) gi_120_24 rfl (zk_shelf (by omega)) (Nat.le_of_ble_eq_true rfl) (Nat.le_of_ble_eq_true rfl) rfl ?_
      refine z_aload0 gi_69_0 ?_
      refine z_getI (v := 1) gi_69_1 (zk_shelf (by omega)) (hh) ?_
      refine z_if_neT gi_69_4 zr_1 (by decide) ?_
      refine z_aload0 gi_69_10 ?_
      refine z_callVi (As := []) (le := [some _]) gi_69_11 rfl (zk_shelf (by omega)) (Nat.le_of_ble_eq_true rfl) (Nat.le_of_ble_eq_true rfl) rfl ?_
      refine z_aload0 gi_64_0 ?_
      refine z_getI (v := 1) gi_64_1 (zk_shelf (by omega)) (hh) ?_
      refine z_pushJ gp_64_4 ?_
      refine z_icmp_neT gi_64_5 zr_1 zr_2 (by decide) ?_
      refine z_pushJ gp_64_19 ?_
      refine z_bret0 gi_64_20 gr_64 ?_
      show zW _ _ _ _ _ _ _ _ _ _
      refine z_if_eqT gi_69_14 zr_0 (by decide) ?_
      refine z_pushJ gp_69_21 ?_
      refine z_iret gi_69_23 gr_69 ?_
      show zW _ _ _ _ _ _ _ _ _ _
      refine z_istore (ls1 := [some (.ref 0), some (zi s), some (zi w), some (zi (-12)), none, none]) gi_120_27 rfl ?_
      refine z_iload3 gi_120_28 ?_
      refine z_if_geF gi_120_29 zrn_12 (by decide) ?_
      refine z_iload3 gi_120_32 ?_
      refine z_iret gi_120_33 gr_120 ?_
      refine ⟨_, rfl, ?_⟩
      show zW _ _ _ _ [some (.ref 50), some (zi s), some (zi w), none, none, none] _ _ _ _ _
      refine z_iload1 gi_216_0 ?_
      refine z_cS1 gi_216_1 (Nat.le_of_ble_eq_true rfl) gc_248_I ?_
      refine z_iload0 gi_248_0 ?_
      refine z_pushJ gp_248_1 ?_
      refine z_pushJ gp_248_2 ?_
      refine z_cS3 gi_248_3 (Nat.le_of_ble_eq_true rfl) gc_148_III ?_
      refine z_iload0 gi_148_0 ?_
      refine z_iload1 gi_148_1 ?_
      refine z_icmp_ltF gi_148_2 (by omega) zr_0 (by omega) ?_
      refine z_iload0 gi_148_5 ?_
      refine z_iload2 gi_148_6 ?_
      refine z_icmp_gtF gi_148_7 (by omega) zr_5 (by omega) ?_
      refine z_pushJ gp_148_10 ?_
      refine z_goto gi_148_11 ?_
      refine z_bret1 gi_148_15 gr_148 ?_
      show zW _ _ _ _ _ _ _ _ _ _
      refine z_bret1 gi_248_6 gr_248 ?_
      show zW _ _ _ _ _ _ _ _ _ _
      refine z_if_eqF gi_216_4 zr_1 (by decide) ?_
      refine z_iload2 gi_216_7 ?_
      refine z_pushJ gp_216_8 ?_
      refine z_pushJ gp_216_9 ?_
      refine z_cS3 gi_216_10 (Nat.le_of_ble_eq_true rfl) gc_148_III ?_
      refine z_iload0 gi_148_0 ?_
      refine z_iload1 gi_148_1 ?_
      refine z_icmp_ltF gi_148_2 (by omega) zr_0 (by omega) ?_
      refine z_iload0 gi_148_5 ?_
      refine z_iload2 gi_148_6 ?_
      refine z_icmp_gtF gi_148_7 (by omega) zr_2 (by omega) ?_
      refine z_pushJ gp_148_10 ?_
      refine z_goto gi_148_11 ?_
      refine z_bret1 gi_148_15 gr_148 ?_
      show zW _ _ _ _ _ _ _ _ _ _
      refine z_if_neT gi_216_13 zr_1 (by decide) ?_
      refine z_aload0 gi_216_18 ?_
      refine z_iload1 gi_216_19 ?_
      refine z_cV1 gi_216_20 gk_50 go_192 (Nat.le_of_ble_eq_true rfl) gc_192_RI ?_
      refine z_aload0 gi_192_0 ?_
      refine z_getR (r := 83) gi_192_1 gk_50 (hRr _ rm_50_58 (by decide)) ?_
      refine z_iload1 gi_192_4 ?_
      refine z_iald (v := J (38 + 2 * s.toNat) 1) gi_192_5 gk_83 (by decide) (by omega) (e83) ?_
      refine z_pushJ gp_192_6 ?_
      refine z_icmp_ne gi_192_7 (by omega) zrn_1 (fun h3 => ?_) (fun h3 => ?_)
      · refine z_aload0 gi_192_15 ?_
        refine z_getR (r := 83) gi_192_16 gk_50 (hRr _ rm_50_58 (by decide)) ?_
        refine z_iload1 gi_192_19 ?_
        refine z_iald (v := J (38 + 2 * s.toNat) 1) gi_192_20 gk_83 (by decide) (by omega) (e83) ?_
        refine z_pushJ gp_192_21 ?_
        refine z_icmp_ne gi_192_23 (by omega) zrn_2 (fun h4 => ?_) (fun h4 => ?_)
        · refine z_pushJ gp_192_30 ?_
          refine z_iret gi_192_32 gr_192 ?_
          show zW _ _ _ _ _ _ _ _ _ _
          refine z_if_geF gi_216_23 zrn_12 (by decide) ?_
          refine z_aload0 gi_216_26 ?_
          refine z_iload1 gi_216_27 ?_
          refine z_cV1 gi_216_28 gk_50 go_192 (Nat.le_of_ble_eq_true rfl) gc_192_RI ?_
          refine z_aload0 gi_192_0 ?_
          refine z_getR (r := 83) gi_192_1 gk_50 (hRr _ rm_50_58 (by decide)) ?_
          refine z_iload1 gi_192_4 ?_
          refine z_iald (v := J (38 + 2 * s.toNat) 1) gi_192_5 gk_83 (by decide) (by omega) (e83) ?_
          refine z_pushJ gp_192_6 ?_
          refine z_icmp_ne gi_192_7 (by omega) zrn_1 (fun h5 => ?_) (fun h5 => ?_)
          · refine z_aload0 gi_192_15 ?_
            refine z_getR (r := 83) gi_192_16 gk_50 (hRr _ rm_50_58 (by decide)) ?_
            refine z_iload1 gi_192_19 ?_
            refine z_iald (v := J (38 + 2 * s.toNat) 1) gi_192_20 gk_83 (by decide) (by omega) (e83) ?_
            refine z_pushJ gp_192_21 ?_
            refine z_icmp_ne gi_192_23 (by omega) zrn_2 (fun h6 => ?_) (fun h6 => ?_)
            · refine z_pushJ gp_192_30 ?_
              refine z_iret gi_192_32 gr_192 ?_
              show zW _ _ _ _ _ _ _ _ _ _
              refine z_iret gi_216_31 gr_216 ?_
              refine ⟨?_, ?_⟩
              · first | rfl | exact congrArg (fun v => some (zi v)) (by first | omega | (split <;> omega)) | (exfalso; omega)
              · exact hr
            · refine z_pushJ gp_192_26 ?_
              refine z_goto gi_192_27 ?_
              refine z_iret gi_192_32 gr_192 ?_
              show zW _ _ _ _ _ _ _ _ _ _
              refine z_iret gi_216_31 gr_216 ?_
              refine ⟨?_, ?_⟩
              · first | rfl | exact congrArg (fun v => some (zi v)) (by first | omega | (split <;> omega)) | (exfalso; omega)
              · exact hr
          · refine z_pushJ gp_192_10 ?_
            refine z_goto gi_192_12 ?_
            refine z_iret gi_192_32 gr_192 ?_
            show zW _ _ _ _ _ _ _ _ _ _
            refine z_iret gi_216_31 gr_216 ?_
            refine ⟨?_, ?_⟩
            · first | rfl | exact congrArg (fun v => some (zi v)) (by first | omega | (split <;> omega)) | (exfalso; omega)
            · exact hr
        · refine z_pushJ gp_192_26 ?_
          refine z_goto gi_192_27 ?_
          refine z_iret gi_192_32 gr_192 ?_
          show zW _ _ _ _ _ _ _ _ _ _
          refine z_if_geT gi_216_23 zr_0 (by decide) ?_
          refine z_pushJ gp_216_32 ?_
          refine z_istore (ls1 := [some (.ref 50), some (zi s), some (zi w), some (zi 0), none, none]) gi_216_33 rfl ?_
          refine z_pushJ gp_216_34 ?_
          refine z_istore (ls1 := [some (.ref 50), some (zi s), some (zi w), some (zi 0), some (zi 0), none]) gi_216_35 rfl ?_
          refine z_pushJ gp_216_37 ?_
          refine z_istore (ls1 := [some (.ref 50), some (zi s), some (zi w), some (zi 0), some (zi 0), some (zi 0)]) gi_216_38 rfl ?_
          show zW _ _ _ _ [some (.ref 50), some (zi s), some (zi w), some (zi 0), some (zi 0), some (zi 0)] [] _ _ _ _
          exfalso
          omega
      · refine z_pushJ gp_192_10 ?_
        refine z_goto gi_192_12 ?_
        refine z_iret gi_192_32 gr_192 ?_
        show zW _ _ _ _ _ _ _ _ _ _
        refine z_if_geF gi_216_23 zrn_11 (by decide) ?_
        refine z_aload0 gi_216_26 ?_
        refine z_iload1 gi_216_27 ?_
        refine z_cV1 gi_216_28 gk_50 go_192 (Nat.le_of_ble_eq_true rfl) gc_192_RI ?_
        refine z_aload0 gi_192_0 ?_
        refine z_getR (r := 83) gi_192_1 gk_50 (hRr _ rm_50_58 (by decide)) ?_
        refine z_iload1 gi_192_4 ?_
        refine z_iald (v := J (38 + 2 * s.toNat) 1) gi_192_5 gk_83 (by decide) (by omega) (e83) ?_
        refine z_pushJ gp_192_6 ?_
        refine z_icmp_neF gi_192_7 (by omega) zrn_1 (by omega) ?_
        refine z_pushJ gp_192_10 ?_
        refine z_goto gi_192_12 ?_
        refine z_iret gi_192_32 gr_192 ?_
        show zW _ _ _ _ _ _ _ _ _ _
        refine z_iret gi_216_31 gr_216 ?_
        refine ⟨?_, ?_⟩
        · first | rfl | exact congrArg (fun v => some (zi v)) (by first | omega | (split <;> omega)) | (exfalso; omega)
        · exact hr
    · refine z_pushJ gp_120_16 ?_
      refine z_iret gi_120_17 gr_120 ?_
      refine ⟨_, rfl, ?_⟩
      show zW _ _ _ _ [some (.ref 50), some (zi s), some (zi w), none, none, none] _ _ _ _ _
      refine z_iload1 gi_216_0 ?_
      refine z_cS1 gi_216_1 (Nat.le_of_ble_eq_true rfl) gc_248_I ?_
      refine z_iload0 gi_248_0 ?_
      refine z_pushJ gp_248_1 ?_
      refine z_pushJ gp_248_2 ?_
      refine z_cS3 gi_248_3 (Nat.le_of_ble_eq_true rfl) gc_148_III ?_
      refine z_iload0 gi_148_0 ?_
      refine z_iload1 gi_148_1 ?_
      refine z_icmp_ltF gi_148_2 (by omega) zr_0 (by omega) ?_
      refine z_iload0 gi_148_5 ?_
      refine z_iload2 gi_148_6 ?_
      refine z_icmp_gtF gi_148_7 (by omega) zr_5 (by omega) ?_
      refine z_pushJ gp_148_10 ?_
      refine z_goto gi_148_11 ?_
      refine z_bret1 gi_148_15 gr_148 ?_
      show zW _ _ _ _ _ _ _ _ _ _
      refine z_bret1 gi_248_6 gr_248 ?_
      show zW _ _ _ _ _ _ _ _ _ _
      refine z_if_eqF gi_216_4 zr_1 (by decide) ?_
      refine z_iload2 gi_216_7 ?_
      refine z_pushJ gp_216_8 ?_
      refine z_pushJ gp_216_9 ?_
      refine z_cS3 gi_216_10 (Nat.le_of_ble_eq_true rfl) gc_148_III ?_
      refine z_iload0 gi_148_0 ?_
      refine z_iload1 gi_148_1 ?_
      refine z_icmp_ltF gi_148_2 (by omega) zr_0 (by omega) ?_
      refine z_iload0 gi_148_5 ?_
      refine z_iload2 gi_148_6 ?_
      refine z_icmp_gtT gi_148_7 (by omega) zr_2 (by omega) ?_
      refine z_pushJ gp_148_14 ?_
      refine z_bret0 gi_148_15 gr_148 ?_
      show zW _ _ _ _ _ _ _ _ _ _
      refine z_if_neF gi_216_13 zr_0 (by decide) ?_
      refine z_pushJ gp_216_16 ?_
      refine z_iret gi_216_17 gr_216 ?_
      refine ⟨?_, ?_⟩
      · first | rfl | exact congrArg (fun v => some (zi v)) (by first | omega | (split <;> omega)) | (exfalso; omega)
      · exact hr
theorem st_strangers_2 {X : Nat × (Nat → Int32)} {d : Nat} {J M : zA} {R : zR} {s w : Int} (hr : Rel X J M R) (hs : -2147483648 ≤ s ∧ s < 2147483648) (hw : -2147483648 ≤ w ∧ w < 2147483648) (hs6 : 0 ≤ s ∧ s < 6) (hh : J (38 + 2 * s.toNat) 0 = 2) : zW X (d + 20) 120 0 (gEn 120 [(.ref 0), (zi s), (zi w)]) [] J M R (stP X (d + 20) 216 [(zi s), (zi w)]) := by
  have hr0 := hr
  obtain ⟨hR, hG, hY, hD, hP, hC, hAc, hS, hTp, hX, hW⟩ := hr0
  have hRr : zRoR R := zRoR_of hR
  have hA0 := hAc
  obtain ⟨a1, a2, a3, a4, a5, a6⟩ := hA0
  have e83 : J 83 s = -2 - J (38 + 2 * s.toNat) 2 := (hS s hs6.1 hs6.2).1.symm.trans (cH_2 hh)
  have s3 : 0 ≤ J (38 + 2 * s.toNat) 2 ∧ J (38 + 2 * s.toNat) 2 ≤ 4 := (hS s hs6.1 hs6.2).2.2.1
  have s4 : 0 ≤ J (38 + 2 * s.toNat) 3 ∧ J (38 + 2 * s.toNat) 3 ≤ 60 := (hS s hs6.1 hs6.2).2.2.2.1
  have s6 := (hS s hs6.1 hs6.2).2.2.2.2.2 hh
  have s7 : J 84 s = J (38 + 2 * s.toNat) 3 := s6.1.symm
  have s8 : ∀ i, 0 ≤ i → i < J (38 + 2 * s.toNat) 3 → M (39 + 2 * s.toNat) i = M 85 (60 * s + i) := s6.2.1
  show zW _ _ _ _ [some (.ref 0), some (zi s), some (zi w), none, none, none] _ _ _ _ _
  refine z_iload1 gi_120_0 ?_
  refine z_cS1 gi_120_1 (Nat.le_of_ble_eq_true rfl) gc_143_I ?_
  refine z_iload0 gi_143_0 ?_
  refine z_if_ltF gi_143_1 (by omega) (by omega) ?_
  refine z_iload0 gi_143_4 ?_
  refine z_pushJ gp_143_5 ?_
  refine z_icmp_geF gi_143_7 (by omega) zr_6 (by omega) ?_
  refine z_pushJ gp_143_10 ?_
  refine z_goto gi_143_11 ?_
  refine z_bret1 gi_143_15 gr_143 ?_
  show zW _ _ _ _ _ _ _ _ _ _
  refine z_if_eqF gi_120_4 zr_1 (by decide) ?_
  refine z_iload2 gi_120_7 ?_
  refine z_if_lt gi_120_8 (by omega) (fun h1 => ?_) (fun h1 => ?_)
  · refine z_pushJ gp_120_16 ?_
    refine z_iret gi_120_17 gr_120 ?_
    refine ⟨_, rfl, ?_⟩
    show zW _ _ _ _ [some (.ref 50), some (zi s), some (zi w), none, none, none] _ _ _ _ _
    refine z_iload1 gi_216_0 ?_
    refine z_cS1 gi_216_1 (Nat.le_of_ble_eq_true rfl) gc_248_I ?_
    refine z_iload0 gi_248_0 ?_
    refine z_pushJ gp_248_1 ?_
    refine z_pushJ gp_248_2 ?_
    refine z_cS3 gi_248_3 (Nat.le_of_ble_eq_true rfl) gc_148_III ?_
    refine z_iload0 gi_148_0 ?_
    refine z_iload1 gi_148_1 ?_
    refine z_icmp_ltF gi_148_2 (by omega) zr_0 (by omega) ?_
    refine z_iload0 gi_148_5 ?_
    refine z_iload2 gi_148_6 ?_
    refine z_icmp_gtF gi_148_7 (by omega) zr_5 (by omega) ?_
    refine z_pushJ gp_148_10 ?_
    refine z_goto gi_148_11 ?_
    refine z_bret1 gi_148_15 gr_148 ?_
    show zW _ _ _ _ _ _ _ _ _ _
    refine z_bret1 gi_248_6 gr_248 ?_
    show zW _ _ _ _ _ _ _ _ _ _
    refine z_if_eqF gi_216_4 zr_1 (by decide) ?_
    refine z_iload2 gi_216_7 ?_
    refine z_pushJ gp_216_8 ?_
    refine z_pushJ gp_216_9 ?_
    refine z_cS3 gi_216_10 (Nat.le_of_ble_eq_true rfl) gc_148_III ?_
    refine z_iload0 gi_148_0 ?_
    refine z_iload1 gi_148_1 ?_
    refine z_icmp_ltT gi_148_2 (by omega) zr_0 (by omega) ?_
    refine z_pushJ gp_148_14 ?_
    refine z_bret0 gi_148_15 gr_148 ?_
    show zW _ _ _ _ _ _ _ _ _ _
    refine z_if_neF gi_216_13 zr_0 (by decide) ?_
    refine z_pushJ gp_216_16 ?_
    refine z_iret gi_216_17 gr_216 ?_
    refine ⟨?_, ?_⟩
    · first | rfl | exact congrArg (fun v => some (zi v)) (by first | omega | (split <;> omega)) | (exfalso; omega)
    · exact hr
  · refine z_iload2 gi_120_11 ?_
    refine z_pushJ gp_120_12 ?_
    refine z_icmp_le gi_120_13 (by omega) zr_2 (fun h2 => ?_) (fun h2 => ?_)
    · refine z_aload0 gi_120_18 ?_
      refine z_getR (r := 37) gi_120_19 gk_0 (hR _ rm_0_11) ?_
      refine z_iload1 gi_120_22 ?_
      refine z_aald (r := 38 + 2 * s.toNat) gi_120_23 rfl (by decide) (by omega) (rr_shelf hR (by omega)) ?_
      refine z_callVi (As := []) (le := [some _]) gi_120_24 rfl (zk_shelf (by omega)) (Nat.le_of_ble_eq_true rfl) (Nat.le_of_ble_eq_true rfl) rfl ?_
      refine z_aload0 gi_69_0 ?_
      refine z_getI (v := 2) gi_69_1 (zk_shelf (by omega)) (hh) ?_
      refine z_if_neT gi_69_4 zr_2 (by decide) ?_
      refine z_aload0 gi_69_10 ?_
      refine z_callVi (As := []) (le := [some _]) gi_69_11 rfl (zk_shelf (by omega)) (Nat.le_of_ble_eq_true rfl) (Nat.le_of_ble_eq_true rfl) rfl ?_
      refine z_aload0 gi_64_0 ?_
      refine z_getI (v := 2) gi_64_1 (zk_shelf (by omega)) (hh) ?_
      refine z_pushJ gp_64_4 ?_
      refine z_icmp_neF gi_64_5 zr_2 zr_2 (by decide) ?_
      refine z_aload0 gi_64_8 ?_
      refine z_getI (v := J (38 + 2 * s.toNat) 2) gi_64_9 (zk_shelf (by omega)) (rfl) ?_
      refine z_if_ne gi_64_12 (by omega) (fun h3 => ?_) (fun h3 => ?_)
      · refine z_pushJ gp_64_19 ?_
        refine z_bret0 gi_64_20 gr_64 ?_
        show zW _ _ _ _ _ _ _ _ _ _
        refine z_if_eqT gi_69_14 zr_0 (by decide) ?_
        refine z_pushJ gp_69_21 ?_
        refine z_iret gi_69_23 gr_69 ?_
        show zW _ _ _ _ _ _ _ _ _ _
        refine z_istore (ls1 := [some (.ref 0), some (zi s), some (zi w), some (zi (-12)), none, none]) gi_120_27 rfl ?_
        refine z_iload3 gi_120_28 ?_
        refine z_if_geF gi_120_29 zrn_12 (by decide) ?_
        refine z_iload3 gi_120_32 ?_
        refine z_iret gi_120_33 gr_120 ?_
        refine ⟨_, rfl, ?_⟩
        show zW _ _ _ _ [some (.ref 50), some (zi s), some (zi w), none, none, none] _ _ _ _ _
        refine z_iload1 gi_216_0 ?_
        refine z_cS1 gi_216_1 (Nat.le_of_ble_eq_true rfl) gc_248_I ?_
        refine z_iload0 gi_248_0 ?_
        refine z_pushJ gp_248_1 ?_
        refine z_pushJ gp_248_2 ?_
        refine z_cS3 gi_248_3 (Nat.le_of_ble_eq_true rfl) gc_148_III ?_
        refine z_iload0 gi_148_0 ?_
        refine z_iload1 gi_148_1 ?_
        refine z_icmp_ltF gi_148_2 (by omega) zr_0 (by omega) ?_
        refine z_iload0 gi_148_5 ?_
        refine z_iload2 gi_148_6 ?_
        refine z_icmp_gtF gi_148_7 (by omega) zr_5 (by omega) ?_
        refine z_pushJ gp_148_10 ?_
        refine z_goto gi_148_11 ?_
        refine z_bret1 gi_148_15 gr_148 ?_
        show zW _ _ _ _ _ _ _ _ _ _
        refine z_bret1 gi_248_6 gr_248 ?_
        show zW _ _ _ _ _ _ _ _ _ _
        refine z_if_eqF gi_216_4 zr_1 (by decide) ?_
        refine z_iload2 gi_216_7 ?_
        refine z_pushJ gp_216_8 ?_
        refine z_pushJ gp_216_9 ?_
        refine z_cS3 gi_216_10 (Nat.le_of_ble_eq_true rfl) gc_148_III ?_
        refine z_iload0 gi_148_0 ?_
        refine z_iload1 gi_148_1 ?_
        refine z_icmp_ltF gi_148_2 (by omega) zr_0 (by omega) ?_
        refine z_iload0 gi_148_5 ?_
        refine z_iload2 gi_148_6 ?_
        refine z_icmp_gtF gi_148_7 (by omega) zr_2 (by omega) ?_
        refine z_pushJ gp_148_10 ?_
        refine z_goto gi_148_11 ?_
        refine z_bret1 gi_148_15 gr_148 ?_
        show zW _ _ _ _ _ _ _ _ _ _
        refine z_if_neT gi_216_13 zr_1 (by decide) ?_
        refine z_aload0 gi_216_18 ?_
        refine z_iload1 gi_216_19 ?_
        refine z_cV1 gi_216_20 gk_50 go_192 (Nat.le_of_ble_eq_true rfl) gc_192_RI ?_
        refine z_aload0 gi_192_0 ?_
        refine z_getR (r := 83) gi_192_1 gk_50 (hRr _ rm_50_58 (by decide)) ?_
        refine z_iload1 gi_192_4 ?_
        refine z_iald (v := (-2) - (J (38 + 2 * s.toNat) 2)) gi_192_5 gk_83 (by decide) (by omega) (e83) ?_
        refine z_pushJ gp_192_6 ?_
        refine z_icmp_neT gi_192_7 (by omega) zrn_1 (by omega) ?_
        refine z_aload0 gi_192_15 ?_
        refine z_getR (r := 83) gi_192_16 gk_50 (hRr _ rm_50_58 (by decide)) ?_
        refine z_iload1 gi_192_19 ?_
        refine z_iald (v := (-2) - (J (38 + 2 * s.toNat) 2)) gi_192_20 gk_83 (by decide) (by omega) (e83) ?_
        refine z_pushJ gp_192_21 ?_
        refine z_icmp_neT gi_192_23 (by omega) zrn_2 (by omega) ?_
        refine z_pushJ gp_192_30 ?_
        refine z_iret gi_192_32 gr_192 ?_
        show zW _ _ _ _ _ _ _ _ _ _
        refine z_if_geF gi_216_23 zrn_12 (by decide) ?_
        refine z_aload0 gi_216_26 ?_
        refine z_iload1 gi_216_27 ?_
        refine z_cV1 gi_216_28 gk_50 go_192 (Nat.le_of_ble_eq_true rfl) gc_192_RI ?_
        refine z_aload0 gi_192_0 ?_
        refine z_getR (r := 83) gi_192_1 gk_50 (hRr _ rm_50_58 (by decide)) ?_
        refine z_iload1 gi_192_4 ?_
        refine z_iald (v := (-2) - (J (38 + 2 * s.toNat) 2)) gi_192_5 gk_83 (by decide) (by omega) (e83) ?_
        refine z_pushJ gp_192_6 ?_
        refine z_icmp_neT gi_192_7 (by omega) zrn_1 (by omega) ?_
        refine z_aload0 gi_192_15 ?_
        refine z_getR (r := 83) gi_192_16 gk_50 (hRr _ rm_50_58 (by decide)) ?_
        refine z_iload1 gi_192_19 ?_
        refine z_iald (v := (-2) - (J (38 + 2 * s.toNat) 2)) gi_192_20 gk_83 (by decide) (by omega) (e83) ?_
        refine z_pushJ gp_192_21 ?_
        refine z_icmp_neT gi_192_23 (by omega) zrn_2 (by omega) ?_
        refine z_pushJ gp_192_30 ?_
        refine z_iret gi_192_32 gr_192 ?_
        show zW _ _ _ _ _ _ _ _ _ _
        refine z_iret gi_216_31 gr_216 ?_
        refine ⟨?_, ?_⟩
        · first | rfl | exact congrArg (fun v => some (zi v)) (by first | omega | (split <;> omega)) | (exfalso; omega)
        · exact hr
      · refine z_pushJ gp_64_15 ?_
        refine z_goto gi_64_16 ?_
        refine z_bret1 gi_64_20 gr_64 ?_
        show zW _ _ _ _ _ _ _ _ _ _
        refine z_if_eqF gi_69_14 zr_1 (by decide) ?_
        refine z_pushJ gp_69_17 ?_
        refine z_goto gi_69_18 ?_
        refine z_iret gi_69_23 gr_69 ?_
        show zW _ _ _ _ _ _ _ _ _ _
        refine z_istore (ls1 := [some (.ref 0), some (zi s), some (zi w), some (zi 0), none, none]) gi_120_27 rfl ?_
        refine z_iload3 gi_120_28 ?_
        refine z_if_geT gi_120_29 zr_0 (by decide) ?_
        refine z_aload0 rfl ?_
        refine z_getR (r := 37) rfl gk_0 (hR _ rm_0_11) ?_
        refine z_iload1 rfl ?_
        refine z_aald (r := 38 + 2 * s.toNat) rfl rfl (by decide) (by omega) (rr_shelf hR (by omega)) ?_
        refine z_pushL (z := 0) rfl rfl ?_
        refine z_callVi (As := [_]) (le := [some _, some _, none, none, none]) rfl rfl (zk_shelf (by omega)) (Nat.le_of_ble_eq_true rfl) (Nat.le_of_ble_eq_true rfl) rfl ?_
        refine z_pushJ gp_75_0 ?_
        refine z_istore (ls1 := [some (.ref (38 + 2 * s.toNat)), some (zl 0), none, some (zi 0), none]) gi_75_1 rfl ?_
        refine z_pushJ gp_75_2 ?_
        refine z_istore (ls1 := [some (.ref (38 + 2 * s.toNat)), some (zl 0), none, some (zi 0), some (zi 0)]) gi_75_3 rfl ?_
        show zW _ _ _ _ [some (.ref (38 + 2 * s.toNat)), some (zl 0), none, some (zi 0), some (zi 0)] [] _ _ _ _
        have hbr := s6.2.2 (by omega)
        refine cellsC_z (b := (fun i => M (39 + 2 * s.toNat) i)) (z := (J (38 + 2 * s.toNat) 3)) (v := 0) hR hs6 s4 hbr rfl (fun i _ _ => rfl) (by decide) (J (38 + 2 * s.toNat) 3).toNat 0 (by omega) ?_
        have q4 := @cW_r (fun i => M (39 + 2 * s.toNat) i) 0 (J (38 + 2 * s.toNat) 3).toNat
        refine z_iload3 gi_75_35 ?_
        refine z_iret gi_75_36 gr_75 ?_
        show zW _ _ _ _ _ _ _ _ _ _
        refine z_istore (ls1 := [some (.ref 0), some (zi s), some (zi w), some (zi 0), some (zi (cW (fun i => M (39 + 2 * s.toNat) i) 0 (J (38 + 2 * s.toNat) 3).toNat)), none]) rfl rfl ?_
        refine z_aload0 rfl ?_
        refine z_getR (r := 37) rfl gk_0 (hR _ rm_0_11) ?_
        refine z_iload1 rfl ?_
        refine z_aald (r := 38 + 2 * s.toNat) rfl rfl (by decide) (by omega) (rr_shelf hR (by omega)) ?_
        refine z_pushL (z := 1) rfl rfl ?_
        refine z_callVi (As := [_]) (le := [some _, some _, none, none, none]) rfl rfl (zk_shelf (by omega)) (Nat.le_of_ble_eq_true rfl) (Nat.le_of_ble_eq_true rfl) rfl ?_
        refine z_pushJ gp_75_0 ?_
        refine z_istore (ls1 := [some (.ref (38 + 2 * s.toNat)), some (zl 1), none, some (zi 0), none]) gi_75_1 rfl ?_
        refine z_pushJ gp_75_2 ?_
        refine z_istore (ls1 := [some (.ref (38 + 2 * s.toNat)), some (zl 1), none, some (zi 0), some (zi 0)]) gi_75_3 rfl ?_
        show zW _ _ _ _ [some (.ref (38 + 2 * s.toNat)), some (zl 1), none, some (zi 0), some (zi 0)] [] _ _ _ _
        have hbr := s6.2.2 (by omega)
        refine cellsC_z (b := (fun i => M (39 + 2 * s.toNat) i)) (z := (J (38 + 2 * s.toNat) 3)) (v := 1) hR hs6 s4 hbr rfl (fun i _ _ => rfl) (by decide) (J (38 + 2 * s.toNat) 3).toNat 0 (by omega) ?_
        have q5 := @cW_r (fun i => M (39 + 2 * s.toNat) i) 1 (J (38 + 2 * s.toNat) 3).toNat
        refine z_iload3 gi_75_35 ?_
        refine z_iret gi_75_36 gr_75 ?_
        show zW _ _ _ _ _ _ _ _ _ _
        refine z_istore (ls1 := [some (.ref 0), some (zi s), some (zi w), some (zi 0), some (zi (cW (fun i => M (39 + 2 * s.toNat) i) 0 (J (38 + 2 * s.toNat) 3).toNat)), some (zi (cW (fun i => M (39 + 2 * s.toNat) i) 1 (J (38 + 2 * s.toNat) 3).toNat))]) rfl rfl ?_
        refine z_iload2 rfl ?_
        refine z_if_ne rfl (by omega) (fun h6 => ?_) (fun h6 => ?_)
        · refine z_iload2 rfl ?_
          refine z_pushJ gp_120_71 ?_
          refine z_icmp_ne rfl (by omega) zr_2 (fun h7 => ?_) (fun h7 => ?_)
          · refine z_iload4 rfl ?_
            refine z_iload5 rfl ?_
            refine z_icmp_ne rfl (by omega) (by omega) (fun h8 => ?_) (fun h8 => ?_)
            · refine z_iload4 rfl ?_
              refine z_iload5 rfl ?_
              refine z_icmp_le rfl (by omega) (by omega) (fun h9 => ?_) (fun h9 => ?_)
              · refine z_pushJ gp_120_105 ?_
                refine z_iret gi_120_106 gr_120 ?_
                refine ⟨_, rfl, ?_⟩
                show zW _ _ _ _ [some (.ref 50), some (zi s), some (zi w), none, none, none] _ _ _ _ _
                refine z_iload1 gi_216_0 ?_
                refine z_cS1 gi_216_1 (Nat.le_of_ble_eq_true rfl) gc_248_I ?_
                refine z_iload0 gi_248_0 ?_
                refine z_pushJ gp_248_1 ?_
                refine z_pushJ gp_248_2 ?_
                refine z_cS3 gi_248_3 (Nat.le_of_ble_eq_true rfl) gc_148_III ?_
                refine z_iload0 gi_148_0 ?_
                refine z_iload1 gi_148_1 ?_
                refine z_icmp_ltF gi_148_2 (by omega) zr_0 (by omega) ?_
                refine z_iload0 gi_148_5 ?_
                refine z_iload2 gi_148_6 ?_
                refine z_icmp_gtF gi_148_7 (by omega) zr_5 (by omega) ?_
                refine z_pushJ gp_148_10 ?_
                refine z_goto gi_148_11 ?_
                refine z_bret1 gi_148_15 gr_148 ?_
                show zW _ _ _ _ _ _ _ _ _ _
                refine z_bret1 gi_248_6 gr_248 ?_
                show zW _ _ _ _ _ _ _ _ _ _
                refine z_if_eqF gi_216_4 zr_1 (by decide) ?_
                refine z_iload2 gi_216_7 ?_
                refine z_pushJ gp_216_8 ?_
                refine z_pushJ gp_216_9 ?_
                refine z_cS3 gi_216_10 (Nat.le_of_ble_eq_true rfl) gc_148_III ?_
                refine z_iload0 gi_148_0 ?_
                refine z_iload1 gi_148_1 ?_
                refine z_icmp_ltF gi_148_2 (by omega) zr_0 (by omega) ?_
                refine z_iload0 gi_148_5 ?_
                refine z_iload2 gi_148_6 ?_
                refine z_icmp_gtF gi_148_7 (by omega) zr_2 (by omega) ?_
                refine z_pushJ gp_148_10 ?_
                refine z_goto gi_148_11 ?_
                refine z_bret1 gi_148_15 gr_148 ?_
                show zW _ _ _ _ _ _ _ _ _ _
                refine z_if_neT gi_216_13 zr_1 (by decide) ?_
                refine z_aload0 gi_216_18 ?_
                refine z_iload1 gi_216_19 ?_
                refine z_cV1 gi_216_20 gk_50 go_192 (Nat.le_of_ble_eq_true rfl) gc_192_RI ?_
                refine z_aload0 gi_192_0 ?_
                refine z_getR (r := 83) gi_192_1 gk_50 (hRr _ rm_50_58 (by decide)) ?_
                refine z_iload1 gi_192_4 ?_
                refine z_iald (v := (-2) - (J (38 + 2 * s.toNat) 2)) gi_192_5 gk_83 (by decide) (by omega) (e83) ?_
                refine z_pushJ gp_192_6 ?_
                refine z_icmp_neT gi_192_7 (by omega) zrn_1 (by omega) ?_
                refine z_aload0 gi_192_15 ?_
                refine z_getR (r := 83) gi_192_16 gk_50 (hRr _ rm_50_58 (by decide)) ?_
                refine z_iload1 gi_192_19 ?_
                refine z_iald (v := (-2) - (J (38 + 2 * s.toNat) 2)) gi_192_20 gk_83 (by decide) (by omega) (e83) ?_
                refine z_pushJ gp_192_21 ?_
                refine z_icmp_neF gi_192_23 (by omega) zrn_2 (by omega) ?_
                refine z_pushJ gp_192_26 ?_
                refine z_goto gi_192_27 ?_
                refine z_iret gi_192_32 gr_192 ?_
                show zW _ _ _ _ _ _ _ _ _ _
                refine z_if_geT gi_216_23 zr_0 (by decide) ?_
                refine z_pushJ gp_216_32 ?_
                refine z_istore (ls1 := [some (.ref 50), some (zi s), some (zi w), some (zi 0), none, none]) gi_216_33 rfl ?_
                refine z_pushJ gp_216_34 ?_
                refine z_istore (ls1 := [some (.ref 50), some (zi s), some (zi w), some (zi 0), some (zi 0), none]) gi_216_35 rfl ?_
                refine z_pushJ gp_216_37 ?_
                refine z_istore (ls1 := [some (.ref 50), some (zi s), some (zi w), some (zi 0), some (zi 0), some (zi 0)]) gi_216_38 rfl ?_
                show zW _ _ _ _ [some (.ref 50), some (zi s), some (zi w), some (zi 0), some (zi 0), some (zi 0)] [] _ _ _ _
                have hbr := s6.2.2 (by omega)
                refine cellsR_z (d := d + 14) (b := (fun i => M (39 + 2 * s.toNat) i)) (z := (J (38 + 2 * s.toNat) 3)) hRr hs6 s4 hbr s7 (fun i i1 i2 => (s8 i i1 i2).symm) (J (38 + 2 * s.toNat) 3).toNat 0 (by omega) ?_
                refine z_iload2 gi_216_84 ?_
                refine z_if_neT gi_216_85 (by omega) (by omega) ?_
                refine z_iload2 gi_216_101 ?_
                refine z_pushJ gp_216_102 ?_
                refine z_icmp_neT gi_216_103 (by omega) zr_2 (by omega) ?_
                refine z_iload3 gi_216_115 ?_
                refine z_iload4 gi_216_116 ?_
                refine z_icmp_ne gi_216_118 (by omega) (by omega) (fun h10 => ?_) (fun h10 => ?_)
                · refine z_iload3 gi_216_126 ?_
                  refine z_iload4 gi_216_127 ?_
                  refine z_icmp_leT gi_216_129 (by omega) (by omega) (by omega) ?_
                  refine z_pushJ gp_216_136 ?_
                  refine z_iret gi_216_137 gr_216 ?_
                  refine ⟨?_, ?_⟩
                  · first | rfl | exact congrArg (fun v => some (zi v)) (by first | omega | (split <;> omega)) | (exfalso; omega)
                  · exact hr
                · refine z_pushJ gp_216_121 ?_
                  refine z_goto gi_216_123 ?_
                  refine z_iret gi_216_137 gr_216 ?_
                  refine ⟨?_, ?_⟩
                  · first | rfl | exact congrArg (fun v => some (zi v)) (by first | omega | (split <;> omega)) | (exfalso; omega)
                  · exact hr
              · refine z_pushJ gp_120_101 ?_
                refine z_goto rfl ?_
                refine z_iret gi_120_106 gr_120 ?_
                refine ⟨_, rfl, ?_⟩
                show zW _ _ _ _ [some (.ref 50), some (zi s), some (zi w), none, none, none] _ _ _ _ _
                refine z_iload1 gi_216_0 ?_
                refine z_cS1 gi_216_1 (Nat.le_of_ble_eq_true rfl) gc_248_I ?_
                refine z_iload0 gi_248_0 ?_
                refine z_pushJ gp_248_1 ?_
                refine z_pushJ gp_248_2 ?_
                refine z_cS3 gi_248_3 (Nat.le_of_ble_eq_true rfl) gc_148_III ?_
                refine z_iload0 gi_148_0 ?_
                refine z_iload1 gi_148_1 ?_
                refine z_icmp_ltF gi_148_2 (by omega) zr_0 (by omega) ?_
                refine z_iload0 gi_148_5 ?_
                refine z_iload2 gi_148_6 ?_
                refine z_icmp_gtF gi_148_7 (by omega) zr_5 (by omega) ?_
                refine z_pushJ gp_148_10 ?_
                refine z_goto gi_148_11 ?_
                refine z_bret1 gi_148_15 gr_148 ?_
                show zW _ _ _ _ _ _ _ _ _ _
                refine z_bret1 gi_248_6 gr_248 ?_
                show zW _ _ _ _ _ _ _ _ _ _
                refine z_if_eqF gi_216_4 zr_1 (by decide) ?_
                refine z_iload2 gi_216_7 ?_
                refine z_pushJ gp_216_8 ?_
                refine z_pushJ gp_216_9 ?_
                refine z_cS3 gi_216_10 (Nat.le_of_ble_eq_true rfl) gc_148_III ?_
                refine z_iload0 gi_148_0 ?_
                refine z_iload1 gi_148_1 ?_
                refine z_icmp_ltF gi_148_2 (by omega) zr_0 (by omega) ?_
                refine z_iload0 gi_148_5 ?_
                refine z_iload2 gi_148_6 ?_
                refine z_icmp_gtF gi_148_7 (by omega) zr_2 (by omega) ?_
                refine z_pushJ gp_148_10 ?_
                refine z_goto gi_148_11 ?_
                refine z_bret1 gi_148_15 gr_148 ?_
                show zW _ _ _ _ _ _ _ _ _ _
                refine z_if_neT gi_216_13 zr_1 (by decide) ?_
                refine z_aload0 gi_216_18 ?_
                refine z_iload1 gi_216_19 ?_
                refine z_cV1 gi_216_20 gk_50 go_192 (Nat.le_of_ble_eq_true rfl) gc_192_RI ?_
                refine z_aload0 gi_192_0 ?_
                refine z_getR (r := 83) gi_192_1 gk_50 (hRr _ rm_50_58 (by decide)) ?_
                refine z_iload1 gi_192_4 ?_
                refine z_iald (v := (-2) - (J (38 + 2 * s.toNat) 2)) gi_192_5 gk_83 (by decide) (by omega) (e83) ?_
                refine z_pushJ gp_192_6 ?_
                refine z_icmp_neT gi_192_7 (by omega) zrn_1 (by omega) ?_
                refine z_aload0 gi_192_15 ?_
                refine z_getR (r := 83) gi_192_16 gk_50 (hRr _ rm_50_58 (by decide)) ?_
                refine z_iload1 gi_192_19 ?_
                refine z_iald (v := (-2) - (J (38 + 2 * s.toNat) 2)) gi_192_20 gk_83 (by decide) (by omega) (e83) ?_
                refine z_pushJ gp_192_21 ?_
                refine z_icmp_neF gi_192_23 (by omega) zrn_2 (by omega) ?_
                refine z_pushJ gp_192_26 ?_
                refine z_goto gi_192_27 ?_
                refine z_iret gi_192_32 gr_192 ?_
                show zW _ _ _ _ _ _ _ _ _ _
                refine z_if_geT gi_216_23 zr_0 (by decide) ?_
                refine z_pushJ gp_216_32 ?_
                refine z_istore (ls1 := [some (.ref 50), some (zi s), some (zi w), some (zi 0), none, none]) gi_216_33 rfl ?_
                refine z_pushJ gp_216_34 ?_
                refine z_istore (ls1 := [some (.ref 50), some (zi s), some (zi w), some (zi 0), some (zi 0), none]) gi_216_35 rfl ?_
                refine z_pushJ gp_216_37 ?_
                refine z_istore (ls1 := [some (.ref 50), some (zi s), some (zi w), some (zi 0), some (zi 0), some (zi 0)]) gi_216_38 rfl ?_
                show zW _ _ _ _ [some (.ref 50), some (zi s), some (zi w), some (zi 0), some (zi 0), some (zi 0)] [] _ _ _ _
                have hbr := s6.2.2 (by omega)
                refine cellsR_z (d := d + 14) (b := (fun i => M (39 + 2 * s.toNat) i)) (z := (J (38 + 2 * s.toNat) 3)) hRr hs6 s4 hbr s7 (fun i i1 i2 => (s8 i i1 i2).symm) (J (38 + 2 * s.toNat) 3).toNat 0 (by omega) ?_
                refine z_iload2 gi_216_84 ?_
                refine z_if_neT gi_216_85 (by omega) (by omega) ?_
                refine z_iload2 gi_216_101 ?_
                refine z_pushJ gp_216_102 ?_
                refine z_icmp_neT gi_216_103 (by omega) zr_2 (by omega) ?_
                refine z_iload3 gi_216_115 ?_
                refine z_iload4 gi_216_116 ?_
                refine z_icmp_neT gi_216_118 (by omega) (by omega) (by omega) ?_
                refine z_iload3 gi_216_126 ?_
                refine z_iload4 gi_216_127 ?_
                refine z_icmp_leF gi_216_129 (by omega) (by omega) (by omega) ?_
                refine z_pushJ gp_216_132 ?_
                refine z_goto rfl ?_
                refine z_iret gi_216_137 gr_216 ?_
                refine ⟨?_, ?_⟩
                · first | rfl | exact congrArg (fun v => some (zi v)) (by first | omega | (split <;> omega)) | (exfalso; omega)
                · exact hr
            · refine z_pushJ gp_120_91 ?_
              refine z_iret rfl gr_120 ?_
              refine ⟨_, rfl, ?_⟩
              show zW _ _ _ _ [some (.ref 50), some (zi s), some (zi w), none, none, none] _ _ _ _ _
              refine z_iload1 gi_216_0 ?_
              refine z_cS1 gi_216_1 (Nat.le_of_ble_eq_true rfl) gc_248_I ?_
              refine z_iload0 gi_248_0 ?_
              refine z_pushJ gp_248_1 ?_
              refine z_pushJ gp_248_2 ?_
              refine z_cS3 gi_248_3 (Nat.le_of_ble_eq_true rfl) gc_148_III ?_
              refine z_iload0 gi_148_0 ?_
              refine z_iload1 gi_148_1 ?_
              refine z_icmp_ltF gi_148_2 (by omega) zr_0 (by omega) ?_
              refine z_iload0 gi_148_5 ?_
              refine z_iload2 gi_148_6 ?_
              refine z_icmp_gtF gi_148_7 (by omega) zr_5 (by omega) ?_
              refine z_pushJ gp_148_10 ?_
              refine z_goto gi_148_11 ?_
              refine z_bret1 gi_148_15 gr_148 ?_
              show zW _ _ _ _ _ _ _ _ _ _
              refine z_bret1 gi_248_6 gr_248 ?_
              show zW _ _ _ _ _ _ _ _ _ _
              refine z_if_eqF gi_216_4 zr_1 (by decide) ?_
              refine z_iload2 gi_216_7 ?_
              refine z_pushJ gp_216_8 ?_
              refine z_pushJ gp_216_9 ?_
              refine z_cS3 gi_216_10 (Nat.le_of_ble_eq_true rfl) gc_148_III ?_
              refine z_iload0 gi_148_0 ?_
              refine z_iload1 gi_148_1 ?_
              refine z_icmp_ltF gi_148_2 (by omega) zr_0 (by omega) ?_
              refine z_iload0 gi_148_5 ?_
              refine z_iload2 gi_148_6 ?_
              refine z_icmp_gtF gi_148_7 (by omega) zr_2 (by omega) ?_
              refine z_pushJ gp_148_10 ?_
              refine z_goto gi_148_11 ?_
              refine z_bret1 gi_148_15 gr_148 ?_
              show zW _ _ _ _ _ _ _ _ _ _
              refine z_if_neT gi_216_13 zr_1 (by decide) ?_
              refine z_aload0 gi_216_18 ?_
              refine z_iload1 gi_216_19 ?_
              refine z_cV1 gi_216_20 gk_50 go_192 (Nat.le_of_ble_eq_true rfl) gc_192_RI ?_
              refine z_aload0 gi_192_0 ?_
              refine z_getR (r := 83) gi_192_1 gk_50 (hRr _ rm_50_58 (by decide)) ?_
              refine z_iload1 gi_192_4 ?_
              refine z_iald (v := (-2) - (J (38 + 2 * s.toNat) 2)) gi_192_5 gk_83 (by decide) (by omega) (e83) ?_
              refine z_pushJ gp_192_6 ?_
              refine z_icmp_neT gi_192_7 (by omega) zrn_1 (by omega) ?_
              refine z_aload0 gi_192_15 ?_
              refine z_getR (r := 83) gi_192_16 gk_50 (hRr _ rm_50_58 (by decide)) ?_
              refine z_iload1 gi_192_19 ?_
              refine z_iald (v := (-2) - (J (38 + 2 * s.toNat) 2)) gi_192_20 gk_83 (by decide) (by omega) (e83) ?_
              refine z_pushJ gp_192_21 ?_
              refine z_icmp_neF gi_192_23 (by omega) zrn_2 (by omega) ?_
              refine z_pushJ gp_192_26 ?_
              refine z_goto gi_192_27 ?_
              refine z_iret gi_192_32 gr_192 ?_
              show zW _ _ _ _ _ _ _ _ _ _
              refine z_if_geT gi_216_23 zr_0 (by decide) ?_
              refine z_pushJ gp_216_32 ?_
              refine z_istore (ls1 := [some (.ref 50), some (zi s), some (zi w), some (zi 0), none, none]) gi_216_33 rfl ?_
              refine z_pushJ gp_216_34 ?_
              refine z_istore (ls1 := [some (.ref 50), some (zi s), some (zi w), some (zi 0), some (zi 0), none]) gi_216_35 rfl ?_
              refine z_pushJ gp_216_37 ?_
              refine z_istore (ls1 := [some (.ref 50), some (zi s), some (zi w), some (zi 0), some (zi 0), some (zi 0)]) gi_216_38 rfl ?_
              show zW _ _ _ _ [some (.ref 50), some (zi s), some (zi w), some (zi 0), some (zi 0), some (zi 0)] [] _ _ _ _
              have hbr := s6.2.2 (by omega)
              refine cellsR_z (d := d + 14) (b := (fun i => M (39 + 2 * s.toNat) i)) (z := (J (38 + 2 * s.toNat) 3)) hRr hs6 s4 hbr s7 (fun i i1 i2 => (s8 i i1 i2).symm) (J (38 + 2 * s.toNat) 3).toNat 0 (by omega) ?_
              refine z_iload2 gi_216_84 ?_
              refine z_if_neT gi_216_85 (by omega) (by omega) ?_
              refine z_iload2 gi_216_101 ?_
              refine z_pushJ gp_216_102 ?_
              refine z_icmp_neT gi_216_103 (by omega) zr_2 (by omega) ?_
              refine z_iload3 gi_216_115 ?_
              refine z_iload4 gi_216_116 ?_
              refine z_icmp_neF gi_216_118 (by omega) (by omega) (by omega) ?_
              refine z_pushJ gp_216_121 ?_
              refine z_goto gi_216_123 ?_
              refine z_iret gi_216_137 gr_216 ?_
              refine ⟨?_, ?_⟩
              · first | rfl | exact congrArg (fun v => some (zi v)) (by first | omega | (split <;> omega)) | (exfalso; omega)
              · exact hr
          · refine z_iload4 rfl ?_
            refine z_iload5 rfl ?_
            refine z_isub (e := (cW (fun i => M (39 + 2 * s.toNat) i) 0 (J (38 + 2 * s.toNat) 3).toNat) - (cW (fun i => M (39 + 2 * s.toNat) i) 1 (J (38 + 2 * s.toNat) 3).toNat)) rfl rfl ?_
            refine z_mabs (e := if 0 ≤ (cW (fun i => M (39 + 2 * s.toNat) i) 0 (J (38 + 2 * s.toNat) 3).toNat) - (cW (fun i => M (39 + 2 * s.toNat) i) 1 (J (38 + 2 * s.toNat) 3).toNat) then (cW (fun i => M (39 + 2 * s.toNat) i) 0 (J (38 + 2 * s.toNat) 3).toNat) - (cW (fun i => M (39 + 2 * s.toNat) i) 1 (J (38 + 2 * s.toNat) 3).toNat) else -((cW (fun i => M (39 + 2 * s.toNat) i) 0 (J (38 + 2 * s.toNat) 3).toNat) - (cW (fun i => M (39 + 2 * s.toNat) i) 1 (J (38 + 2 * s.toNat) 3).toNat))) rfl (by omega) (Nat.le_of_ble_eq_true rfl) rfl ?_
            refine z_iret rfl gr_120 ?_
            refine ⟨_, rfl, ?_⟩
            show zW _ _ _ _ [some (.ref 50), some (zi s), some (zi w), none, none, none] _ _ _ _ _
            refine z_iload1 gi_216_0 ?_
            refine z_cS1 gi_216_1 (Nat.le_of_ble_eq_true rfl) gc_248_I ?_
            refine z_iload0 gi_248_0 ?_
            refine z_pushJ gp_248_1 ?_
            refine z_pushJ gp_248_2 ?_
            refine z_cS3 gi_248_3 (Nat.le_of_ble_eq_true rfl) gc_148_III ?_
            refine z_iload0 gi_148_0 ?_
            refine z_iload1 gi_148_1 ?_
            refine z_icmp_ltF gi_148_2 (by omega) zr_0 (by omega) ?_
            refine z_iload0 gi_148_5 ?_
            refine z_iload2 gi_148_6 ?_
            refine z_icmp_gtF gi_148_7 (by omega) zr_5 (by omega) ?_
            refine z_pushJ gp_148_10 ?_
            refine z_goto gi_148_11 ?_
            refine z_bret1 gi_148_15 gr_148 ?_
            show zW _ _ _ _ _ _ _ _ _ _
            refine z_bret1 gi_248_6 gr_248 ?_
            show zW _ _ _ _ _ _ _ _ _ _
            refine z_if_eqF gi_216_4 zr_1 (by decide) ?_
            refine z_iload2 gi_216_7 ?_
            refine z_pushJ gp_216_8 ?_
            refine z_pushJ gp_216_9 ?_
            refine z_cS3 gi_216_10 (Nat.le_of_ble_eq_true rfl) gc_148_III ?_
            refine z_iload0 gi_148_0 ?_
            refine z_iload1 gi_148_1 ?_
            refine z_icmp_ltF gi_148_2 (by omega) zr_0 (by omega) ?_
            refine z_iload0 gi_148_5 ?_
            refine z_iload2 gi_148_6 ?_
            refine z_icmp_gtF gi_148_7 (by omega) zr_2 (by omega) ?_
            refine z_pushJ gp_148_10 ?_
            refine z_goto gi_148_11 ?_
            refine z_bret1 gi_148_15 gr_148 ?_
            show zW _ _ _ _ _ _ _ _ _ _
            refine z_if_neT gi_216_13 zr_1 (by decide) ?_
            refine z_aload0 gi_216_18 ?_
            refine z_iload1 gi_216_19 ?_
            refine z_cV1 gi_216_20 gk_50 go_192 (Nat.le_of_ble_eq_true rfl) gc_192_RI ?_
            refine z_aload0 gi_192_0 ?_
            refine z_getR (r := 83) gi_192_1 gk_50 (hRr _ rm_50_58 (by decide)) ?_
            refine z_iload1 gi_192_4 ?_
            refine z_iald (v := (-2) - (J (38 + 2 * s.toNat) 2)) gi_192_5 gk_83 (by decide) (by omega) (e83) ?_
            refine z_pushJ gp_192_6 ?_
            refine z_icmp_neT gi_192_7 (by omega) zrn_1 (by omega) ?_
            refine z_aload0 gi_192_15 ?_
            refine z_getR (r := 83) gi_192_16 gk_50 (hRr _ rm_50_58 (by decide)) ?_
            refine z_iload1 gi_192_19 ?_
            refine z_iald (v := (-2) - (J (38 + 2 * s.toNat) 2)) gi_192_20 gk_83 (by decide) (by omega) (e83) ?_
            refine z_pushJ gp_192_21 ?_
            refine z_icmp_neF gi_192_23 (by omega) zrn_2 (by omega) ?_
            refine z_pushJ gp_192_26 ?_
            refine z_goto gi_192_27 ?_
            refine z_iret gi_192_32 gr_192 ?_
            show zW _ _ _ _ _ _ _ _ _ _
            refine z_if_geT gi_216_23 zr_0 (by decide) ?_
            refine z_pushJ gp_216_32 ?_
            refine z_istore (ls1 := [some (.ref 50), some (zi s), some (zi w), some (zi 0), none, none]) gi_216_33 rfl ?_
            refine z_pushJ gp_216_34 ?_
            refine z_istore (ls1 := [some (.ref 50), some (zi s), some (zi w), some (zi 0), some (zi 0), none]) gi_216_35 rfl ?_
            refine z_pushJ gp_216_37 ?_
            refine z_istore (ls1 := [some (.ref 50), some (zi s), some (zi w), some (zi 0), some (zi 0), some (zi 0)]) gi_216_38 rfl ?_
            show zW _ _ _ _ [some (.ref 50), some (zi s), some (zi w), some (zi 0), some (zi 0), some (zi 0)] [] _ _ _ _
            have hbr := s6.2.2 (by omega)
            refine cellsR_z (d := d + 14) (b := (fun i => M (39 + 2 * s.toNat) i)) (z := (J (38 + 2 * s.toNat) 3)) hRr hs6 s4 hbr s7 (fun i i1 i2 => (s8 i i1 i2).symm) (J (38 + 2 * s.toNat) 3).toNat 0 (by omega) ?_
            refine z_iload2 gi_216_84 ?_
            refine z_if_neT gi_216_85 (by omega) (by omega) ?_
            refine z_iload2 gi_216_101 ?_
            refine z_pushJ gp_216_102 ?_
            refine z_icmp_neF gi_216_103 (by omega) zr_2 (by omega) ?_
            refine z_iload3 rfl ?_
            refine z_iload4 rfl ?_
            refine z_callSP (As := [_, _]) (v := ab ((cW (fun i => M (39 + 2 * s.toNat) i) 0 (J (38 + 2 * s.toNat) 3).toNat) - (cW (fun i => M (39 + 2 * s.toNat) i) 1 (J (38 + 2 * s.toNat) 3).toNat))) rfl rfl (Nat.le_of_ble_eq_true rfl) (Nat.le_of_ble_eq_true rfl) (apart_k (by omega) (by omega)) ?_
            have q10 := @ab_r ((cW (fun i => M (39 + 2 * s.toNat) i) 0 (J (38 + 2 * s.toNat) 3).toNat) - (cW (fun i => M (39 + 2 * s.toNat) i) 1 (J (38 + 2 * s.toNat) 3).toNat))
            refine z_goto rfl ?_
            refine z_iret gi_216_137 gr_216 ?_
            refine ⟨?_, ?_⟩
            · first | rfl | (exfalso; omega)
            · exact hr
        · refine z_iload4 rfl ?_
          refine z_iload5 rfl ?_
          refine z_mmin (e := if (cW (fun i => M (39 + 2 * s.toNat) i) 1 (J (38 + 2 * s.toNat) 3).toNat) < (cW (fun i => M (39 + 2 * s.toNat) i) 0 (J (38 + 2 * s.toNat) 3).toNat) then cW (fun i => M (39 + 2 * s.toNat) i) 1 (J (38 + 2 * s.toNat) 3).toNat else cW (fun i => M (39 + 2 * s.toNat) i) 0 (J (38 + 2 * s.toNat) 3).toNat) rfl (by omega) (by omega) (Nat.le_of_ble_eq_true rfl) rfl ?_
          refine z_iret rfl gr_120 ?_
          refine ⟨_, rfl, ?_⟩
          show zW _ _ _ _ [some (.ref 50), some (zi s), some (zi w), none, none, none] _ _ _ _ _
          refine z_iload1 gi_216_0 ?_
          refine z_cS1 gi_216_1 (Nat.le_of_ble_eq_true rfl) gc_248_I ?_
          refine z_iload0 gi_248_0 ?_
          refine z_pushJ gp_248_1 ?_
          refine z_pushJ gp_248_2 ?_
          refine z_cS3 gi_248_3 (Nat.le_of_ble_eq_true rfl) gc_148_III ?_
          refine z_iload0 gi_148_0 ?_
          refine z_iload1 gi_148_1 ?_
          refine z_icmp_ltF gi_148_2 (by omega) zr_0 (by omega) ?_
          refine z_iload0 gi_148_5 ?_
          refine z_iload2 gi_148_6 ?_
          refine z_icmp_gtF gi_148_7 (by omega) zr_5 (by omega) ?_
          refine z_pushJ gp_148_10 ?_
          refine z_goto gi_148_11 ?_
          refine z_bret1 gi_148_15 gr_148 ?_
          show zW _ _ _ _ _ _ _ _ _ _
          refine z_bret1 gi_248_6 gr_248 ?_
          show zW _ _ _ _ _ _ _ _ _ _
          refine z_if_eqF gi_216_4 zr_1 (by decide) ?_
          refine z_iload2 gi_216_7 ?_
          refine z_pushJ gp_216_8 ?_
          refine z_pushJ gp_216_9 ?_
          refine z_cS3 gi_216_10 (Nat.le_of_ble_eq_true rfl) gc_148_III ?_
          refine z_iload0 gi_148_0 ?_
          refine z_iload1 gi_148_1 ?_
          refine z_icmp_ltF gi_148_2 (by omega) zr_0 (by omega) ?_
          refine z_iload0 gi_148_5 ?_
          refine z_iload2 gi_148_6 ?_
          refine z_icmp_gtF gi_148_7 (by omega) zr_2 (by omega) ?_
          refine z_pushJ gp_148_10 ?_
          refine z_goto gi_148_11 ?_
          refine z_bret1 gi_148_15 gr_148 ?_
          show zW _ _ _ _ _ _ _ _ _ _
          refine z_if_neT gi_216_13 zr_1 (by decide) ?_
          refine z_aload0 gi_216_18 ?_
          refine z_iload1 gi_216_19 ?_
          refine z_cV1 gi_216_20 gk_50 go_192 (Nat.le_of_ble_eq_true rfl) gc_192_RI ?_
          refine z_aload0 gi_192_0 ?_
          refine z_getR (r := 83) gi_192_1 gk_50 (hRr _ rm_50_58 (by decide)) ?_
          refine z_iload1 gi_192_4 ?_
          refine z_iald (v := (-2) - (J (38 + 2 * s.toNat) 2)) gi_192_5 gk_83 (by decide) (by omega) (e83) ?_
          refine z_pushJ gp_192_6 ?_
          refine z_icmp_neT gi_192_7 (by omega) zrn_1 (by omega) ?_
          refine z_aload0 gi_192_15 ?_
          refine z_getR (r := 83) gi_192_16 gk_50 (hRr _ rm_50_58 (by decide)) ?_
          refine z_iload1 gi_192_19 ?_
          refine z_iald (v := (-2) - (J (38 + 2 * s.toNat) 2)) gi_192_20 gk_83 (by decide) (by omega) (e83) ?_
          refine z_pushJ gp_192_21 ?_
          refine z_icmp_neF gi_192_23 (by omega) zrn_2 (by omega) ?_
          refine z_pushJ gp_192_26 ?_
          refine z_goto gi_192_27 ?_
          refine z_iret gi_192_32 gr_192 ?_
          show zW _ _ _ _ _ _ _ _ _ _
          refine z_if_geT gi_216_23 zr_0 (by decide) ?_
          refine z_pushJ gp_216_32 ?_
          refine z_istore (ls1 := [some (.ref 50), some (zi s), some (zi w), some (zi 0), none, none]) gi_216_33 rfl ?_
          refine z_pushJ gp_216_34 ?_
          refine z_istore (ls1 := [some (.ref 50), some (zi s), some (zi w), some (zi 0), some (zi 0), none]) gi_216_35 rfl ?_
          refine z_pushJ gp_216_37 ?_
          refine z_istore (ls1 := [some (.ref 50), some (zi s), some (zi w), some (zi 0), some (zi 0), some (zi 0)]) gi_216_38 rfl ?_
          show zW _ _ _ _ [some (.ref 50), some (zi s), some (zi w), some (zi 0), some (zi 0), some (zi 0)] [] _ _ _ _
          have hbr := s6.2.2 (by omega)
          refine cellsR_z (d := d + 14) (b := (fun i => M (39 + 2 * s.toNat) i)) (z := (J (38 + 2 * s.toNat) 3)) hRr hs6 s4 hbr s7 (fun i i1 i2 => (s8 i i1 i2).symm) (J (38 + 2 * s.toNat) 3).toNat 0 (by omega) ?_
          refine z_iload2 gi_216_84 ?_
          refine z_if_neF gi_216_85 (by omega) (by omega) ?_
          refine z_iload3 rfl ?_
          refine z_iload4 rfl ?_
          refine z_icmp_ge rfl (by omega) (by omega) (fun h10 => ?_) (fun h10 => ?_)
          · refine z_iload4 rfl ?_
            refine z_iret gi_216_100 gr_216 ?_
            refine ⟨?_, ?_⟩
            · first | rfl | exact congrArg (fun v => some (zi v)) (by first | omega | (split <;> omega)) | (exfalso; omega)
            · exact hr
          · refine z_iload3 rfl ?_
            refine z_goto rfl ?_
            refine z_iret gi_216_100 gr_216 ?_
            refine ⟨?_, ?_⟩
            · first | rfl | exact congrArg (fun v => some (zi v)) (by first | omega | (split <;> omega)) | (exfalso; omega)
            · exact hr
    · refine z_pushJ gp_120_16 ?_
      refine z_iret gi_120_17 gr_120 ?_
      refine ⟨_, rfl, ?_⟩
      show zW _ _ _ _ [some (.ref 50), some (zi s), some (zi w), none, none, none] _ _ _ _ _
      refine z_iload1 gi_216_0 ?_
      refine z_cS1 gi_216_1 (Nat.le_of_ble_eq_true rfl) gc_248_I ?_
      refine z_iload0 gi_248_0 ?_
      refine z_pushJ gp_248_1 ?_
      refine z_pushJ gp_248_2 ?_
      refine z_cS3 gi_248_3 (Nat.le_of_ble_eq_true rfl) gc_148_III ?_
      refine z_iload0 gi_148_0 ?_
      refine z_iload1 gi_148_1 ?_
      refine z_icmp_ltF gi_148_2 (by omega) zr_0 (by omega) ?_
      refine z_iload0 gi_148_5 ?_
      refine z_iload2 gi_148_6 ?_
      refine z_icmp_gtF gi_148_7 (by omega) zr_5 (by omega) ?_
      refine z_pushJ gp_148_10 ?_
      refine z_goto gi_148_11 ?_
      refine z_bret1 gi_148_15 gr_148 ?_
      show zW _ _ _ _ _ _ _ _ _ _
      refine z_bret1 gi_248_6 gr_248 ?_
      show zW _ _ _ _ _ _ _ _ _ _
      refine z_if_eqF gi_216_4 zr_1 (by decide) ?_
      refine z_iload2 gi_216_7 ?_
      refine z_pushJ gp_216_8 ?_
      refine z_pushJ gp_216_9 ?_
      refine z_cS3 gi_216_10 (Nat.le_of_ble_eq_true rfl) gc_148_III ?_
      refine z_iload0 gi_148_0 ?_
      refine z_iload1 gi_148_1 ?_
      refine z_icmp_ltF gi_148_2 (by omega) zr_0 (by omega) ?_
      refine z_iload0 gi_148_5 ?_
      refine z_iload2 gi_148_6 ?_
      refine z_icmp_gtT gi_148_7 (by omega) zr_2 (by omega) ?_
      refine z_pushJ gp_148_14 ?_
      refine z_bret0 gi_148_15 gr_148 ?_
      show zW _ _ _ _ _ _ _ _ _ _
      refine z_if_neF gi_216_13 zr_0 (by decide) ?_
      refine z_pushJ gp_216_16 ?_
      refine z_iret gi_216_17 gr_216 ?_
      refine ⟨?_, ?_⟩
      · first | rfl | exact congrArg (fun v => some (zi v)) (by first | omega | (split <;> omega)) | (exfalso; omega)
      · exact hr
theorem st_strangers {X : Nat × (Nat → Int32)} {d : Nat} {J M : zA} {R : zR} {s w : Int} (hr : Rel X J M R) (hs : -2147483648 ≤ s ∧ s < 2147483648) (hw : -2147483648 ≤ w ∧ w < 2147483648) : zW X (d + 20) 120 0 (gEn 120 [(.ref 0), (zi s), (zi w)]) [] J M R (stP X (d + 20) 216 [(zi s), (zi w)]) := by
  by_cases hs6 : 0 ≤ s ∧ s < 6
  · have hS : RelS J M := hr.2.2.2.2.2.2.2.1
    have h2 := (hS s hs6.1 hs6.2).2.1
    have h4 : J (38 + 2 * s.toNat) 0 = 0 ∨ J (38 + 2 * s.toNat) 0 = 1 ∨ J (38 + 2 * s.toNat) 0 = 2 := by omega
    rcases h4 with hh | hh | hh
    · exact st_strangers_0 hr hs hw hs6 hh
    · exact st_strangers_1 hr hs hw hs6 hh
    · exact st_strangers_2 hr hs hw hs6 hh
  · exact st_strangers_n hr hs hw hs6
