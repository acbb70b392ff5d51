/-- the places of a cell below n are set -/
noncomputable def zS (J : zA) (c : Nat) (f : Int → Int) (n : Int) : zA := fun x y => if x = c then (if 0 ≤ y ∧ y < n then f y else J c y) else J x y
theorem zS_0 {J : zA} {c : Nat} {f : Int → Int} : zS J c f 0 = J := by
  funext x y
  unfold zS
  split
  · rename_i h
    rw [if_neg (by omega), h]
  · rfl
theorem zS_n {J : zA} {c x : Nat} {f : Int → Int} {n y : Int} (h : x ≠ c) : zS J c f n x y = J x y := by unfold zS; rw [if_neg h]
theorem zS_i {J : zA} {c : Nat} {f : Int → Int} {n y : Int} : zS J c f n c y = if 0 ≤ y ∧ y < n then f y else J c y := by unfold zS; rw [if_pos rfl]
theorem zS_at {J : zA} {c : Nat} {f : Int → Int} {n y : Int} (h : 0 ≤ y ∧ y < n) : zS J c f n c y = f y := by rw [zS_i, if_pos h]
theorem zS_s {J : zA} {c : Nat} {f : Int → Int} {i v : Int} (hi : 0 ≤ i) (hv : f i = v) : zU (zS J c f i) c i v = zS J c f (i + 1) := by
  subst hv
  funext x y
  by_cases h : x = c
  · subst h
    rw [zU_i, zS_i, zS_i]
    by_cases e : y = i
    · rw [if_pos e, if_pos (by omega), e]
    · rw [if_neg e]
      by_cases q : 0 ≤ y ∧ y < i
      · rw [if_pos q, if_pos (by omega)]
      · rw [if_neg q, if_neg (by omega)]
  · rw [zU_n h, zS_n h, zS_n h]
theorem zK_S {k : Nat → Int → Bool} {A J : zA} {c : Nat} {f : Int → Int} {n : Int} (h : zK k A J) (hk : ∀ y, k c y = false) : zK k A (zS J c f n) := fun x y q => by
  by_cases e : x = c
  · rw [e, hk y] at q; cases q
  · rw [zS_n e]; exact h x y q
theorem zS_01 {X : Nat × (Nat → Int32)} {d k pc : Nat} {ls : List (Option Value)} {st : List Value} {J M : zA} {R : zR} {P : zP} {c : Nat} {f : Int → Int} (h : zW X d k pc ls st (zS J c f 0) M R P) : zW X d k pc ls st J M R P := by
  rw [zS_0] at h
  exact h
theorem find_z {X : Nat × (Nat → Int32)} {d : Nat} {J M : zA} {R : zR} {P : zP} {n p w : Int} (hR : zRoR R) (hz : J 50 1 = n) (hn : 0 ≤ n ∧ n ≤ 8) (hp : 0 ≤ p ∧ p < n) : ∀ (j : Nat) (i : Int), i + j = n → 0 ≤ i → zW X d 225 50 [some (.ref 50), some (zi p), some (zi w), some (zi n)] [] (zS J 75 (fun y => if y = p then 1000000 else 0) n) M R P → zW X d 225 19 [some (.ref 50), some (zi p), some (zi w), some (zi i)] [] (zS J 75 (fun y => if y = p then 1000000 else 0) i) M R P := by
  intro j
  induction j with
  | zero =>
    intro i hi h0 K
    obtain rfl : i = n := by omega
    refine z_iload rfl rfl ?_
    refine z_aload rfl rfl ?_
    refine z_getI (v := i) rfl rfl ((zS_n (by decide)).trans hz) ?_
    exact z_icmp_geT rfl (by omega) (by omega) (by omega) K
  | succ j ih =>
    intro i hi h0 K
    refine z_iload3 rfl ?_
    refine z_aload0 rfl ?_
    refine z_getI (v := n) rfl gk_50 ((zS_n (by decide)).trans hz) ?_
    refine z_icmp_geF rfl (by omega) (by omega) (by omega) ?_
    refine z_aload0 rfl ?_
    refine z_getR (r := 75) rfl gk_50 (hR _ rm_50_42 (by decide)) ?_
    refine z_iload3 rfl ?_
    refine z_iload3 rfl ?_
    refine z_iload1 rfl ?_
    refine z_icmp_ne rfl (by omega) (by omega) (fun h1 => ?_) (fun h1 => ?_)
    · refine z_pushJ gp_225_42 ?_
      refine z_iast (e := 0) gi_225_43 gk_75 (by decide) (by omega) rfl ?_
      refine z_iinc (c := 1) (e := i + 1) (ls1 := [some (.ref 50), some (zi p), some (zi w), some (zi (i + 1))]) gi_225_44 rfl rfl rfl rfl ?_
      refine z_goto gi_225_47 ?_
      show zW _ _ _ _ [some (.ref 50), some (zi p), some (zi w), some (zi (i + 1))] [] _ _ _ _
      rw [zS_s h0 (show (if i = p then (1000000 : Int) else 0) = 0 by rw [if_neg (by omega)])]
      exact ih (i + 1) (by omega) (by omega) K
    · refine z_pushJ gp_225_37 ?_
      refine z_goto rfl ?_
      refine z_iast (e := 1000000) gi_225_43 gk_75 (by decide) (by omega) rfl ?_
      refine z_iinc (c := 1) (e := i + 1) (ls1 := [some (.ref 50), some (zi p), some (zi w), some (zi (i + 1))]) gi_225_44 rfl rfl rfl rfl ?_
      refine z_goto gi_225_47 ?_
      show zW _ _ _ _ [some (.ref 50), some (zi p), some (zi w), some (zi (i + 1))] [] _ _ _ _
      rw [zS_s h0 (show (if i = p then (1000000 : Int) else 0) = 1000000 by rw [if_pos (by omega)])]
      exact ih (i + 1) (by omega) (by omega) K
theorem RelD_find {J J2 : zA} {p : Int} (hD : RelD J) (hY : RelY J) (hp : 0 ≤ p ∧ p < J 8 2) (e3 : J2 23 3 = J 23 3) (e4 : J2 23 4 = J 23 4) (e5 : J2 23 5 = J 23 5) (e6 : J2 23 6 = J 23 6) (e7 : J2 23 7 = J 23 7) (e8 : J2 23 8 = J 23 8 + 1) (f45 : J2 50 45 = J 50 45) (f44 : J2 50 44 = J 50 44) (g0 : J2 77 0 = J 77 0) (g1 : J2 77 1 = J 77 1) (g2 : J2 77 2 = J 77 2) (g3 : J2 77 3 = J 77 3 + 1) (hn : J2 8 2 = J 8 2) (a24 : ∀ q, 0 ≤ q → q < 8 → J2 24 q = if q = p then 1000000 else 0) (a25 : ∀ q, J2 25 q = J 25 q) (a75 : ∀ q, 0 ≤ q → q < J 8 2 → J2 75 q = if q = p then 1000000 else 0) (a76 : ∀ q, J2 76 q = J 76 q) : RelD J2 := by
  obtain ⟨⟨d1, d2, d3, d4, d5, d6⟩, d7, d8, d9, d10, d11⟩ := hD
  have yn := zNn hY.2.2
  refine ⟨⟨by rw [e3, f45, d1], by rw [e4, f44, d2], by rw [e5, g0, d3], by rw [e6, g1, d4], by rw [e7, g2, d5], by rw [e8, g3, d6]⟩, by rw [e3]; exact d7, by rw [e4, hn]; exact d8, fun q q1 q2 => ?_, fun q q1 q2 => ?_, fun q q1 q2 => ?_⟩
  · rw [hn] at q2
    rw [a24 q q1 (by omega), a75 q q1 q2, a25, a76]
    exact ⟨rfl, (d9 q q1 q2).2⟩
  · rw [hn] at q1
    rw [a24 q (by omega) q2, a25, if_neg (by omega)]
    exact ⟨rfl, (d10 q q1 q2).2⟩
  · rw [a24 q q1 q2, a25, e3]
    exact ⟨by split <;> omega, (d11 q q1 q2).2⟩
theorem z24 {J : zA} {p q : Int} (q1 : 0 ≤ q) (q2 : q < 8) : zU (zU (zU (zU (zU (zU (zU (zU (zU J 24 0 0) 24 1 0) 24 2 0) 24 3 0) 24 4 0) 24 5 0) 24 6 0) 24 7 0) 24 p 1000000 24 q = if q = p then 1000000 else 0 := by
  rw [zU_i]
  by_cases e : q = p
  · rw [if_pos e, if_pos e]
  · rw [if_neg e, if_neg e]
    have h : q = 0 ∨ q = 1 ∨ q = 2 ∨ q = 3 ∨ q = 4 ∨ q = 5 ∨ q = 6 ∨ q = 7 := by omega
    rcases h with rfl | rfl | rfl | rfl | rfl | rfl | rfl | rfl <;> rfl
theorem st_find {X : Nat × (Nat → Int32)} {d : Nat} {J M : zA} {R : zR} {p : Int} (hr : Rel X J M R) (hp : -2147483648 ≤ p ∧ p < 2147483648)  : zW X (d + 20) 126 0 (gEn 126 [(.ref 0), (zi p)]) [] J M R (stP X (d + 20) 225 [(zi p)]) := by
  have hr0 := hr
  obtain ⟨hR, hG, hY, hD, hP, hC, hAc, hS, hTp, hX, hW⟩ := hr0
  have hRr : zRoR R := zRoR_of hR
  have hY0 := hY
  obtain ⟨y1, y2, y3⟩ := hY0
  have yn := zNn y3
  have hD0 := hD
  obtain ⟨⟨d1, d2, d3, d4, d5, d6⟩, d7, d8, d9, d10, d11⟩ := hD0
  show zW _ _ _ _ [some (.ref 0), some (zi p)] _ _ _ _ _
  refine z_aload0 rfl ?_
  refine z_getR (r := 8) rfl gk_0 (hR _ rm_0_1) ?_
  refine z_iload1 rfl ?_
  refine z_cV1 rfl gk_8 go_87 (Nat.le_of_ble_eq_true rfl) gc_87_RI ?_
  refine z_iload1 gi_87_0 ?_
  refine z_if_lt gi_87_1 (by omega) (fun h1 => ?_) (fun h1 => ?_)
  · refine z_pushJ gp_87_16 ?_
    refine z_bret0 gi_87_17 gr_87 ?_
    show zW _ _ _ _ _ _ _ _ _ _
    refine z_if_eqT gi_126_8 zr_0 (by decide) ?_
    refine z_pushJ gp_126_22 ?_
    refine z_iret gi_126_23 gr_126 ?_
    refine ⟨_, rfl, ?_⟩
    show zW _ _ _ _ [some (.ref 50), some (zi p), none, none] _ _ _ _ _
    refine z_aload0 gi_225_0 ?_
    refine z_iload1 gi_225_1 ?_
    refine z_cV1 gi_225_2 gk_50 go_151 (Nat.le_of_ble_eq_true rfl) gc_151_RI ?_
    refine z_iload1 gi_151_0 ?_
    refine z_pushJ gp_151_1 ?_
    refine z_aload0 gi_151_2 ?_
    refine z_getI (v := J 8 2) gi_151_3 gk_50 (y2.symm) ?_
    refine z_pushJ gp_151_6 ?_
    refine z_isub (e := (J 8 2) - 1) gi_151_7 rfl ?_
    refine z_cS3 gi_151_8 (Nat.le_of_ble_eq_true rfl) gc_148_III ?_
    refine z_iload0 gi_148_0 ?_
    refine z_iload1 gi_148_1 ?_
    refine z_icmp_ltT gi_148_2 (by omega) zr_0 (by omega) ?_
    refine z_pushJ gp_148_14 ?_
    refine z_bret0 gi_148_15 gr_148 ?_
    show zW _ _ _ _ _ _ _ _ _ _
    refine z_bret0 gi_151_11 gr_151 ?_
    show zW _ _ _ _ _ _ _ _ _ _
    refine z_if_neF gi_225_5 zr_0 (by decide) ?_
    refine z_pushJ gp_225_8 ?_
    refine z_iret gi_225_9 gr_225 ?_
    refine ⟨?_, ?_⟩
    · first | rfl | exact congrArg (fun v => some (zi v)) (by omega) | (exfalso; omega)
    · exact hr
  · refine z_iload1 gi_87_4 ?_
    refine z_aload0 gi_87_5 ?_
    refine z_getI (v := J 8 2) gi_87_6 gk_8 (rfl) ?_
    refine z_icmp_ge gi_87_9 (by omega) (by omega) (fun h2 => ?_) (fun h2 => ?_)
    · refine z_pushJ gp_87_16 ?_
      refine z_bret0 gi_87_17 gr_87 ?_
      show zW _ _ _ _ _ _ _ _ _ _
      refine z_if_eqT gi_126_8 zr_0 (by decide) ?_
      refine z_pushJ gp_126_22 ?_
      refine z_iret gi_126_23 gr_126 ?_
      refine ⟨_, rfl, ?_⟩
      show zW _ _ _ _ [some (.ref 50), some (zi p), none, none] _ _ _ _ _
      refine z_aload0 gi_225_0 ?_
      refine z_iload1 gi_225_1 ?_
      refine z_cV1 gi_225_2 gk_50 go_151 (Nat.le_of_ble_eq_true rfl) gc_151_RI ?_
      refine z_iload1 gi_151_0 ?_
      refine z_pushJ gp_151_1 ?_
      refine z_aload0 gi_151_2 ?_
      refine z_getI (v := J 8 2) gi_151_3 gk_50 (y2.symm) ?_
      refine z_pushJ gp_151_6 ?_
      refine z_isub (e := (J 8 2) - 1) gi_151_7 rfl ?_
      refine z_cS3 gi_151_8 (Nat.le_of_ble_eq_true rfl) gc_148_III ?_
      refine z_iload0 gi_148_0 ?_
      refine z_iload1 gi_148_1 ?_
      refine z_icmp_ltF gi_148_2 (by omega) zr_0 (by omega) ?_
      refine z_iload0 gi_148_5 ?_
      refine z_iload2 gi_148_6 ?_
      refine z_icmp_gtT gi_148_7 (by omega) (by omega) (by omega) ?_
      refine z_pushJ gp_148_14 ?_
      refine z_bret0 gi_148_15 gr_148 ?_
      show zW _ _ _ _ _ _ _ _ _ _
      refine z_bret0 gi_151_11 gr_151 ?_
      show zW _ _ _ _ _ _ _ _ _ _
      refine z_if_neF gi_225_5 zr_0 (by decide) ?_
      refine z_pushJ gp_225_8 ?_
      refine z_iret gi_225_9 gr_225 ?_
      refine ⟨?_, ?_⟩
      · first | rfl | exact congrArg (fun v => some (zi v)) (by omega) | (exfalso; omega)
      · exact hr
    · refine z_pushJ gp_87_12 ?_
      refine z_goto gi_87_13 ?_
      refine z_bret1 gi_87_17 gr_87 ?_
      show zW _ _ _ _ _ _ _ _ _ _
      refine z_if_eqF gi_126_8 zr_1 (by decide) ?_
      refine z_aload0 rfl ?_
      refine z_getR (r := 23) rfl gk_0 (hR _ rm_0_6) ?_
      refine z_iload1 rfl ?_
      refine z_callVi (As := [_]) (le := [some _, some _, none, none]) rfl rfl gk_23 (Nat.le_of_ble_eq_true rfl) (Nat.le_of_ble_eq_true rfl) rfl ?_
      refine z_aload0 rfl ?_
      refine z_getR (r := 8) rfl gk_23 (hR _ rm_23_0) ?_
      refine z_iload1 rfl ?_
      refine z_cV1 rfl gk_8 go_87 (Nat.le_of_ble_eq_true rfl) gc_87_RI ?_
      refine z_iload1 gi_87_0 ?_
      refine z_if_ltF gi_87_1 (by omega) (by omega) ?_
      refine z_iload1 gi_87_4 ?_
      refine z_aload0 gi_87_5 ?_
      refine z_getI (v := J 8 2) gi_87_6 gk_8 (rfl) ?_
      refine z_icmp_geF gi_87_9 (by omega) (by omega) (by omega) ?_
      refine z_pushJ gp_87_12 ?_
      refine z_goto gi_87_13 ?_
      refine z_bret1 gi_87_17 gr_87 ?_
      show zW _ _ _ _ _ _ _ _ _ _
      refine z_if_neT rfl zr_1 (by decide) ?_
      refine z_aload0 rfl ?_
      refine z_getR (r := 24) rfl gk_23 (hR _ rm_23_1) ?_
      refine z_iload1 rfl ?_
      refine z_iald (v := J 24 p) rfl gk_24 (by decide) (by omega) (rfl) ?_
      refine z_istore (ls1 := [some (.ref 23), some (zi p), some (zi (J 24 p)), none]) rfl rfl ?_
      refine z_pushJ gp_21_20 ?_
      refine z_istore (ls1 := [some (.ref 23), some (zi p), some (zi (J 24 p)), some (zi 0)]) rfl rfl ?_
      refine z_iload3 gi_21_22 ?_
      refine z_pushJ gp_21_23 ?_
      refine z_icmp_geF gi_21_25 zr_0 zr_8 (by decide) ?_
      refine z_aload0 gi_21_28 ?_
      refine z_getR (r := 24) gi_21_29 gk_23 (hR _ rm_23_1) ?_
      refine z_iload3 gi_21_32 ?_
      refine z_pushJ gp_21_33 ?_
      refine z_iast (e := 0) gi_21_34 gk_24 (by decide) (by decide) rfl ?_
      refine z_iinc (c := 1) (e := 1) (ls1 := [some (.ref 23), some (zi p), some (zi (J 24 p)), some (zi 1)]) gi_21_35 rfl rfl rfl rfl ?_
      refine z_goto gi_21_38 ?_
      show zW _ _ _ _ [some (.ref 23), some (zi p), some (zi (J 24 p)), some (zi 1)] [] _ _ _ _
      refine z_iload3 gi_21_22 ?_
      refine z_pushJ gp_21_23 ?_
      refine z_icmp_geF gi_21_25 zr_1 zr_8 (by decide) ?_
      refine z_aload0 gi_21_28 ?_
      refine z_getR (r := 24) gi_21_29 gk_23 (hR _ rm_23_1) ?_
      refine z_iload3 gi_21_32 ?_
      refine z_pushJ gp_21_33 ?_
      refine z_iast (e := 0) gi_21_34 gk_24 (by decide) (by decide) rfl ?_
      refine z_iinc (c := 1) (e := 2) (ls1 := [some (.ref 23), some (zi p), some (zi (J 24 p)), some (zi 2)]) gi_21_35 rfl rfl rfl rfl ?_
      refine z_goto gi_21_38 ?_
      show zW _ _ _ _ [some (.ref 23), some (zi p), some (zi (J 24 p)), some (zi 2)] [] _ _ _ _
      refine z_iload3 gi_21_22 ?_
      refine z_pushJ gp_21_23 ?_
      refine z_icmp_geF gi_21_25 zr_2 zr_8 (by decide) ?_
      refine z_aload0 gi_21_28 ?_
      refine z_getR (r := 24) gi_21_29 gk_23 (hR _ rm_23_1) ?_
      refine z_iload3 gi_21_32 ?_
      refine z_pushJ gp_21_33 ?_
      refine z_iast (e := 0) gi_21_34 gk_24 (by decide) (by decide) rfl ?_
      refine z_iinc (c := 1) (e := 3) (ls1 := [some (.ref 23), some (zi p), some (zi (J 24 p)), some (zi 3)]) gi_21_35 rfl rfl rfl rfl ?_
      refine z_goto gi_21_38 ?_
      show zW _ _ _ _ [some (.ref 23), some (zi p), some (zi (J 24 p)), some (zi 3)] [] _ _ _ _
      refine z_iload3 gi_21_22 ?_
      refine z_pushJ gp_21_23 ?_
      refine z_icmp_geF gi_21_25 zr_3 zr_8 (by decide) ?_
      refine z_aload0 gi_21_28 ?_
      refine z_getR (r := 24) gi_21_29 gk_23 (hR _ rm_23_1) ?_
      refine z_iload3 gi_21_32 ?_
      refine z_pushJ gp_21_33 ?_
      refine z_iast (e := 0) gi_21_34 gk_24 (by decide) (by decide) rfl ?_
      refine z_iinc (c := 1) (e := 4) (ls1 := [some (.ref 23), some (zi p), some (zi (J 24 p)), some (zi 4)]) gi_21_35 rfl rfl rfl rfl ?_
      refine z_goto gi_21_38 ?_
      show zW _ _ _ _ [some (.ref 23), some (zi p), some (zi (J 24 p)), some (zi 4)] [] _ _ _ _
      refine z_iload3 gi_21_22 ?_
      refine z_pushJ gp_21_23 ?_
      refine z_icmp_geF gi_21_25 zr_4 zr_8 (by decide) ?_
      refine z_aload0 gi_21_28 ?_
      refine z_getR (r := 24) gi_21_29 gk_23 (hR _ rm_23_1) ?_
      refine z_iload3 gi_21_32 ?_
      refine z_pushJ gp_21_33 ?_
      refine z_iast (e := 0) gi_21_34 gk_24 (by decide) (by decide) rfl ?_
      refine z_iinc (c := 1) (e := 5) (ls1 := [some (.ref 23), some (zi p), some (zi (J 24 p)), some (zi 5)]) gi_21_35 rfl rfl rfl rfl ?_
      refine z_goto gi_21_38 ?_
      show zW _ _ _ _ [some (.ref 23), some (zi p), some (zi (J 24 p)), some (zi 5)] [] _ _ _ _
      refine z_iload3 gi_21_22 ?_
      refine z_pushJ gp_21_23 ?_
      refine z_icmp_geF gi_21_25 zr_5 zr_8 (by decide) ?_
      refine z_aload0 gi_21_28 ?_
      refine z_getR (r := 24) gi_21_29 gk_23 (hR _ rm_23_1) ?_
      refine z_iload3 gi_21_32 ?_
      refine z_pushJ gp_21_33 ?_
      refine z_iast (e := 0) gi_21_34 gk_24 (by decide) (by decide) rfl ?_
      refine z_iinc (c := 1) (e := 6) (ls1 := [some (.ref 23), some (zi p), some (zi (J 24 p)), some (zi 6)]) gi_21_35 rfl rfl rfl rfl ?_
      refine z_goto gi_21_38 ?_
      show zW _ _ _ _ [some (.ref 23), some (zi p), some (zi (J 24 p)), some (zi 6)] [] _ _ _ _
      refine z_iload3 gi_21_22 ?_
      refine z_pushJ gp_21_23 ?_
      refine z_icmp_geF gi_21_25 zr_6 zr_8 (by decide) ?_
      refine z_aload0 gi_21_28 ?_
      refine z_getR (r := 24) gi_21_29 gk_23 (hR _ rm_23_1) ?_
      refine z_iload3 gi_21_32 ?_
      refine z_pushJ gp_21_33 ?_
      refine z_iast (e := 0) gi_21_34 gk_24 (by decide) (by decide) rfl ?_
      refine z_iinc (c := 1) (e := 7) (ls1 := [some (.ref 23), some (zi p), some (zi (J 24 p)), some (zi 7)]) gi_21_35 rfl rfl rfl rfl ?_
      refine z_goto gi_21_38 ?_
      show zW _ _ _ _ [some (.ref 23), some (zi p), some (zi (J 24 p)), some (zi 7)] [] _ _ _ _
      refine z_iload3 gi_21_22 ?_
      refine z_pushJ gp_21_23 ?_
      refine z_icmp_geF gi_21_25 zr_7 zr_8 (by decide) ?_
      refine z_aload0 gi_21_28 ?_
      refine z_getR (r := 24) gi_21_29 gk_23 (hR _ rm_23_1) ?_
      refine z_iload3 gi_21_32 ?_
      refine z_pushJ gp_21_33 ?_
      refine z_iast (e := 0) gi_21_34 gk_24 (by decide) (by decide) rfl ?_
      refine z_iinc (c := 1) (e := 8) (ls1 := [some (.ref 23), some (zi p), some (zi (J 24 p)), some (zi 8)]) gi_21_35 rfl rfl rfl rfl ?_
      refine z_goto gi_21_38 ?_
      show zW _ _ _ _ [some (.ref 23), some (zi p), some (zi (J 24 p)), some (zi 8)] [] _ _ _ _
      refine z_iload3 gi_21_22 ?_
      refine z_pushJ gp_21_23 ?_
      refine z_icmp_geT gi_21_25 zr_8 zr_8 (by decide) ?_
      refine z_aload0 rfl ?_
      refine z_getR (r := 24) rfl gk_23 (hR _ rm_23_1) ?_
      refine z_iload1 rfl ?_
      refine z_pushJ gp_21_46 ?_
      refine z_iast (e := 1000000) rfl gk_24 (by decide) (by omega) rfl ?_
      refine z_aload0 rfl ?_
      refine z_dup rfl rfl ?_
      refine z_getI (v := J 23 8) rfl gk_23 ((zU_n (by decide)).trans ((zU_n (by decide)).trans ((zU_n (by decide)).trans ((zU_n (by decide)).trans ((zU_n (by decide)).trans ((zU_n (by decide)).trans ((zU_n (by decide)).trans ((zU_n (by decide)).trans ((zU_n (by decide)).trans (rfl)))))))))) ?_
      refine z_pushJ gp_21_54 ?_
      refine z_iadd (e := (J 23 8) + 1) rfl rfl ?_
      refine z_putI (y := 8) rfl rfl gk_23 ?_
      refine z_iload2 rfl ?_
      refine z_iret rfl gr_21 ?_
      show zW _ _ _ _ _ _ _ _ _ _
      refine z_goto rfl ?_
      refine z_iret gi_126_23 gr_126 ?_
      refine ⟨_, rfl, ?_⟩
      show zW _ _ _ _ [some (.ref 50), some (zi p), none, none] _ _ _ _ _
      refine z_aload0 gi_225_0 ?_
      refine z_iload1 gi_225_1 ?_
      refine z_cV1 gi_225_2 gk_50 go_151 (Nat.le_of_ble_eq_true rfl) gc_151_RI ?_
      refine z_iload1 gi_151_0 ?_
      refine z_pushJ gp_151_1 ?_
      refine z_aload0 gi_151_2 ?_
      refine z_getI (v := J 8 2) gi_151_3 gk_50 ((zU_n (by decide)).trans ((zU_n (by decide)).trans ((zU_n (by decide)).trans ((zU_n (by decide)).trans ((zU_n (by decide)).trans ((zU_n (by decide)).trans ((zU_n (by decide)).trans ((zU_n (by decide)).trans ((zU_n (by decide)).trans ((zU_n (by decide)).trans (y2.symm))))))))))) ?_
      refine z_pushJ gp_151_6 ?_
      refine z_isub (e := (J 8 2) - 1) gi_151_7 rfl ?_
      refine z_cS3 gi_151_8 (Nat.le_of_ble_eq_true rfl) gc_148_III ?_
      refine z_iload0 gi_148_0 ?_
      refine z_iload1 gi_148_1 ?_
      refine z_icmp_ltF gi_148_2 (by omega) zr_0 (by omega) ?_
      refine z_iload0 gi_148_5 ?_
      refine z_iload2 gi_148_6 ?_
      refine z_icmp_gtF gi_148_7 (by omega) (by omega) (by omega) ?_
      refine z_pushJ gp_148_10 ?_
      refine z_goto gi_148_11 ?_
      refine z_bret1 gi_148_15 gr_148 ?_
      show zW _ _ _ _ _ _ _ _ _ _
      refine z_bret1 gi_151_11 gr_151 ?_
      show zW _ _ _ _ _ _ _ _ _ _
      refine z_if_neT gi_225_5 zr_1 (by decide) ?_
      refine z_aload0 rfl ?_
      refine z_getR (r := 75) rfl gk_50 (hRr _ rm_50_42 (by decide)) ?_
      refine z_iload1 rfl ?_
      refine z_iald (v := J 75 p) rfl gk_75 (by decide) (by omega) ((zU_n (by decide)).trans ((zU_n (by decide)).trans ((zU_n (by decide)).trans ((zU_n (by decide)).trans ((zU_n (by decide)).trans ((zU_n (by decide)).trans ((zU_n (by decide)).trans ((zU_n (by decide)).trans ((zU_n (by decide)).trans ((zU_n (by decide)).trans (rfl))))))))))) ?_
      refine z_istore (ls1 := [some (.ref 50), some (zi p), some (zi (J 75 p)), none]) rfl rfl ?_
      refine z_pushJ gp_225_17 ?_
      refine z_istore (ls1 := [some (.ref 50), some (zi p), some (zi (J 75 p)), some (zi 0)]) rfl rfl ?_
      show zW _ _ _ _ [some (.ref 50), some (zi p), some (zi (J 75 p)), some (zi 0)] [] _ _ _ _
      refine zS_01 (c := 75) (f := (fun y => if y = p then 1000000 else 0)) ?_
      refine find_z hRr (n := J 8 2) (by exact y2.symm) yn (by omega) (J 8 2).toNat 0 (by omega) (by decide) ?_
      refine z_aload0 rfl ?_
      refine z_getR (r := 77) rfl gk_50 (hRr _ rm_50_46 (by decide)) ?_
      refine z_pushJ gp_225_54 ?_
      refine z_dup2 rfl rfl rfl ?_
      refine z_iald (v := J 77 3) rfl gk_77 (by decide) (by decide) ((zS_n (by decide)).trans ((zU_n (by decide)).trans ((zU_n (by decide)).trans ((zU_n (by decide)).trans ((zU_n (by decide)).trans ((zU_n (by decide)).trans ((zU_n (by decide)).trans ((zU_n (by decide)).trans ((zU_n (by decide)).trans ((zU_n (by decide)).trans ((zU_n (by decide)).trans (rfl)))))))))))) ?_
      refine z_pushJ gp_225_57 ?_
      refine z_iadd (e := (J 77 3) + 1) rfl rfl ?_
      refine z_iast (e := (J 77 3) + 1) rfl gk_77 (by decide) (by decide) rfl ?_
      refine z_iload2 rfl ?_
      refine z_iret rfl gr_225 ?_
      refine ⟨?_, ?_⟩
      · first | exact congrArg (fun v => some (zi v)) (d9 p (by omega) (by omega)).1.symm | (exfalso; omega)
      · have hk := (zK_x (a := 77) (x := 3) (v := (J 77 3) + 1) (zK_S (c := 75) (f := (fun y => if y = p then 1000000 else 0)) (n := (J 8 2)) (zK_x (a := 23) (x := 8) (v := (J 23 8) + 1) (zK_x (a := 24) (x := p) (v := 1000000) (zK_x (a := 24) (x := 7) (v := 0) (zK_x (a := 24) (x := 6) (v := 0) (zK_x (a := 24) (x := 5) (v := 0) (zK_x (a := 24) (x := 4) (v := 0) (zK_x (a := 24) (x := 3) (v := 0) (zK_x (a := 24) (x := 2) (v := 0) (zK_x (a := 24) (x := 1) (v := 0) (zK_x (a := 24) (x := 0) (v := 0) (zK_r (k := (kL [24, 75] [(24, 0), (24, 1), (24, 2), (24, 3), (24, 4), (24, 5), (24, 6), (24, 7), (23, 8), (77, 3)])) (A := J)) rfl) rfl) rfl) rfl) rfl) rfl) rfl) rfl) rfl) rfl) (fun _ => rfl)) rfl)
        exact ⟨hR, hG, RelY_k hk (by repeat' constructor) (fun p => by repeat' constructor) hY, (RelD_find (J := J) (p := p) hD hY (by omega) ((zU_n (by decide)).trans ((zS_n (by decide)).trans ((zU_x (by decide)).trans ((zU_n (by decide)).trans ((zU_n (by decide)).trans ((zU_n (by decide)).trans ((zU_n (by decide)).trans ((zU_n (by decide)).trans ((zU_n (by decide)).trans ((zU_n (by decide)).trans ((zU_n (by decide)).trans ((zU_n (by decide)).trans (rfl))))))))))))) ((zU_n (by decide)).trans ((zS_n (by decide)).trans ((zU_x (by decide)).trans ((zU_n (by decide)).trans ((zU_n (by decide)).trans ((zU_n (by decide)).trans ((zU_n (by decide)).trans ((zU_n (by decide)).trans ((zU_n (by decide)).trans ((zU_n (by decide)).trans ((zU_n (by decide)).trans ((zU_n (by decide)).trans (rfl))))))))))))) ((zU_n (by decide)).trans ((zS_n (by decide)).trans ((zU_x (by decide)).trans ((zU_n (by decide)).trans ((zU_n (by decide)).trans ((zU_n (by decide)).trans ((zU_n (by decide)).trans ((zU_n (by decide)).trans ((zU_n (by decide)).trans ((zU_n (by decide)).trans ((zU_n (by decide)).trans ((zU_n (by decide)).trans (rfl))))))))))))) ((zU_n (by decide)).trans ((zS_n (by decide)).trans ((zU_x (by decide)).trans ((zU_n (by decide)).trans ((zU_n (by decide)).trans ((zU_n (by decide)).trans ((zU_n (by decide)).trans ((zU_n (by decide)).trans ((zU_n (by decide)).trans ((zU_n (by decide)).trans ((zU_n (by decide)).trans ((zU_n (by decide)).trans (rfl))))))))))))) ((zU_n (by decide)).trans ((zS_n (by decide)).trans ((zU_x (by decide)).trans ((zU_n (by decide)).trans ((zU_n (by decide)).trans ((zU_n (by decide)).trans ((zU_n (by decide)).trans ((zU_n (by decide)).trans ((zU_n (by decide)).trans ((zU_n (by decide)).trans ((zU_n (by decide)).trans ((zU_n (by decide)).trans (rfl))))))))))))) ((zU_n (by decide)).trans ((zS_n (by decide)).trans (zU_e))) ((zU_n (by decide)).trans ((zS_n (by decide)).trans ((zU_n (by decide)).trans ((zU_n (by decide)).trans ((zU_n (by decide)).trans ((zU_n (by decide)).trans ((zU_n (by decide)).trans ((zU_n (by decide)).trans ((zU_n (by decide)).trans ((zU_n (by decide)).trans ((zU_n (by decide)).trans ((zU_n (by decide)).trans (rfl))))))))))))) ((zU_n (by decide)).trans ((zS_n (by decide)).trans ((zU_n (by decide)).trans ((zU_n (by decide)).trans ((zU_n (by decide)).trans ((zU_n (by decide)).trans ((zU_n (by decide)).trans ((zU_n (by decide)).trans ((zU_n (by decide)).trans ((zU_n (by decide)).trans ((zU_n (by decide)).trans ((zU_n (by decide)).trans (rfl))))))))))))) ((zU_x (by decide)).trans ((zS_n (by decide)).trans ((zU_n (by decide)).trans ((zU_n (by decide)).trans ((zU_n (by decide)).trans ((zU_n (by decide)).trans ((zU_n (by decide)).trans ((zU_n (by decide)).trans ((zU_n (by decide)).trans ((zU_n (by decide)).trans ((zU_n (by decide)).trans ((zU_n (by decide)).trans (rfl))))))))))))) ((zU_x (by decide)).trans ((zS_n (by decide)).trans ((zU_n (by decide)).trans ((zU_n (by decide)).trans ((zU_n (by decide)).trans ((zU_n (by decide)).trans ((zU_n (by decide)).trans ((zU_n (by decide)).trans ((zU_n (by decide)).trans ((zU_n (by decide)).trans ((zU_n (by decide)).trans ((zU_n (by decide)).trans (rfl))))))))))))) ((zU_x (by decide)).trans ((zS_n (by decide)).trans ((zU_n (by decide)).trans ((zU_n (by decide)).trans ((zU_n (by decide)).trans ((zU_n (by decide)).trans ((zU_n (by decide)).trans ((zU_n (by decide)).trans ((zU_n (by decide)).trans ((zU_n (by decide)).trans ((zU_n (by decide)).trans ((zU_n (by decide)).trans (rfl))))))))))))) (zU_e) ((zU_n (by decide)).trans ((zS_n (by decide)).trans ((zU_n (by decide)).trans ((zU_n (by decide)).trans ((zU_n (by decide)).trans ((zU_n (by decide)).trans ((zU_n (by decide)).trans ((zU_n (by decide)).trans ((zU_n (by decide)).trans ((zU_n (by decide)).trans ((zU_n (by decide)).trans ((zU_n (by decide)).trans (rfl))))))))))))) (fun q q1 q2 => ((zU_n (by decide)).trans ((zS_n (by decide)).trans ((zU_n (by decide)).trans (rfl)))).trans (z24 q1 q2)) (fun q => (zU_n (by decide)).trans ((zS_n (by decide)).trans ((zU_n (by decide)).trans ((zU_n (by decide)).trans ((zU_n (by decide)).trans ((zU_n (by decide)).trans ((zU_n (by decide)).trans ((zU_n (by decide)).trans ((zU_n (by decide)).trans ((zU_n (by decide)).trans ((zU_n (by decide)).trans ((zU_n (by decide)).trans (rfl))))))))))))) (fun q q1 q2 => (zU_n (by decide)).trans (zS_at ⟨q1, q2⟩)) (fun q => (zU_n (by decide)).trans ((zS_n (by decide)).trans ((zU_n (by decide)).trans ((zU_n (by decide)).trans ((zU_n (by decide)).trans ((zU_n (by decide)).trans ((zU_n (by decide)).trans ((zU_n (by decide)).trans ((zU_n (by decide)).trans ((zU_n (by decide)).trans ((zU_n (by decide)).trans ((zU_n (by decide)).trans (rfl)))))))))))))), RelP_k hk (by repeat' constructor) (fun p => by repeat' constructor) hP, RelC_k hk (by repeat' constructor) (fun p => by repeat' constructor) hC, RelA_k hk (by repeat' constructor) (fun p => by repeat' constructor) hAc, RelS_k hk (zK_r (k := kM)) (fun x j a b => ⟨kL_38 (by decide) (by decide) x j a b, kM_38 x j a b⟩) (fun p => ⟨rfl, rfl, rfl⟩) rfl hS, RelT_k hk (by repeat' constructor) (fun p => by repeat' constructor) hTp, RelX_k hk (by repeat' constructor) (fun p => by repeat' constructor) hX, RelW_k hk ⟨rfl, rfl⟩ trivial hW⟩
