theorem listenR_k {X : Nat × (Nat → Int32)} {d : Nat} {M : zA} {R : zR} {P : zP} {A : zA} {N : Int → Int → Int} {n : Int} (hR : zRoR R) (hA : rN A = N) (hz : A 50 1 = n) (hN : zNr n N) {T : zX} (hT : LawR X A T) (hTr : Tok T) {p m l c s : Int} (hat : A 50 44 = p) (hnow : A 50 45 = m) (h69 : A 69 p = s) (h70 : A 70 p = l) (hp : 0 ≤ p ∧ p < n) (hm : 0 ≤ m ∧ m ≤ 1000) (hl : 0 ≤ l ∧ l ≤ 1000) (hc : 0 ≤ c ∧ c ≤ 99) (hs : 0 ≤ s ∧ s ≤ 1000000) (K : ∀ JF : zA, zK kT (zU (zU A 69 p (lB T N p c.toNat s l m)) 70 p (l + c)) JF → zW X (d + 20) 224 70 [some (.ref 50), some (zi c), some (zi (s - (lB T N p c.toNat s l m))), some (zi c)] [] JF M R P) : zW X (d + 20) 224 42 [some (.ref 50), some (zi c), some (zi 0), some (zi 0)] [] A M R P := by
  have z : zW X (d + 20) 224 42 [some (.ref 50), some (zi c), some (zi (s - s)), some (zi 0)] [] A M R P := by
    refine listenR_z hR hA hz hN hT hTr (l := l) hat hnow hp hm hl hc hs c.toNat 0 s A ?_ (by omega) (by omega) (by omega) (fun JF hF => ?_)
    · rw [show l + 0 = l by omega, zU_id h69, zU_id h70]
      exact zK_r
    · rw [show l + 0 = l by omega, show m + 0 = m by omega] at *
      exact K JF hF
  rw [show s - s = 0 by omega] at z
  exact z
theorem RelD_li {J J2 : zA} {p c s : Int} (hD : RelD J) (hp : 0 ≤ p ∧ p < J 8 2) (hn8 : J 8 2 ≤ 8) (hc : 0 ≤ c ∧ c ≤ 99) (ht : J 23 3 + c ≤ 999) (hs : 0 ≤ s ∧ s ≤ J 24 p) (e3 : J2 23 3 = J 23 3 + c) (e4 : J2 23 4 = J 23 4) (e5 : J2 23 5 = J 23 5) (e6 : J2 23 6 = J 23 6 + c) (e7 : J2 23 7 = J 23 7 + (J 24 p - s)) (e8 : J2 23 8 = J 23 8) (f45 : J2 50 45 = J 23 3 + c) (f44 : J2 50 44 = J 50 44) (g0 : J2 77 0 = J 77 0) (g1 : J2 77 1 = J 77 1 + c) (g2 : J2 77 2 = J 77 2 + (J 24 p - s)) (g3 : J2 77 3 = J 77 3) (hn : J2 8 2 = J 8 2) (a24 : ∀ q, J2 24 q = if q = p then s else J 24 q) (a25 : ∀ q, J2 25 q = if q = p then J 25 p + c else J 25 q) (a75 : ∀ q, J2 75 q = if q = p then s else J 75 q) (a76 : ∀ q, J2 76 q = if q = p then J 25 p + c else J 76 q) : RelD J2 := by
  obtain ⟨⟨d1, d2, d3, d4, d5, d6⟩, d7, d8, d9, d10, d11⟩ := hD
  have q0 := d11 p hp.1 (by omega)
  refine ⟨⟨by omega, by omega, by omega, by omega, by omega, by omega⟩, by omega, by omega, fun q q1 q2 => ?_, fun q q1 q2 => ?_, fun q q1 q2 => ?_⟩
  · rw [a24, a25, a75, a76]
    by_cases e : q = p
    · rw [if_pos e, if_pos e, if_pos e, if_pos e]
      exact ⟨rfl, rfl⟩
    · rw [if_neg e, if_neg e, if_neg e, if_neg e]
      exact d9 q q1 (by omega)
  · have e : ¬ q = p := by omega
    rw [a24, a25, if_neg e, if_neg e]
    exact d10 q (by omega) q2
  · have q3 := d11 q q1 q2
    rw [a24, a25, e3]
    by_cases e : q = p
    · rw [if_pos e, if_pos e]
      omega
    · rw [if_neg e, if_neg e]
      omega
theorem kV_T : ∀ x j, kV x j = true → kT x j = true := by
  intro x j h
  unfold kV at h
  by_cases e : x = 50
  · subst e
    rfl
  · rw [beq_f e] at h
    have h2 := Bool.and_eq_true _ _ ▸ h
    have h3 := Nat.le_of_ble_eq_true h2.1
    have h4 := Nat.le_of_ble_eq_true h2.2
    exact kT_b (by omega)
theorem st_listen {X : Nat × (Nat → Int32)} {d : Nat} {J M : zA} {R : zR} {c : Int} (hr : Rel X J M R) (hc : -2147483648 ≤ c ∧ c < 2147483648)  : zW X (d + 20) 125 0 (gEn 125 [(.ref 0), (zi c)]) [] J M R (stP X (d + 20) 224 [(zi c)]) := by
  have hr0 := hr
  obtain ⟨hR, hG, hY, hD, hP, hC, hAc, hS, hTp, hX, hW⟩ := hr0
  have hRr : zRoR R := zRoR_of hR
  have hY0 := hY
  obtain ⟨y1, y2, y3⟩ := hY0
  have yn := zNn y3
  have hD0 := hD
  obtain ⟨⟨d1, d2, d3, d4, d5, d6⟩, d7, d8, d9, d10, d11⟩ := hD0
  have hX0 := hX
  obtain ⟨T, t1, t2, t3⟩ := hX0
  show zW _ _ _ _ [some (.ref 0), some (zi c)] _ _ _ _ _
  refine z_iload1 rfl ?_
  refine z_cS1 rfl (Nat.le_of_ble_eq_true rfl) gc_145_I ?_
  refine z_iload0 gi_145_0 ?_
  refine z_pushJ gp_145_1 ?_
  refine z_icmp_lt gi_145_2 (by omega) zr_1 (fun h1 => ?_) (fun h1 => ?_)
  · refine z_pushJ gp_145_15 ?_
    refine z_bret0 gi_145_16 gr_145 ?_
    show zW _ _ _ _ _ _ _ _ _ _
    refine z_if_neF gi_125_4 zr_0 (by decide) ?_
    refine z_pushJ gp_125_7 ?_
    refine z_iret gi_125_8 gr_125 ?_
    refine ⟨_, rfl, ?_⟩
    show zW _ _ _ _ [some (.ref 50), some (zi c), none, none] _ _ _ _ _
    refine z_iload1 gi_224_0 ?_
    refine z_pushJ gp_224_1 ?_
    refine z_pushJ gp_224_2 ?_
    refine z_cS3 gi_224_4 (Nat.le_of_ble_eq_true rfl) gc_148_III ?_
    refine z_iload0 gi_148_0 ?_
    refine z_iload1 gi_148_1 ?_
    refine z_icmp_ltT gi_148_2 (by omega) zr_1 (by omega) ?_
    refine z_pushJ gp_148_14 ?_
    refine z_bret0 gi_148_15 gr_148 ?_
    show zW _ _ _ _ _ _ _ _ _ _
    refine z_if_neF gi_224_7 zr_0 (by decide) ?_
    refine z_pushJ gp_224_10 ?_
    refine z_iret gi_224_11 gr_224 ?_
    refine ⟨?_, ?_⟩
    · first | rfl | exact congrArg (fun v => some (zi v)) (by omega) | (exfalso; omega)
    · exact hr
  · refine z_iload0 gi_145_5 ?_
    refine z_pushJ gp_145_6 ?_
    refine z_icmp_gt gi_145_8 (by omega) zr_99 (fun h2 => ?_) (fun h2 => ?_)
    · refine z_pushJ gp_145_15 ?_
      refine z_bret0 gi_145_16 gr_145 ?_
      show zW _ _ _ _ _ _ _ _ _ _
      refine z_if_neF gi_125_4 zr_0 (by decide) ?_
      refine z_pushJ gp_125_7 ?_
      refine z_iret gi_125_8 gr_125 ?_
      refine ⟨_, rfl, ?_⟩
      show zW _ _ _ _ [some (.ref 50), some (zi c), none, none] _ _ _ _ _
      refine z_iload1 gi_224_0 ?_
      refine z_pushJ gp_224_1 ?_
      refine z_pushJ gp_224_2 ?_
      refine z_cS3 gi_224_4 (Nat.le_of_ble_eq_true rfl) gc_148_III ?_
      refine z_iload0 gi_148_0 ?_
      refine z_iload1 gi_148_1 ?_
      refine z_icmp_ltF gi_148_2 (by omega) zr_1 (by omega) ?_
      refine z_iload0 gi_148_5 ?_
      refine z_iload2 gi_148_6 ?_
      refine z_icmp_gtT gi_148_7 (by omega) zr_99 (by omega) ?_
      refine z_pushJ gp_148_14 ?_
      refine z_bret0 gi_148_15 gr_148 ?_
      show zW _ _ _ _ _ _ _ _ _ _
      refine z_if_neF gi_224_7 zr_0 (by decide) ?_
      refine z_pushJ gp_224_10 ?_
      refine z_iret gi_224_11 gr_224 ?_
      refine ⟨?_, ?_⟩
      · first | rfl | exact congrArg (fun v => some (zi v)) (by omega) | (exfalso; omega)
      · exact hr
    · refine z_pushJ gp_145_11 ?_
      refine z_goto gi_145_12 ?_
      refine z_bret1 gi_145_16 gr_145 ?_
      show zW _ _ _ _ _ _ _ _ _ _
      refine z_if_neT gi_125_4 zr_1 (by decide) ?_
      refine z_aload0 rfl ?_
      refine z_getR (r := 23) rfl gk_0 (hR _ rm_0_6) ?_
      refine z_getI (v := J 23 4) rfl gk_23 (rfl) ?_
      refine z_if_lt rfl (by omega) (fun h3 => ?_) (fun h3 => ?_)
      · refine z_pushJ gp_125_34 ?_
        refine z_iret gi_125_36 gr_125 ?_
        refine ⟨_, rfl, ?_⟩
        show zW _ _ _ _ [some (.ref 50), some (zi c), none, none] _ _ _ _ _
        refine z_iload1 gi_224_0 ?_
        refine z_pushJ gp_224_1 ?_
        refine z_pushJ gp_224_2 ?_
        refine z_cS3 gi_224_4 (Nat.le_of_ble_eq_true rfl) gc_148_III ?_
        refine z_iload0 gi_148_0 ?_
        refine z_iload1 gi_148_1 ?_
        refine z_icmp_ltF gi_148_2 (by omega) zr_1 (by omega) ?_
        refine z_iload0 gi_148_5 ?_
        refine z_iload2 gi_148_6 ?_
        refine z_icmp_gtF gi_148_7 (by omega) zr_99 (by omega) ?_
        refine z_pushJ gp_148_10 ?_
        refine z_goto gi_148_11 ?_
        refine z_bret1 gi_148_15 gr_148 ?_
        show zW _ _ _ _ _ _ _ _ _ _
        refine z_if_neT gi_224_7 zr_1 (by decide) ?_
        refine z_aload0 gi_224_12 ?_
        refine z_getI (v := J 23 4) gi_224_13 gk_50 (d2.symm) ?_
        refine z_if_ltT gi_224_16 (by omega) (by omega) ?_
        refine z_pushJ gp_224_31 ?_
        refine z_iret gi_224_33 gr_224 ?_
        refine ⟨?_, ?_⟩
        · first | rfl | exact congrArg (fun v => some (zi v)) (by omega) | (exfalso; omega)
        · exact hr
      · refine z_aload0 rfl ?_
        refine z_getR (r := 23) rfl gk_0 (hR _ rm_0_6) ?_
        refine z_getI (v := J 23 3) rfl gk_23 (rfl) ?_
        refine z_iload1 rfl ?_
        refine z_iadd (e := (J 23 3) + c) rfl rfl ?_
        refine z_pushJ gp_125_28 ?_
        refine z_icmp_le rfl (by omega) (by decide) (fun h4 => ?_) (fun h4 => ?_)
        · refine z_aload0 rfl ?_
          refine z_getR (r := 23) rfl gk_0 (hR _ rm_0_6) ?_
          refine z_iload1 rfl ?_
          refine z_callVi (As := [_]) (le := [some _, some _, none, none]) rfl rfl gk_23 (Nat.le_of_ble_eq_true rfl) (Nat.le_of_ble_eq_true rfl) rfl ?_
          refine z_aload0 rfl ?_
          refine z_getR (r := 8) rfl gk_23 (hR _ rm_23_0) ?_
          refine z_aload0 rfl ?_
          refine z_getI (v := J 23 4) rfl gk_23 (rfl) ?_
          refine z_cV1 rfl gk_8 go_87 (Nat.le_of_ble_eq_true rfl) gc_87_RI ?_
          refine z_iload1 gi_87_0 ?_
          refine z_if_ltF gi_87_1 (by omega) (by omega) ?_
          refine z_iload1 gi_87_4 ?_
          refine z_aload0 gi_87_5 ?_
          refine z_getI (v := J 8 2) gi_87_6 gk_8 (rfl) ?_
          refine z_icmp_geF gi_87_9 (by omega) (by omega) (by omega) ?_
          refine z_pushJ gp_87_12 ?_
          refine z_goto gi_87_13 ?_
          refine z_bret1 gi_87_17 gr_87 ?_
          show zW _ _ _ _ _ _ _ _ _ _
          refine z_if_neT rfl zr_1 (by decide) ?_
          refine z_aload0 rfl ?_
          refine z_getR (r := 8) rfl gk_23 (hR _ rm_23_0) ?_
          refine z_iload1 rfl ?_
          refine z_aload0 rfl ?_
          refine z_getR (r := 24) rfl gk_23 (hR _ rm_23_1) ?_
          refine z_aload0 rfl ?_
          refine z_getI (v := J 23 4) rfl gk_23 (rfl) ?_
          refine z_iald (v := J 24 (J 23 4)) rfl gk_24 (by decide) (by omega) (rfl) ?_
          refine z_aload0 rfl ?_
          refine z_getI (v := J 23 4) rfl gk_23 (rfl) ?_
          refine z_aload0 rfl ?_
          refine z_getR (r := 25) rfl gk_23 (hR _ rm_23_2) ?_
          refine z_aload0 rfl ?_
          refine z_getI (v := J 23 4) rfl gk_23 (rfl) ?_
          refine z_iald (v := J 25 (J 23 4)) rfl gk_25 (by decide) (by omega) (rfl) ?_
          refine z_aload0 rfl ?_
          refine z_getI (v := J 23 3) rfl gk_23 (rfl) ?_
          have q11 := d11 (J 23 4) (by omega) (by omega)
          refine z_callVk (As := [_, _, _, _, _]) (v := lB T (cN J) (J 23 4) c.toNat (J 24 (J 23 4)) (J 25 (J 23 4)) (J 23 3)) rfl rfl gk_8 (Nat.le_of_ble_eq_true rfl) (Nat.le_of_ble_eq_true rfl) (leftBehind_k (A := J) hR zK_r rfl rfl y3 t2 t1 (by omega) (by omega) (by omega) (by omega) (by omega)) (fun J2 hJ2 => ?_)
          have ql := @lB_r T (cN J) (J 23 4) c.toNat (J 24 (J 23 4)) (J 25 (J 23 4)) (J 23 3) (by omega)
          refine z_istore (ls1 := [some (.ref 23), some (zi c), some (zi (lB T (cN J) (J 23 4) c.toNat (J 24 (J 23 4)) (J 25 (J 23 4)) (J 23 3))), none]) rfl rfl ?_
          refine z_aload0 rfl ?_
          refine z_getR (r := 24) rfl gk_23 (hR _ rm_23_1) ?_
          refine z_aload0 rfl ?_
          refine z_getI (v := J 23 4) rfl gk_23 (hJ2 23 4 rfl) ?_
          refine z_iald (v := J 24 (J 23 4)) rfl gk_24 (by decide) (by omega) (hJ2 24 (J 23 4) rfl) ?_
          refine z_iload2 rfl ?_
          refine z_isub (e := (J 24 (J 23 4)) - (lB T (cN J) (J 23 4) c.toNat (J 24 (J 23 4)) (J 25 (J 23 4)) (J 23 3))) rfl rfl ?_
          refine z_istore (ls1 := [some (.ref 23), some (zi c), some (zi (lB T (cN J) (J 23 4) c.toNat (J 24 (J 23 4)) (J 25 (J 23 4)) (J 23 3))), some (zi ((J 24 (J 23 4)) - (lB T (cN J) (J 23 4) c.toNat (J 24 (J 23 4)) (J 25 (J 23 4)) (J 23 3))))]) rfl rfl ?_
          refine z_aload0 rfl ?_
          refine z_getR (r := 24) rfl gk_23 (hR _ rm_23_1) ?_
          refine z_aload0 rfl ?_
          refine z_getI (v := J 23 4) rfl gk_23 (hJ2 23 4 rfl) ?_
          refine z_iload2 rfl ?_
          refine z_iast (e := lB T (cN J) (J 23 4) c.toNat (J 24 (J 23 4)) (J 25 (J 23 4)) (J 23 3)) rfl gk_24 (by decide) (by omega) rfl ?_
          refine z_aload0 rfl ?_
          refine z_getR (r := 25) rfl gk_23 (hR _ rm_23_2) ?_
          refine z_aload0 rfl ?_
          refine z_getI (v := J 23 4) rfl gk_23 ((zU_n (by decide)).trans (hJ2 23 4 rfl)) ?_
          refine z_dup2 rfl rfl rfl ?_
          refine z_iald (v := J 25 (J 23 4)) rfl gk_25 (by decide) (by omega) ((zU_n (by decide)).trans (hJ2 25 (J 23 4) rfl)) ?_
          refine z_iload1 rfl ?_
          refine z_iadd (e := (J 25 (J 23 4)) + c) rfl rfl ?_
          refine z_iast (e := (J 25 (J 23 4)) + c) rfl gk_25 (by decide) (by omega) rfl ?_
          refine z_aload0 rfl ?_
          refine z_dup rfl rfl ?_
          refine z_getI (v := J 23 3) rfl gk_23 ((zU_n (by decide)).trans ((zU_n (by decide)).trans (hJ2 23 3 rfl))) ?_
          refine z_iload1 rfl ?_
          refine z_iadd (e := (J 23 3) + c) rfl rfl ?_
          refine z_putI (y := 3) rfl rfl gk_23 ?_
          refine z_aload0 rfl ?_
          refine z_dup rfl rfl ?_
          refine z_getI (v := J 23 6) rfl gk_23 ((zU_x (by decide)).trans ((zU_n (by decide)).trans ((zU_n (by decide)).trans (hJ2 23 6 rfl)))) ?_
          refine z_iload1 rfl ?_
          refine z_iadd (e := (J 23 6) + c) rfl rfl ?_
          refine z_putI (y := 6) rfl rfl gk_23 ?_
          refine z_aload0 rfl ?_
          refine z_dup rfl rfl ?_
          refine z_getI (v := J 23 7) rfl gk_23 ((zU_x (by decide)).trans ((zU_x (by decide)).trans ((zU_n (by decide)).trans ((zU_n (by decide)).trans (hJ2 23 7 rfl))))) ?_
          refine z_iload3 rfl ?_
          refine z_iadd (e := (J 23 7) + ((J 24 (J 23 4)) - (lB T (cN J) (J 23 4) c.toNat (J 24 (J 23 4)) (J 25 (J 23 4)) (J 23 3)))) rfl rfl ?_
          refine z_putI (y := 7) rfl rfl gk_23 ?_
          refine z_iload3 rfl ?_
          refine z_iret rfl gr_20 ?_
          show zW _ _ _ _ _ _ _ _ _ _
          refine z_iret rfl gr_125 ?_
          refine ⟨_, rfl, ?_⟩
          show zW _ _ _ _ [some (.ref 50), some (zi c), none, none] _ _ _ _ _
          refine z_iload1 gi_224_0 ?_
          refine z_pushJ gp_224_1 ?_
          refine z_pushJ gp_224_2 ?_
          refine z_cS3 gi_224_4 (Nat.le_of_ble_eq_true rfl) gc_148_III ?_
          refine z_iload0 gi_148_0 ?_
          refine z_iload1 gi_148_1 ?_
          refine z_icmp_ltF gi_148_2 (by omega) zr_1 (by omega) ?_
          refine z_iload0 gi_148_5 ?_
          refine z_iload2 gi_148_6 ?_
          refine z_icmp_gtF gi_148_7 (by omega) zr_99 (by omega) ?_
          refine z_pushJ gp_148_10 ?_
          refine z_goto gi_148_11 ?_
          refine z_bret1 gi_148_15 gr_148 ?_
          show zW _ _ _ _ _ _ _ _ _ _
          refine z_if_neT gi_224_7 zr_1 (by decide) ?_
          refine z_aload0 gi_224_12 ?_
          refine z_getI (v := J 23 4) gi_224_13 gk_50 ((zU_n (by decide)).trans ((zU_n (by decide)).trans ((zU_n (by decide)).trans ((zU_n (by decide)).trans ((zU_n (by decide)).trans ((hJ2 50 44 rfl).trans d2.symm)))))) ?_
          refine z_if_ltF gi_224_16 (by omega) (by omega) ?_
          refine z_aload0 gi_224_19 ?_
          refine z_getI (v := J 23 3) gi_224_20 gk_50 ((zU_n (by decide)).trans ((zU_n (by decide)).trans ((zU_n (by decide)).trans ((zU_n (by decide)).trans ((zU_n (by decide)).trans ((hJ2 50 45 rfl).trans d1.symm)))))) ?_
          refine z_iload1 gi_224_23 ?_
          refine z_iadd (e := (J 23 3) + c) gi_224_24 rfl ?_
          refine z_pushJ gp_224_25 ?_
          refine z_icmp_leT gi_224_28 (by omega) (by decide) (by omega) ?_
          refine z_aload0 rfl ?_
          refine z_callVx (As := []) rfl rfl rfl (Nat.le_of_ble_eq_true rfl) (Nat.le_of_ble_eq_true rfl) (layDeed_e (n := J 8 2) (a := J 23 4) (b := J 23 3) hRr (by exact (zU_n (by decide)).trans ((zU_n (by decide)).trans ((zU_n (by decide)).trans ((zU_n (by decide)).trans ((zU_n (by decide)).trans ((hJ2 50 1 rfl).trans y2.symm)))))) yn (by exact (zU_n (by decide)).trans ((zU_n (by decide)).trans ((zU_n (by decide)).trans ((zU_n (by decide)).trans ((zU_n (by decide)).trans ((hJ2 50 44 rfl).trans d2.symm)))))) (by exact (zU_n (by decide)).trans ((zU_n (by decide)).trans ((zU_n (by decide)).trans ((zU_n (by decide)).trans ((zU_n (by decide)).trans ((hJ2 50 45 rfl).trans d1.symm))))))) ?_
          show zW _ _ _ _ _ _ _ _ _ _
          refine z_pushJ gp_224_38 ?_
          refine z_istore (ls1 := [some (.ref 50), some (zi c), some (zi 0), none]) rfl rfl ?_
          refine z_pushJ gp_224_40 ?_
          refine z_istore (ls1 := [some (.ref 50), some (zi c), some (zi 0), some (zi 0)]) rfl rfl ?_
          show zW _ _ _ _ [some (.ref 50), some (zi c), some (zi 0), some (zi 0)] [] _ _ _ _
          have kv := (zK_x (a := 50) (x := 31) (v := J 23 3) (zK_x (a := 50) (x := 30) (v := J 23 4) (zK_c (a := 76) (b := 70) (sp := 0) (dp := 0) (n := (J 8 2)) (zK_c (a := 75) (b := 69) (sp := 0) (dp := 0) (n := (J 8 2)) (zK_x (a := 23) (x := 7) (v := (J 23 7) + ((J 24 (J 23 4)) - (lB T (cN J) (J 23 4) c.toNat (J 24 (J 23 4)) (J 25 (J 23 4)) (J 23 3)))) (zK_x (a := 23) (x := 6) (v := (J 23 6) + c) (zK_x (a := 23) (x := 3) (v := (J 23 3) + c) (zK_x (a := 25) (x := J 23 4) (v := (J 25 (J 23 4)) + c) (zK_x (a := 24) (x := J 23 4) (v := lB T (cN J) (J 23 4) c.toNat (J 24 (J 23 4)) (J 25 (J 23 4)) (J 23 3)) (zK_m hJ2 kV_T) rfl) rfl) rfl) rfl) rfl) (fun _ => rfl)) (fun _ => rfl)) rfl) rfl)
          refine listenR_k (N := cN J) (n := J 8 2) (T := T) (p := (J 23 4)) (m := J 23 3) (l := J 25 (J 23 4)) (s := J 24 (J 23 4)) hRr ((rN_V kv).trans y1.symm) ((zU_x (by decide)).trans ((zU_x (by decide)).trans ((zC_n (by decide)).trans ((zC_n (by decide)).trans ((zU_n (by decide)).trans ((zU_n (by decide)).trans ((zU_n (by decide)).trans ((zU_n (by decide)).trans ((zU_n (by decide)).trans ((hJ2 50 1 rfl).trans y2.symm)))))))))) y3 (LawR_V t3 kv) t1 ((zU_x (by decide)).trans ((zU_x (by decide)).trans ((zC_n (by decide)).trans ((zC_n (by decide)).trans ((zU_n (by decide)).trans ((zU_n (by decide)).trans ((zU_n (by decide)).trans ((zU_n (by decide)).trans ((zU_n (by decide)).trans ((hJ2 50 44 rfl).trans d2.symm)))))))))) ((zU_x (by decide)).trans ((zU_x (by decide)).trans ((zC_n (by decide)).trans ((zC_n (by decide)).trans ((zU_n (by decide)).trans ((zU_n (by decide)).trans ((zU_n (by decide)).trans ((zU_n (by decide)).trans ((zU_n (by decide)).trans ((hJ2 50 45 rfl).trans d1.symm)))))))))) ?_ ?_ (by omega) (by omega) (by omega) (by omega) (by omega) (fun JF hF => ?_)
          · exact (zU_n (by decide)).trans ((zU_n (by decide)).trans ((zC_n (by decide)).trans ((zC_at (by omega)).trans ((hJ2 75 _ rfl).trans (d9 _ (by omega) (by omega)).1.symm))))
          · exact (zU_n (by decide)).trans ((zU_n (by decide)).trans ((zC_at (by omega)).trans ((hJ2 76 _ rfl).trans (d9 _ (by omega) (by omega)).2.symm)))
          refine z_aload0 rfl ?_
          refine z_getR (r := 75) rfl gk_50 (hRr _ rm_50_42 (by decide)) ?_
          refine z_aload0 rfl ?_
          refine z_getI (v := J 23 4) rfl gk_50 ((hF 50 44 rfl).trans ((zU_n (by decide)).trans ((zU_n (by decide)).trans ((zU_x (by decide)).trans ((zU_x (by decide)).trans ((zC_n (by decide)).trans ((zC_n (by decide)).trans ((zU_n (by decide)).trans ((zU_n (by decide)).trans ((zU_n (by decide)).trans ((zU_n (by decide)).trans ((zU_n (by decide)).trans ((hJ2 50 44 rfl).trans d2.symm))))))))))))) ?_
          refine z_aload0 rfl ?_
          refine z_getR (r := 69) rfl gk_50 (hRr _ rm_50_28 (by decide)) ?_
          refine z_aload0 rfl ?_
          refine z_getI (v := J 23 4) rfl gk_50 ((hF 50 44 rfl).trans ((zU_n (by decide)).trans ((zU_n (by decide)).trans ((zU_x (by decide)).trans ((zU_x (by decide)).trans ((zC_n (by decide)).trans ((zC_n (by decide)).trans ((zU_n (by decide)).trans ((zU_n (by decide)).trans ((zU_n (by decide)).trans ((zU_n (by decide)).trans ((zU_n (by decide)).trans ((hJ2 50 44 rfl).trans d2.symm))))))))))))) ?_
          refine z_iald (v := lB T (cN J) (J 23 4) c.toNat (J 24 (J 23 4)) (J 25 (J 23 4)) (J 23 3)) rfl gk_69 (by decide) (by omega) ((hF 69 _ rfl).trans zU_69p) ?_
          refine z_iast (e := lB T (cN J) (J 23 4) c.toNat (J 24 (J 23 4)) (J 25 (J 23 4)) (J 23 3)) rfl gk_75 (by decide) (by omega) rfl ?_
          refine z_aload0 rfl ?_
          refine z_getR (r := 76) rfl gk_50 (hRr _ rm_50_43 (by decide)) ?_
          refine z_aload0 rfl ?_
          refine z_getI (v := J 23 4) rfl gk_50 ((zU_n (by decide)).trans ((hF 50 44 rfl).trans ((zU_n (by decide)).trans ((zU_n (by decide)).trans ((zU_x (by decide)).trans ((zU_x (by decide)).trans ((zC_n (by decide)).trans ((zC_n (by decide)).trans ((zU_n (by decide)).trans ((zU_n (by decide)).trans ((zU_n (by decide)).trans ((zU_n (by decide)).trans ((zU_n (by decide)).trans ((hJ2 50 44 rfl).trans d2.symm)))))))))))))) ?_
          refine z_aload0 rfl ?_
          refine z_getR (r := 70) rfl gk_50 (hRr _ rm_50_29 (by decide)) ?_
          refine z_aload0 rfl ?_
          refine z_getI (v := J 23 4) rfl gk_50 ((zU_n (by decide)).trans ((hF 50 44 rfl).trans ((zU_n (by decide)).trans ((zU_n (by decide)).trans ((zU_x (by decide)).trans ((zU_x (by decide)).trans ((zC_n (by decide)).trans ((zC_n (by decide)).trans ((zU_n (by decide)).trans ((zU_n (by decide)).trans ((zU_n (by decide)).trans ((zU_n (by decide)).trans ((zU_n (by decide)).trans ((hJ2 50 44 rfl).trans d2.symm)))))))))))))) ?_
          refine z_iald (v := J 25 (J 23 4) + c) rfl gk_70 (by decide) (by omega) ((zU_n (by decide)).trans ((hF 70 _ rfl).trans zU_70p)) ?_
          refine z_iast (e := J 25 (J 23 4) + c) rfl gk_76 (by decide) (by omega) rfl ?_
          refine z_aload0 rfl ?_
          refine z_dup rfl rfl ?_
          refine z_getI (v := J 23 3) rfl gk_50 ((zU_n (by decide)).trans ((zU_n (by decide)).trans ((hF 50 45 rfl).trans ((zU_n (by decide)).trans ((zU_n (by decide)).trans ((zU_x (by decide)).trans ((zU_x (by decide)).trans ((zC_n (by decide)).trans ((zC_n (by decide)).trans ((zU_n (by decide)).trans ((zU_n (by decide)).trans ((zU_n (by decide)).trans ((zU_n (by decide)).trans ((zU_n (by decide)).trans ((hJ2 50 45 rfl).trans d1.symm))))))))))))))) ?_
          refine z_iload1 rfl ?_
          refine z_iadd (e := (J 23 3) + c) rfl rfl ?_
          refine z_putI (y := 45) rfl rfl gk_50 ?_
          refine z_aload0 rfl ?_
          refine z_getR (r := 77) rfl gk_50 (hRr _ rm_50_46 (by decide)) ?_
          refine z_pushJ gp_224_120 ?_
          refine z_dup2 rfl rfl rfl ?_
          refine z_iald (v := J 77 1) rfl gk_77 (by decide) (by decide) ((zU_n (by decide)).trans ((zU_n (by decide)).trans ((zU_n (by decide)).trans ((hF 77 1 rfl).trans ((zU_n (by decide)).trans ((zU_n (by decide)).trans ((zU_n (by decide)).trans ((zU_n (by decide)).trans ((zC_n (by decide)).trans ((zC_n (by decide)).trans ((zU_n (by decide)).trans ((zU_n (by decide)).trans ((zU_n (by decide)).trans ((zU_n (by decide)).trans ((zU_n (by decide)).trans (hJ2 77 1 rfl)))))))))))))))) ?_
          refine z_iload1 rfl ?_
          refine z_iadd (e := (J 77 1) + c) rfl rfl ?_
          refine z_iast (e := (J 77 1) + c) rfl gk_77 (by decide) (by decide) rfl ?_
          refine z_aload0 rfl ?_
          refine z_getR (r := 77) rfl gk_50 (hRr _ rm_50_46 (by decide)) ?_
          refine z_pushJ gp_224_130 ?_
          refine z_dup2 rfl rfl rfl ?_
          refine z_iald (v := J 77 2) rfl gk_77 (by decide) (by decide) ((zU_x (by decide)).trans ((zU_n (by decide)).trans ((zU_n (by decide)).trans ((zU_n (by decide)).trans ((hF 77 2 rfl).trans ((zU_n (by decide)).trans ((zU_n (by decide)).trans ((zU_n (by decide)).trans ((zU_n (by decide)).trans ((zC_n (by decide)).trans ((zC_n (by decide)).trans ((zU_n (by decide)).trans ((zU_n (by decide)).trans ((zU_n (by decide)).trans ((zU_n (by decide)).trans ((zU_n (by decide)).trans (hJ2 77 2 rfl))))))))))))))))) ?_
          refine z_iload2 rfl ?_
          refine z_iadd (e := (J 77 2) + (J 24 (J 23 4) - lB T (cN J) (J 23 4) c.toNat (J 24 (J 23 4)) (J 25 (J 23 4)) (J 23 3))) rfl rfl ?_
          refine z_iast (e := (J 77 2) + (J 24 (J 23 4) - lB T (cN J) (J 23 4) c.toNat (J 24 (J 23 4)) (J 25 (J 23 4)) (J 23 3))) rfl gk_77 (by decide) (by decide) rfl ?_
          refine z_iload2 rfl ?_
          refine z_iret rfl gr_224 ?_
          refine ⟨?_, ?_⟩
          · first | rfl | exact congrArg (fun v => some (zi v)) (by omega) | (exfalso; omega)
          · have hkf := (zK_u (a := 77) (x := 2) (v := (J 77 2) + (J 24 (J 23 4) - lB T (cN J) (J 23 4) c.toNat (J 24 (J 23 4)) (J 25 (J 23 4)) (J 23 3))) (zK_u (a := 77) (x := 1) (v := (J 77 1) + c) (zK_u (a := 50) (x := 45) (v := (J 23 3) + c) (zK_u (a := 76) (x := J 23 4) (v := J 25 (J 23 4) + c) (zK_u (a := 75) (x := J 23 4) (v := lB T (cN J) (J 23 4) c.toNat (J 24 (J 23 4)) (J 25 (J 23 4)) (J 23 3)) (zK_t (zK_x (a := 70) (x := (J 23 4)) (v := J 25 (J 23 4) + c) (zK_x (a := 69) (x := (J 23 4)) (v := lB T (cN J) (J 23 4) c.toNat (J 24 (J 23 4)) (J 25 (J 23 4)) (J 23 3)) (zK_x (a := 50) (x := 31) (v := J 23 3) (zK_x (a := 50) (x := 30) (v := J 23 4) (zK_c (a := 76) (b := 70) (sp := 0) (dp := 0) (n := (J 8 2)) (zK_c (a := 75) (b := 69) (sp := 0) (dp := 0) (n := (J 8 2)) (zK_u (a := 23) (x := 7) (v := (J 23 7) + ((J 24 (J 23 4)) - (lB T (cN J) (J 23 4) c.toNat (J 24 (J 23 4)) (J 25 (J 23 4)) (J 23 3)))) (zK_u (a := 23) (x := 6) (v := (J 23 6) + c) (zK_u (a := 23) (x := 3) (v := (J 23 3) + c) (zK_u (a := 25) (x := J 23 4) (v := (J 25 (J 23 4)) + c) (zK_u (a := 24) (x := J 23 4) (v := lB T (cN J) (J 23 4) c.toNat (J 24 (J 23 4)) (J 25 (J 23 4)) (J 23 3)) (zK_m hJ2 kS_T)))))) (fun _ => rfl)) (fun _ => rfl)) rfl) rfl) rfl) rfl) (zK_m hF kS_T)))))))
            refine Rel_S hkf zK_r ?_
            have hk := (zK_x (a := 77) (x := 2) (v := (J 77 2) + (J 24 (J 23 4) - lB T (cN J) (J 23 4) c.toNat (J 24 (J 23 4)) (J 25 (J 23 4)) (J 23 3))) (zK_x (a := 77) (x := 1) (v := (J 77 1) + c) (zK_x (a := 50) (x := 45) (v := (J 23 3) + c) (zK_x (a := 76) (x := J 23 4) (v := J 25 (J 23 4) + c) (zK_x (a := 75) (x := J 23 4) (v := lB T (cN J) (J 23 4) c.toNat (J 24 (J 23 4)) (J 25 (J 23 4)) (J 23 3)) (zK_x (a := 23) (x := 7) (v := (J 23 7) + ((J 24 (J 23 4)) - (lB T (cN J) (J 23 4) c.toNat (J 24 (J 23 4)) (J 25 (J 23 4)) (J 23 3)))) (zK_x (a := 23) (x := 6) (v := (J 23 6) + c) (zK_x (a := 23) (x := 3) (v := (J 23 3) + c) (zK_x (a := 25) (x := J 23 4) (v := (J 25 (J 23 4)) + c) (zK_x (a := 24) (x := J 23 4) (v := lB T (cN J) (J 23 4) c.toNat (J 24 (J 23 4)) (J 25 (J 23 4)) (J 23 3)) (zK_r (k := (kL [24, 25, 75, 76] [(23, 3), (23, 6), (23, 7), (50, 45), (77, 1), (77, 2)])) (A := J)) rfl) rfl) rfl) rfl) rfl) rfl) rfl) rfl) rfl) rfl)
            exact ⟨hR, hG, RelY_k hk (by repeat' constructor) (fun p => by repeat' constructor) hY, (RelD_li (J := J) (p := (J 23 4)) (c := c) (s := lB T (cN J) (J 23 4) c.toNat (J 24 (J 23 4)) (J 25 (J 23 4)) (J 23 3)) hD (by omega) (by omega) (by omega) (by omega) (by omega) rfl rfl rfl rfl rfl rfl rfl rfl rfl rfl rfl rfl rfl (fun q => rfl) (fun q => rfl) (fun q => rfl) (fun q => rfl)), RelP_k hk (by repeat' constructor) (fun p => by repeat' constructor) hP, RelC_k hk (by repeat' constructor) (fun p => by repeat' constructor) hC, RelA_k hk (by repeat' constructor) (fun p => by repeat' constructor) hAc, RelS_k hk (zK_r (k := kM)) (fun x j a b => ⟨kL_38 (by decide) (by decide) x j a b, kM_38 x j a b⟩) (fun p => ⟨rfl, rfl, rfl⟩) rfl hS, RelT_k hk (by repeat' constructor) (fun p => by repeat' constructor) hTp, RelX_k hk (by repeat' constructor) (fun p => by repeat' constructor) hX, RelW_k hk ⟨rfl, rfl⟩ trivial hW⟩
        · refine z_pushJ gp_125_34 ?_
          refine z_iret gi_125_36 gr_125 ?_
          refine ⟨_, rfl, ?_⟩
          show zW _ _ _ _ [some (.ref 50), some (zi c), none, none] _ _ _ _ _
          refine z_iload1 gi_224_0 ?_
          refine z_pushJ gp_224_1 ?_
          refine z_pushJ gp_224_2 ?_
          refine z_cS3 gi_224_4 (Nat.le_of_ble_eq_true rfl) gc_148_III ?_
          refine z_iload0 gi_148_0 ?_
          refine z_iload1 gi_148_1 ?_
          refine z_icmp_ltF gi_148_2 (by omega) zr_1 (by omega) ?_
          refine z_iload0 gi_148_5 ?_
          refine z_iload2 gi_148_6 ?_
          refine z_icmp_gtF gi_148_7 (by omega) zr_99 (by omega) ?_
          refine z_pushJ gp_148_10 ?_
          refine z_goto gi_148_11 ?_
          refine z_bret1 gi_148_15 gr_148 ?_
          show zW _ _ _ _ _ _ _ _ _ _
          refine z_if_neT gi_224_7 zr_1 (by decide) ?_
          refine z_aload0 gi_224_12 ?_
          refine z_getI (v := J 23 4) gi_224_13 gk_50 (d2.symm) ?_
          refine z_if_ltF gi_224_16 (by omega) (by omega) ?_
          refine z_aload0 gi_224_19 ?_
          refine z_getI (v := J 23 3) gi_224_20 gk_50 (d1.symm) ?_
          refine z_iload1 gi_224_23 ?_
          refine z_iadd (e := (J 23 3) + c) gi_224_24 rfl ?_
          refine z_pushJ gp_224_25 ?_
          refine z_icmp_leF gi_224_28 (by omega) (by decide) (by omega) ?_
          refine z_pushJ gp_224_31 ?_
          refine z_iret gi_224_33 gr_224 ?_
          refine ⟨?_, ?_⟩
          · first | rfl | exact congrArg (fun v => some (zi v)) (by omega) | (exfalso; omega)
          · exact hr
