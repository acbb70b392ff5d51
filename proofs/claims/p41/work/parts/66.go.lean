/-- the reference's numbers of places -/
noncomputable def kN (x : Nat) (j : Int) : Bool := bif x.beq 50 then decide (j = 1) else (Nat.ble 51 x && Nat.ble x 56)
theorem kN_t {x : Nat} {j : Int} (h : 51 ≤ x ∧ x ≤ 56) : kN x j = true := by
  unfold kN
  rw [beq_f (by omega), Nat.ble_eq_true_of_le h.1, Nat.ble_eq_true_of_le h.2]
  rfl
theorem rN_n {A J : zA} (h : zK kN A J) : rN J = rN A := by
  funext p w
  unfold rN
  have q1 : J 50 1 = A 50 1 := h 50 1 rfl
  have q2 : ∀ i, J 56 i = A 56 i := fun i => h 56 i (kN_t (by omega))
  rw [q1, q2]
  by_cases c : 0 ≤ w ∧ w < 5 ∧ 0 ≤ p ∧ p < A 50 1
  · rw [if_pos c, if_pos c]
    exact h _ _ (kN_t (by omega))
  · rw [if_neg c, if_neg c]
theorem wayTo_e {X : Nat × (Nat → Int32)} {d : Nat} {J M : zA} {R : zR} {N : Int → Int → Int} {n a p : Int} (hR : zRoR R) (hA : rN J = N) (hz : J 50 1 = n) (hN : zNr n N) (ha : J 50 30 = a) (hp : 0 ≤ p ∧ p < n) (h1 : -1 ≤ a ∧ a < n) : zW X (d + 3) 188 0 (gEn 188 [.ref 50, zi p]) [] J M R (zPu (sWay N a p) J M R) := by
  have h := @wayTo_k X d J M R J N n hR zK_r hA hz hN p hp (by rw [ha]; exact h1)
  rw [ha] at h
  exact h
theorem layDeed_k {X : Nat × (Nat → Int32)} {d : Nat} {J M : zA} {R : zR} {n : Int} (hR : zRoR R) (hz : J 50 1 = n) (hn : 0 ≤ n ∧ n ≤ 8) : zW X (d + 1) 222 0 (gEn 222 [(.ref 50)]) [] J M R (zPx none (zU (zU (zC (zC J 75 69 0 0 n) 76 70 0 0 n) 50 30 (J 50 44)) 50 31 (J 50 45)) M R) := by
  show zW _ _ _ _ [some (.ref 50), none] _ _ _ _ _
  refine z_pushJ gp_222_0 ?_
  refine z_istore (ls1 := [some (.ref 50), some (zi 0)]) rfl rfl ?_
  show zW _ _ _ _ [some (.ref 50), some (zi 0)] [] _ _ _ _
  refine zC_01 (a := 75) (b := 69) (a2 := 76) (b2 := 70) ?_
  refine layDeed_z hR (n := n) hz hn n.toNat 0 (by omega) (by decide) ?_
  refine z_aload0 rfl ?_
  refine z_aload0 rfl ?_
  refine z_getI (v := J 50 44) rfl gk_50 ((zC_n (by decide)).trans ((zC_n (by decide)).trans (rfl))) ?_
  refine z_putI (y := 30) rfl rfl gk_50 ?_
  refine z_aload0 rfl ?_
  refine z_aload0 rfl ?_
  refine z_getI (v := J 50 45) rfl gk_50 ((zU_x (by decide)).trans ((zC_n (by decide)).trans ((zC_n (by decide)).trans (rfl)))) ?_
  refine z_putI (y := 31) rfl rfl gk_50 ?_
  refine z_vret rfl gr_222 ?_
  exact ⟨rfl, rfl, rfl, rfl⟩
theorem layDeed_e {X : Nat × (Nat → Int32)} {d : Nat} {J M : zA} {R : zR} {n a b : Int} (hR : zRoR R) (hz : J 50 1 = n) (hn : 0 ≤ n ∧ n ≤ 8) (h44 : J 50 44 = a) (h45 : J 50 45 = b) : zW X (d + 1) 222 0 (gEn 222 [.ref 50]) [] J M R (zPx none (zU (zU (zC (zC J 75 69 0 0 n) 76 70 0 0 n) 50 30 a) 50 31 b) M R) := by
  subst h44 h45
  exact layDeed_k hR hz hn
theorem RelD_go {J J2 : zA} {p t : Int} (hD : RelD J) (hp : 0 ≤ p ∧ p < J 8 2) (ht : J 23 3 ≤ t ∧ t ≤ 999) (e3 : J2 23 3 = t) (e4 : J2 23 4 = p) (e5 : J2 23 5 = J 23 5 + 1) (e6 : J2 23 6 = J 23 6) (e7 : J2 23 7 = J 23 7) (e8 : J2 23 8 = J 23 8) (f45 : J2 50 45 = t) (f44 : J2 50 44 = p) (g0 : J2 77 0 = J 77 0 + 1) (g1 : J2 77 1 = J 77 1) (g2 : J2 77 2 = J 77 2) (g3 : J2 77 3 = J 77 3) (hn : J2 8 2 = J 8 2) (a24 : ∀ p, J2 24 p = J 24 p) (a25 : ∀ p, J2 25 p = J 25 p) (a75 : ∀ p, J2 75 p = J 75 p) (a76 : ∀ p, J2 76 p = J 76 p) : RelD J2 := by
  obtain ⟨⟨d1, d2, d3, d4, d5, d6⟩, d7, d8, d9, d10, d11⟩ := hD
  unfold RelD
  simp only [e3, e4, e5, e6, e7, e8, f45, f44, g0, g1, g2, g3, hn, a24, a25, a75, a76]
  refine ⟨⟨trivial, trivial, by omega, d4, d5, d6⟩, by omega, by omega, d9, d10, fun q q1 q2 => ⟨(d11 q q1 q2).1, (d11 q q1 q2).2.1, by have := (d11 q q1 q2).2.2; omega⟩⟩
theorem st_go {X : Nat × (Nat → Int32)} {d : Nat} {J M : zA} {R : zR} {p : Int} (hr : Rel X J M R) (hp : -2147483648 ≤ p ∧ p < 2147483648)  : zW X (d + 20) 124 0 (gEn 124 [(.ref 0), (zi p)]) [] J M R (stP X (d + 20) 223 [(zi p)]) := by
  have hr0 := hr
  obtain ⟨hR, hG, hY, hD, hP, hC, hAc, hS, hTp, hX, hW⟩ := hr0
  have hRr : zRoR R := zRoR_of hR
  have hY0 := hY
  obtain ⟨y1, y2, y3⟩ := hY0
  have yn := zNn y3
  have hD0 := hD
  obtain ⟨⟨d1, d2, d3, d4, d5, d6⟩, d7, d8, d9, d10, d11⟩ := hD0
  show zW _ _ _ _ [some (.ref 0), some (zi p), none] _ _ _ _ _
  refine z_aload0 rfl ?_
  refine z_getR (r := 8) rfl gk_0 (hR _ rm_0_1) ?_
  refine z_iload1 rfl ?_
  refine z_cV1 rfl gk_8 go_87 (Nat.le_of_ble_eq_true rfl) gc_87_RI ?_
  refine z_iload1 gi_87_0 ?_
  refine z_if_lt gi_87_1 (by omega) (fun h1 => ?_) (fun h1 => ?_)
  · refine z_pushJ gp_87_16 ?_
    refine z_bret0 gi_87_17 gr_87 ?_
    show zW _ _ _ _ _ _ _ _ _ _
    refine z_if_neF gi_124_8 zr_0 (by decide) ?_
    refine z_pushJ gp_124_11 ?_
    refine z_iret gi_124_12 gr_124 ?_
    refine ⟨_, rfl, ?_⟩
    show zW _ _ _ _ [some (.ref 50), some (zi p)] _ _ _ _ _
    refine z_aload0 gi_223_0 ?_
    refine z_iload1 gi_223_1 ?_
    refine z_cV1 gi_223_2 gk_50 go_151 (Nat.le_of_ble_eq_true rfl) gc_151_RI ?_
    refine z_iload1 gi_151_0 ?_
    refine z_pushJ gp_151_1 ?_
    refine z_aload0 gi_151_2 ?_
    refine z_getI (v := J 8 2) gi_151_3 gk_50 (y2.symm) ?_
    refine z_pushJ gp_151_6 ?_
    refine z_isub (e := (J 8 2) - 1) gi_151_7 rfl ?_
    refine z_cS3 gi_151_8 (Nat.le_of_ble_eq_true rfl) gc_148_III ?_
    refine z_iload0 gi_148_0 ?_
    refine z_iload1 gi_148_1 ?_
    refine z_icmp_ltT gi_148_2 (by omega) zr_0 (by omega) ?_
    refine z_pushJ gp_148_14 ?_
    refine z_bret0 gi_148_15 gr_148 ?_
    show zW _ _ _ _ _ _ _ _ _ _
    refine z_bret0 gi_151_11 gr_151 ?_
    show zW _ _ _ _ _ _ _ _ _ _
    refine z_if_neF gi_223_5 zr_0 (by decide) ?_
    refine z_pushJ gp_223_8 ?_
    refine z_iret gi_223_9 gr_223 ?_
    refine ⟨?_, ?_⟩
    · first | rfl | exact congrArg (fun v => some (zi v)) (by omega) | (exfalso; omega)
    · exact hr
  · refine z_iload1 gi_87_4 ?_
    refine z_aload0 gi_87_5 ?_
    refine z_getI (v := J 8 2) gi_87_6 gk_8 (rfl) ?_
    refine z_icmp_ge gi_87_9 (by omega) (by omega) (fun h2 => ?_) (fun h2 => ?_)
    · refine z_pushJ gp_87_16 ?_
      refine z_bret0 gi_87_17 gr_87 ?_
      show zW _ _ _ _ _ _ _ _ _ _
      refine z_if_neF gi_124_8 zr_0 (by decide) ?_
      refine z_pushJ gp_124_11 ?_
      refine z_iret gi_124_12 gr_124 ?_
      refine ⟨_, rfl, ?_⟩
      show zW _ _ _ _ [some (.ref 50), some (zi p)] _ _ _ _ _
      refine z_aload0 gi_223_0 ?_
      refine z_iload1 gi_223_1 ?_
      refine z_cV1 gi_223_2 gk_50 go_151 (Nat.le_of_ble_eq_true rfl) gc_151_RI ?_
      refine z_iload1 gi_151_0 ?_
      refine z_pushJ gp_151_1 ?_
      refine z_aload0 gi_151_2 ?_
      refine z_getI (v := J 8 2) gi_151_3 gk_50 (y2.symm) ?_
      refine z_pushJ gp_151_6 ?_
      refine z_isub (e := (J 8 2) - 1) gi_151_7 rfl ?_
      refine z_cS3 gi_151_8 (Nat.le_of_ble_eq_true rfl) gc_148_III ?_
      refine z_iload0 gi_148_0 ?_
      refine z_iload1 gi_148_1 ?_
      refine z_icmp_ltF gi_148_2 (by omega) zr_0 (by omega) ?_
      refine z_iload0 gi_148_5 ?_
      refine z_iload2 gi_148_6 ?_
      refine z_icmp_gtT gi_148_7 (by omega) (by omega) (by omega) ?_
      refine z_pushJ gp_148_14 ?_
      refine z_bret0 gi_148_15 gr_148 ?_
      show zW _ _ _ _ _ _ _ _ _ _
      refine z_bret0 gi_151_11 gr_151 ?_
      show zW _ _ _ _ _ _ _ _ _ _
      refine z_if_neF gi_223_5 zr_0 (by decide) ?_
      refine z_pushJ gp_223_8 ?_
      refine z_iret gi_223_9 gr_223 ?_
      refine ⟨?_, ?_⟩
      · first | rfl | exact congrArg (fun v => some (zi v)) (by omega) | (exfalso; omega)
      · exact hr
    · refine z_pushJ gp_87_12 ?_
      refine z_goto gi_87_13 ?_
      refine z_bret1 gi_87_17 gr_87 ?_
      show zW _ _ _ _ _ _ _ _ _ _
      refine z_if_neT gi_124_8 zr_1 (by decide) ?_
      refine z_aload0 rfl ?_
      refine z_getR (r := 23) rfl gk_0 (hR _ rm_0_6) ?_
      refine z_getI (v := J 23 3) rfl gk_23 (rfl) ?_
      refine z_aload0 rfl ?_
      refine z_getR (r := 8) rfl gk_0 (hR _ rm_0_1) ?_
      refine z_aload0 rfl ?_
      refine z_getR (r := 23) rfl gk_0 (hR _ rm_0_6) ?_
      refine z_getI (v := J 23 4) rfl gk_23 (rfl) ?_
      refine z_iload1 rfl ?_
      refine z_callVP (As := [_, _]) (v := sWay (cN J) (J 23 4) p) rfl rfl gk_8 (Nat.le_of_ble_eq_true rfl) (Nat.le_of_ble_eq_true rfl) (way_k hR zK_r rfl rfl y3 (by omega) hp) ?_
      have qw := sWay_r y3 (f := J 23 4) (p := p)
      refine z_iadd (e := (J 23 3) + (sWay (cN J) (J 23 4) p)) rfl rfl ?_
      refine z_istore (ls1 := [some (.ref 0), some (zi p), some (zi ((J 23 3) + (sWay (cN J) (J 23 4) p)))]) rfl rfl ?_
      refine z_iload2 rfl ?_
      refine z_pushJ gp_124_38 ?_
      refine z_icmp_le rfl (by omega) (by decide) (fun h3 => ?_) (fun h3 => ?_)
      · refine z_aload0 rfl ?_
        refine z_getR (r := 23) rfl gk_0 (hR _ rm_0_6) ?_
        refine z_iload1 rfl ?_
        refine z_iload2 rfl ?_
        refine z_cV2 rfl gk_23 go_19 (Nat.le_of_ble_eq_true rfl) gc_19_RII ?_
        refine z_aload0 rfl ?_
        refine z_iload1 rfl ?_
        refine z_putI (y := 4) rfl rfl gk_23 ?_
        refine z_aload0 rfl ?_
        refine z_iload2 rfl ?_
        refine z_putI (y := 3) rfl rfl gk_23 ?_
        refine z_aload0 rfl ?_
        refine z_dup rfl rfl ?_
        refine z_getI (v := J 23 5) rfl gk_23 ((zU_x (by decide)).trans ((zU_x (by decide)).trans (rfl))) ?_
        refine z_pushJ gp_19_15 ?_
        refine z_iadd (e := (J 23 5) + 1) rfl rfl ?_
        refine z_putI (y := 5) rfl rfl gk_23 ?_
        refine z_vret rfl gr_19 ?_
        show zW _ _ _ _ _ _ _ _ _ _
        refine z_iload2 rfl ?_
        refine z_iret rfl gr_124 ?_
        refine ⟨_, rfl, ?_⟩
        show zW _ _ _ _ [some (.ref 50), some (zi p)] _ _ _ _ _
        refine z_aload0 gi_223_0 ?_
        refine z_iload1 gi_223_1 ?_
        refine z_cV1 gi_223_2 gk_50 go_151 (Nat.le_of_ble_eq_true rfl) gc_151_RI ?_
        refine z_iload1 gi_151_0 ?_
        refine z_pushJ gp_151_1 ?_
        refine z_aload0 gi_151_2 ?_
        refine z_getI (v := J 8 2) gi_151_3 gk_50 ((zU_n (by decide)).trans ((zU_n (by decide)).trans ((zU_n (by decide)).trans (y2.symm)))) ?_
        refine z_pushJ gp_151_6 ?_
        refine z_isub (e := (J 8 2) - 1) gi_151_7 rfl ?_
        refine z_cS3 gi_151_8 (Nat.le_of_ble_eq_true rfl) gc_148_III ?_
        refine z_iload0 gi_148_0 ?_
        refine z_iload1 gi_148_1 ?_
        refine z_icmp_ltF gi_148_2 (by omega) zr_0 (by omega) ?_
        refine z_iload0 gi_148_5 ?_
        refine z_iload2 gi_148_6 ?_
        refine z_icmp_gtF gi_148_7 (by omega) (by omega) (by omega) ?_
        refine z_pushJ gp_148_10 ?_
        refine z_goto gi_148_11 ?_
        refine z_bret1 gi_148_15 gr_148 ?_
        show zW _ _ _ _ _ _ _ _ _ _
        refine z_bret1 gi_151_11 gr_151 ?_
        show zW _ _ _ _ _ _ _ _ _ _
        refine z_if_neT gi_223_5 zr_1 (by decide) ?_
        refine z_aload0 gi_223_10 ?_
        refine z_callVx (As := []) gi_223_11 rfl rfl (Nat.le_of_ble_eq_true rfl) (Nat.le_of_ble_eq_true rfl) (layDeed_e (n := J 8 2) (a := J 23 4) (b := J 23 3) hRr (by exact y2.symm) yn (by exact (zU_n (by decide)).trans ((zU_n (by decide)).trans ((zU_n (by decide)).trans (d2.symm)))) (by exact (zU_n (by decide)).trans ((zU_n (by decide)).trans ((zU_n (by decide)).trans (d1.symm))))) ?_
        show zW _ _ _ _ _ _ _ _ _ _
        refine z_aload0 gi_223_14 ?_
        refine z_getI (v := J 23 3) gi_223_15 gk_50 ((zU_x (by decide)).trans ((zU_x (by decide)).trans ((zC_n (by decide)).trans ((zC_n (by decide)).trans ((zU_n (by decide)).trans ((zU_n (by decide)).trans ((zU_n (by decide)).trans (d1.symm)))))))) ?_
        refine z_aload0 gi_223_18 ?_
        refine z_iload1 gi_223_19 ?_
        refine z_callVP (As := [_]) (v := sWay (cN J) (J 23 4) p) gi_223_20 rfl gk_50 (Nat.le_of_ble_eq_true rfl) (Nat.le_of_ble_eq_true rfl) (wayTo_e hRr ((rN_n (zK_x (a := 50) (x := 31) (v := J 23 3) (zK_x (a := 50) (x := 30) (v := J 23 4) (zK_c (a := 76) (b := 70) (sp := 0) (dp := 0) (n := (J 8 2)) (zK_c (a := 75) (b := 69) (sp := 0) (dp := 0) (n := (J 8 2)) (zK_x (a := 23) (x := 5) (v := (J 23 5) + 1) (zK_x (a := 23) (x := 3) (v := (J 23 3) + (sWay (cN J) (J 23 4) p)) (zK_x (a := 23) (x := 4) (v := p) (zK_r (k := kN) (A := J)) rfl) rfl) rfl) (fun _ => rfl)) (fun _ => rfl)) rfl) rfl)).trans y1.symm) (by exact y2.symm) y3 ((zU_x (by decide)).trans (zU_e)) (by omega) (by omega)) ?_
        refine z_iadd (e := (J 23 3) + (sWay (cN J) (J 23 4) p)) gi_223_23 rfl ?_
        refine z_pushJ gp_223_24 ?_
        refine z_icmp_leT gi_223_27 (by omega) (by decide) (by omega) ?_
        refine z_aload0 rfl ?_
        refine z_dup rfl rfl ?_
        refine z_getI (v := J 23 3) rfl gk_50 ((zU_x (by decide)).trans ((zU_x (by decide)).trans ((zC_n (by decide)).trans ((zC_n (by decide)).trans ((zU_n (by decide)).trans ((zU_n (by decide)).trans ((zU_n (by decide)).trans (d1.symm)))))))) ?_
        refine z_aload0 rfl ?_
        refine z_iload1 rfl ?_
        refine z_callVP (As := [_]) (v := sWay (cN J) (J 23 4) p) rfl rfl gk_50 (Nat.le_of_ble_eq_true rfl) (Nat.le_of_ble_eq_true rfl) (wayTo_e hRr ((rN_n (zK_x (a := 50) (x := 31) (v := J 23 3) (zK_x (a := 50) (x := 30) (v := J 23 4) (zK_c (a := 76) (b := 70) (sp := 0) (dp := 0) (n := (J 8 2)) (zK_c (a := 75) (b := 69) (sp := 0) (dp := 0) (n := (J 8 2)) (zK_x (a := 23) (x := 5) (v := (J 23 5) + 1) (zK_x (a := 23) (x := 3) (v := (J 23 3) + (sWay (cN J) (J 23 4) p)) (zK_x (a := 23) (x := 4) (v := p) (zK_r (k := kN) (A := J)) rfl) rfl) rfl) (fun _ => rfl)) (fun _ => rfl)) rfl) rfl)).trans y1.symm) (by exact y2.symm) y3 ((zU_x (by decide)).trans (zU_e)) (by omega) (by omega)) ?_
        refine z_iadd (e := (J 23 3) + (sWay (cN J) (J 23 4) p)) rfl rfl ?_
        refine z_putI (y := 45) rfl rfl gk_50 ?_
        refine z_aload0 rfl ?_
        refine z_iload1 rfl ?_
        refine z_putI (y := 44) rfl rfl gk_50 ?_
        refine z_aload0 rfl ?_
        refine z_getR (r := 77) rfl gk_50 (hRr _ rm_50_46 (by decide)) ?_
        refine z_pushJ gp_223_56 ?_
        refine z_dup2 rfl rfl rfl ?_
        refine z_iald (v := J 77 0) rfl gk_77 (by decide) (by decide) ((zU_n (by decide)).trans ((zU_n (by decide)).trans ((zU_n (by decide)).trans ((zU_n (by decide)).trans ((zC_n (by decide)).trans ((zC_n (by decide)).trans ((zU_n (by decide)).trans ((zU_n (by decide)).trans ((zU_n (by decide)).trans (rfl)))))))))) ?_
        refine z_pushJ gp_223_59 ?_
        refine z_iadd (e := (J 77 0) + 1) rfl rfl ?_
        refine z_iast (e := (J 77 0) + 1) rfl gk_77 (by decide) (by decide) rfl ?_
        refine z_aload0 rfl ?_
        refine z_getI (v := (J 23 3) + (sWay (cN J) (J 23 4) p)) rfl gk_50 ((zU_n (by decide)).trans ((zU_x (by decide)).trans (zU_e))) ?_
        refine z_iret rfl gr_223 ?_
        refine ⟨?_, ?_⟩
        · first | rfl | exact congrArg (fun v => some (zi v)) (by omega) | (exfalso; omega)
        · have hk := (zK_x (a := 77) (x := 0) (v := (J 77 0) + 1) (zK_x (a := 50) (x := 44) (v := p) (zK_x (a := 50) (x := 45) (v := (J 23 3) + (sWay (cN J) (J 23 4) p)) (zK_x (a := 50) (x := 31) (v := J 23 3) (zK_x (a := 50) (x := 30) (v := J 23 4) (zK_c (a := 76) (b := 70) (sp := 0) (dp := 0) (n := (J 8 2)) (zK_c (a := 75) (b := 69) (sp := 0) (dp := 0) (n := (J 8 2)) (zK_x (a := 23) (x := 5) (v := (J 23 5) + 1) (zK_x (a := 23) (x := 3) (v := (J 23 3) + (sWay (cN J) (J 23 4) p)) (zK_x (a := 23) (x := 4) (v := p) (zK_r (k := (kL [69, 70] [(23, 4), (23, 3), (23, 5), (50, 30), (50, 31), (50, 45), (50, 44), (77, 0)])) (A := J)) rfl) rfl) rfl) (fun _ => rfl)) (fun _ => rfl)) rfl) rfl) rfl) rfl) rfl)
          exact ⟨hR, hG, RelY_k hk (by repeat' constructor) (fun p => by repeat' constructor) hY, (RelD_go (J := J) (p := p) (t := J 23 3 + sWay (cN J) (J 23 4) p) hD (by omega) (by omega) ((zU_n (by decide)).trans ((zU_n (by decide)).trans ((zU_n (by decide)).trans ((zU_n (by decide)).trans ((zU_n (by decide)).trans ((zC_n (by decide)).trans ((zC_n (by decide)).trans ((zU_x (by decide)).trans (zU_e))))))))) ((zU_n (by decide)).trans ((zU_n (by decide)).trans ((zU_n (by decide)).trans ((zU_n (by decide)).trans ((zU_n (by decide)).trans ((zC_n (by decide)).trans ((zC_n (by decide)).trans ((zU_x (by decide)).trans ((zU_x (by decide)).trans (zU_e)))))))))) ((zU_n (by decide)).trans ((zU_n (by decide)).trans ((zU_n (by decide)).trans ((zU_n (by decide)).trans ((zU_n (by decide)).trans ((zC_n (by decide)).trans ((zC_n (by decide)).trans (zU_e)))))))) ((zU_n (by decide)).trans ((zU_n (by decide)).trans ((zU_n (by decide)).trans ((zU_n (by decide)).trans ((zU_n (by decide)).trans ((zC_n (by decide)).trans ((zC_n (by decide)).trans ((zU_x (by decide)).trans ((zU_x (by decide)).trans ((zU_x (by decide)).trans (rfl))))))))))) ((zU_n (by decide)).trans ((zU_n (by decide)).trans ((zU_n (by decide)).trans ((zU_n (by decide)).trans ((zU_n (by decide)).trans ((zC_n (by decide)).trans ((zC_n (by decide)).trans ((zU_x (by decide)).trans ((zU_x (by decide)).trans ((zU_x (by decide)).trans (rfl))))))))))) ((zU_n (by decide)).trans ((zU_n (by decide)).trans ((zU_n (by decide)).trans ((zU_n (by decide)).trans ((zU_n (by decide)).trans ((zC_n (by decide)).trans ((zC_n (by decide)).trans ((zU_x (by decide)).trans ((zU_x (by decide)).trans ((zU_x (by decide)).trans (rfl))))))))))) ((zU_n (by decide)).trans ((zU_x (by decide)).trans (zU_e))) ((zU_n (by decide)).trans (zU_e)) (zU_e) ((zU_x (by decide)).trans ((zU_n (by decide)).trans ((zU_n (by decide)).trans ((zU_n (by decide)).trans ((zU_n (by decide)).trans ((zC_n (by decide)).trans ((zC_n (by decide)).trans ((zU_n (by decide)).trans ((zU_n (by decide)).trans ((zU_n (by decide)).trans (rfl))))))))))) ((zU_x (by decide)).trans ((zU_n (by decide)).trans ((zU_n (by decide)).trans ((zU_n (by decide)).trans ((zU_n (by decide)).trans ((zC_n (by decide)).trans ((zC_n (by decide)).trans ((zU_n (by decide)).trans ((zU_n (by decide)).trans ((zU_n (by decide)).trans (rfl))))))))))) ((zU_x (by decide)).trans ((zU_n (by decide)).trans ((zU_n (by decide)).trans ((zU_n (by decide)).trans ((zU_n (by decide)).trans ((zC_n (by decide)).trans ((zC_n (by decide)).trans ((zU_n (by decide)).trans ((zU_n (by decide)).trans ((zU_n (by decide)).trans (rfl))))))))))) ((zU_n (by decide)).trans ((zU_n (by decide)).trans ((zU_n (by decide)).trans ((zU_n (by decide)).trans ((zU_n (by decide)).trans ((zC_n (by decide)).trans ((zC_n (by decide)).trans ((zU_n (by decide)).trans ((zU_n (by decide)).trans ((zU_n (by decide)).trans (rfl))))))))))) (fun q => (zU_n (by decide)).trans ((zU_n (by decide)).trans ((zU_n (by decide)).trans ((zU_n (by decide)).trans ((zU_n (by decide)).trans ((zC_n (by decide)).trans ((zC_n (by decide)).trans ((zU_n (by decide)).trans ((zU_n (by decide)).trans ((zU_n (by decide)).trans (rfl))))))))))) (fun q => (zU_n (by decide)).trans ((zU_n (by decide)).trans ((zU_n (by decide)).trans ((zU_n (by decide)).trans ((zU_n (by decide)).trans ((zC_n (by decide)).trans ((zC_n (by decide)).trans ((zU_n (by decide)).trans ((zU_n (by decide)).trans ((zU_n (by decide)).trans (rfl))))))))))) (fun q => (zU_n (by decide)).trans ((zU_n (by decide)).trans ((zU_n (by decide)).trans ((zU_n (by decide)).trans ((zU_n (by decide)).trans ((zC_n (by decide)).trans ((zC_n (by decide)).trans ((zU_n (by decide)).trans ((zU_n (by decide)).trans ((zU_n (by decide)).trans (rfl))))))))))) (fun q => (zU_n (by decide)).trans ((zU_n (by decide)).trans ((zU_n (by decide)).trans ((zU_n (by decide)).trans ((zU_n (by decide)).trans ((zC_n (by decide)).trans ((zC_n (by decide)).trans ((zU_n (by decide)).trans ((zU_n (by decide)).trans ((zU_n (by decide)).trans (rfl)))))))))))), RelP_k hk (by repeat' constructor) (fun p => by repeat' constructor) hP, RelC_k hk (by repeat' constructor) (fun p => by repeat' constructor) hC, RelA_k hk (by repeat' constructor) (fun p => by repeat' constructor) hAc, RelS_k hk (zK_r (k := kM)) (fun x j a b => ⟨kL_38 (by decide) (by decide) x j a b, kM_38 x j a b⟩) (fun p => ⟨rfl, rfl, rfl⟩) rfl hS, RelT_k hk (by repeat' constructor) (fun p => by repeat' constructor) hTp, RelX_k hk (by repeat' constructor) (fun p => by repeat' constructor) hX, RelW_k hk ⟨rfl, rfl⟩ trivial hW⟩
      · refine z_pushJ gp_124_44 ?_
        refine z_iret rfl gr_124 ?_
        refine ⟨_, rfl, ?_⟩
        show zW _ _ _ _ [some (.ref 50), some (zi p)] _ _ _ _ _
        refine z_aload0 gi_223_0 ?_
        refine z_iload1 gi_223_1 ?_
        refine z_cV1 gi_223_2 gk_50 go_151 (Nat.le_of_ble_eq_true rfl) gc_151_RI ?_
        refine z_iload1 gi_151_0 ?_
        refine z_pushJ gp_151_1 ?_
        refine z_aload0 gi_151_2 ?_
        refine z_getI (v := J 8 2) gi_151_3 gk_50 (y2.symm) ?_
        refine z_pushJ gp_151_6 ?_
        refine z_isub (e := (J 8 2) - 1) gi_151_7 rfl ?_
        refine z_cS3 gi_151_8 (Nat.le_of_ble_eq_true rfl) gc_148_III ?_
        refine z_iload0 gi_148_0 ?_
        refine z_iload1 gi_148_1 ?_
        refine z_icmp_ltF gi_148_2 (by omega) zr_0 (by omega) ?_
        refine z_iload0 gi_148_5 ?_
        refine z_iload2 gi_148_6 ?_
        refine z_icmp_gtF gi_148_7 (by omega) (by omega) (by omega) ?_
        refine z_pushJ gp_148_10 ?_
        refine z_goto gi_148_11 ?_
        refine z_bret1 gi_148_15 gr_148 ?_
        show zW _ _ _ _ _ _ _ _ _ _
        refine z_bret1 gi_151_11 gr_151 ?_
        show zW _ _ _ _ _ _ _ _ _ _
        refine z_if_neT gi_223_5 zr_1 (by decide) ?_
        refine z_aload0 gi_223_10 ?_
        refine z_callVx (As := []) gi_223_11 rfl rfl (Nat.le_of_ble_eq_true rfl) (Nat.le_of_ble_eq_true rfl) (layDeed_e (n := J 8 2) (a := J 23 4) (b := J 23 3) hRr (by exact y2.symm) yn (by exact d2.symm) (by exact d1.symm)) ?_
        show zW _ _ _ _ _ _ _ _ _ _
        refine z_aload0 gi_223_14 ?_
        refine z_getI (v := J 23 3) gi_223_15 gk_50 ((zU_x (by decide)).trans ((zU_x (by decide)).trans ((zC_n (by decide)).trans ((zC_n (by decide)).trans (d1.symm))))) ?_
        refine z_aload0 gi_223_18 ?_
        refine z_iload1 gi_223_19 ?_
        refine z_callVP (As := [_]) (v := sWay (cN J) (J 23 4) p) gi_223_20 rfl gk_50 (Nat.le_of_ble_eq_true rfl) (Nat.le_of_ble_eq_true rfl) (wayTo_e hRr ((rN_n (zK_x (a := 50) (x := 31) (v := J 23 3) (zK_x (a := 50) (x := 30) (v := J 23 4) (zK_c (a := 76) (b := 70) (sp := 0) (dp := 0) (n := (J 8 2)) (zK_c (a := 75) (b := 69) (sp := 0) (dp := 0) (n := (J 8 2)) (zK_r (k := kN) (A := J)) (fun _ => rfl)) (fun _ => rfl)) rfl) rfl)).trans y1.symm) (by exact y2.symm) y3 ((zU_x (by decide)).trans (zU_e)) (by omega) (by omega)) ?_
        refine z_iadd (e := (J 23 3) + (sWay (cN J) (J 23 4) p)) gi_223_23 rfl ?_
        refine z_pushJ gp_223_24 ?_
        refine z_icmp_leF gi_223_27 (by omega) (by decide) (by omega) ?_
        refine z_pushJ gp_223_30 ?_
        refine z_iret rfl gr_223 ?_
        refine ⟨?_, ?_⟩
        · first | rfl | exact congrArg (fun v => some (zi v)) (by omega) | (exfalso; omega)
        · have hk := (zK_x (a := 50) (x := 31) (v := J 23 3) (zK_x (a := 50) (x := 30) (v := J 23 4) (zK_c (a := 76) (b := 70) (sp := 0) (dp := 0) (n := (J 8 2)) (zK_c (a := 75) (b := 69) (sp := 0) (dp := 0) (n := (J 8 2)) (zK_r (k := (kL [69, 70] [(50, 30), (50, 31)])) (A := J)) (fun _ => rfl)) (fun _ => rfl)) rfl) rfl)
          exact ⟨hR, hG, RelY_k hk (by repeat' constructor) (fun p => by repeat' constructor) hY, RelD_k hk (by repeat' constructor) (fun p => by repeat' constructor) hD, RelP_k hk (by repeat' constructor) (fun p => by repeat' constructor) hP, RelC_k hk (by repeat' constructor) (fun p => by repeat' constructor) hC, RelA_k hk (by repeat' constructor) (fun p => by repeat' constructor) hAc, RelS_k hk (zK_r (k := kM)) (fun x j a b => ⟨kL_38 (by decide) (by decide) x j a b, kM_38 x j a b⟩) (fun p => ⟨rfl, rfl, rfl⟩) rfl hS, RelT_k hk (by repeat' constructor) (fun p => by repeat' constructor) hTp, RelX_k hk (by repeat' constructor) (fun p => by repeat' constructor) hX, RelW_k hk ⟨rfl, rfl⟩ trivial hW⟩
