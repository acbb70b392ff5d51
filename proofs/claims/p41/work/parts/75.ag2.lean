theorem again_c {X : Nat × (Nat → Int32)} {d : Nat} {J M : zA} {R : zR} {N : Int → Int → Int} {n : Int} (hR : zRok R) (hA : cN J = N) (hz : J 8 2 = n) (hN : zNr n N) : zW X (d + 6) 22 0 (gEn 22 [(.ref 23)]) [] J M R (zPx (some (zi (sSum (fun p => if p < n then sShare N n p else 0) 8))) (zU (zU (zS (zS J 24 (fun p => if p < n then sShare N n p else 0) 8) 25 (fun _ => 0) 8) 23 3 0) 23 4 (if 0 < n then 0 else -1)) M R) := by
  have qn := zNn hN
  show zW _ _ _ _ [some (.ref 23), none, none] _ _ _ _ _
  refine z_pushJ gp_22_0 ?_
  refine z_istore (ls1 := [some (.ref 23), some (zi 0), none]) rfl rfl ?_
  refine z_pushJ gp_22_2 ?_
  refine z_istore (ls1 := [some (.ref 23), some (zi 0), some (zi 0)]) rfl rfl ?_
  show zW _ _ _ _ [some (.ref 23), some (zi 0), some (zi 0)] [] _ _ _ _
  refine zS_01 (c := 24) (f := (fun p => if p < n then sShare N n p else 0)) ?_
  refine zS_01 (c := 25) (f := (fun _ => 0)) ?_
  refine againC_z hR hA hz hN 8 0 0 (by decide) rfl (by decide) ?_
  refine z_aload0 rfl ?_
  refine z_pushJ gp_22_62 ?_
  refine z_putI (y := 3) rfl rfl gk_23 ?_
  refine z_aload0 rfl ?_
  refine z_aload0 rfl ?_
  refine z_getR (r := 8) rfl gk_23 (hR _ rm_23_0) ?_
  refine z_pushJ gp_22_71 ?_
  refine z_cV1 rfl gk_8 go_87 (Nat.le_of_ble_eq_true rfl) gc_87_RI ?_
  refine z_iload1 gi_87_0 ?_
  refine z_if_ltF gi_87_1 zr_0 (by decide) ?_
  refine z_iload1 gi_87_4 ?_
  refine z_aload0 gi_87_5 ?_
  refine z_getI (v := n) gi_87_6 gk_8 ((zU_n (by decide)).trans ((zS_n (by decide)).trans ((zS_n (by decide)).trans (hz)))) ?_
  refine z_icmp_ge gi_87_9 zr_0 (by omega) (fun h1 => ?_) (fun h1 => ?_)
  · refine z_pushJ gp_87_16 ?_
    refine z_bret0 gi_87_17 gr_87 ?_
    show zW _ _ _ _ _ _ _ _ _ _
    refine z_if_eqT gi_22_75 zr_0 (by decide) ?_
    refine z_pushJ gp_22_82 ?_
    refine z_putI (y := 4) gi_22_83 rfl gk_23 ?_
    refine z_iload1 gi_22_86 ?_
    refine z_iret gi_22_87 gr_22 ?_
    have e : (if 0 < n then (0 : Int) else -1) = (-1) := by split <;> omega
    rw [e]
    exact ⟨rfl, rfl, rfl, rfl⟩
  · refine z_pushJ gp_87_12 ?_
    refine z_goto gi_87_13 ?_
    refine z_bret1 gi_87_17 gr_87 ?_
    show zW _ _ _ _ _ _ _ _ _ _
    refine z_if_eqF gi_22_75 zr_1 (by decide) ?_
    refine z_pushJ gp_22_78 ?_
    refine z_goto rfl ?_
    refine z_putI (y := 4) gi_22_83 rfl gk_23 ?_
    refine z_iload1 gi_22_86 ?_
    refine z_iret gi_22_87 gr_22 ?_
    have e : (if 0 < n then (0 : Int) else -1) = 0 := by split <;> omega
    rw [e]
    exact ⟨rfl, rfl, rfl, rfl⟩
theorem againR_z {X : Nat × (Nat → Int32)} {d : Nat} {J M : zA} {R : zR} {P : zP} {N : Int → Int → Int} {n : Int} (hR : zRoR R) (hz : J 50 1 = n) (hn : 0 ≤ n ∧ n ≤ 8) (h69 : ∀ p, 0 ≤ p → p < n → J 69 p = sShare N n p) : ∀ (j : Nat) (i : Int) (k : Nat), i + j = n → i = k → 0 ≤ i → zW X d 226 50 [some (.ref 50), some (zi (sSum (fun p => sShare N n p) n.toNat)), some (zi n)] [] (zS (zS J 75 (fun p => sShare N n p) n) 76 (fun _ => 0) n) M R P → zW X d 226 8 [some (.ref 50), some (zi (sSum (fun p => sShare N n p) k)), some (zi i)] [] (zS (zS J 75 (fun p => sShare N n p) i) 76 (fun _ => 0) i) M R P := by
  intro j
  induction j with
  | zero =>
    intro i k hi hi2 h0 K
    obtain rfl : i = n := by omega
    obtain rfl : i.toNat = k := by omega
    refine z_iload rfl rfl ?_
    refine z_aload rfl rfl ?_
    refine z_getI (v := i) rfl rfl (((zS_n (by decide)).trans (zS_n (by decide))).trans hz) ?_
    exact z_icmp_geT rfl (by omega) (by omega) (by omega) K
  | succ j ih =>
    intro i k hi hi2 h0 K
    refine z_iload2 rfl ?_
    refine z_aload0 rfl ?_
    refine z_getI (v := n) rfl gk_50 (((zS_n (by decide)).trans (zS_n (by decide))).trans hz) ?_
    refine z_icmp_geF rfl (by omega) (by omega) (by omega) ?_
    refine z_aload0 rfl ?_
    refine z_getR (r := 75) rfl gk_50 (hR _ rm_50_42 (by decide)) ?_
    refine z_iload2 rfl ?_
    refine z_aload0 rfl ?_
    refine z_getR (r := 69) rfl gk_50 (hR _ rm_50_28 (by decide)) ?_
    refine z_iload2 rfl ?_
    refine z_iald (v := sShare N n i) rfl gk_69 (by decide) (by omega) (((zS_n (by decide)).trans (zS_n (by decide))).trans (h69 i (by omega) (by omega))) ?_
    refine z_iast (e := sShare N n i) rfl gk_75 (by decide) (by omega) rfl ?_
    refine z_aload0 rfl ?_
    refine z_getR (r := 76) rfl gk_50 (hR _ rm_50_43 (by decide)) ?_
    refine z_iload2 rfl ?_
    refine z_pushJ gp_226_33 ?_
    refine z_iast (e := 0) rfl gk_76 (by decide) (by omega) rfl ?_
    refine z_iload1 rfl ?_
    refine z_aload0 rfl ?_
    refine z_getR (r := 69) rfl gk_50 (hR _ rm_50_28 (by decide)) ?_
    refine z_iload2 rfl ?_
    refine z_iald (v := sShare N n i) rfl gk_69 (by decide) (by omega) ((zU_n (by decide)).trans ((zU_n (by decide)).trans (((zS_n (by decide)).trans (zS_n (by decide))).trans (h69 i (by omega) (by omega))))) ?_
    refine z_iadd (e := (sSum (fun p => sShare N n p) k) + (sShare N n i)) rfl rfl ?_
    refine z_istore (ls1 := [some (.ref 50), some (zi ((sSum (fun p => sShare N n p) k) + (sShare N n i))), some (zi i)]) rfl rfl ?_
    refine z_iinc (c := 1) (e := i + 1) (ls1 := [some (.ref 50), some (zi ((sSum (fun p => sShare N n p) k) + (sShare N n i))), some (zi (i + 1))]) rfl rfl rfl rfl rfl ?_
    refine z_goto rfl ?_
    show zW _ _ _ _ [some (.ref 50), some (zi ((sSum (fun p => sShare N n p) k) + (sShare N n i))), some (zi (i + 1))] [] _ _ _ _
    rw [zU_S (by decide), zS_s (f := (fun _ => 0)) h0 rfl, zS_s (f := (fun p => sShare N n p)) h0 rfl]
    have e : sSum (fun p => sShare N n p) k + sShare N n i = sSum (fun p => sShare N n p) (k + 1) := by
      obtain rfl : i = (k : Int) := hi2
      rfl
    rw [e]
    exact ih (i + 1) (k + 1) (by omega) (by omega) (by omega) K
theorem RelD_again {J J2 : zA} {N : Int → Int → Int} (hD : RelD J) (hY : RelY J) (hN : cN J = N) (e3 : J2 23 3 = 0) (e4 : J2 23 4 = if 0 < J 8 2 then 0 else -1) (e5 : J2 23 5 = J 23 5) (e6 : J2 23 6 = J 23 6) (e7 : J2 23 7 = J 23 7) (e8 : J2 23 8 = J 23 8) (f45 : J2 50 45 = 0) (f44 : J2 50 44 = if 0 < J 8 2 then 0 else -1) (g0 : J2 77 0 = J 77 0) (g1 : J2 77 1 = J 77 1) (g2 : J2 77 2 = J 77 2) (g3 : J2 77 3 = J 77 3) (hn : J2 8 2 = J 8 2) (a24 : ∀ q, 0 ≤ q → q < 8 → J2 24 q = if q < J 8 2 then sShare N (J 8 2) q else 0) (a25 : ∀ q, 0 ≤ q → q < 8 → J2 25 q = 0) (a75 : ∀ q, 0 ≤ q → q < J 8 2 → J2 75 q = sShare N (J 8 2) q) (a76 : ∀ q, 0 ≤ q → q < J 8 2 → J2 76 q = 0) : RelD J2 := by
  obtain ⟨⟨d1, d2, d3, d4, d5, d6⟩, d7, d8, d9, d10, d11⟩ := hD
  have yn := zNn hY.2.2
  refine ⟨⟨by rw [e3, f45], by rw [e4, f44], by rw [e5, g0, d3], by rw [e6, g1, d4], by rw [e7, g2, d5], by rw [e8, g3, d6]⟩, by rw [e3]; omega, by rw [e4, hn]; split <;> omega, fun q q1 q2 => ?_, fun q q1 q2 => ?_, fun q q1 q2 => ?_⟩
  · rw [hn] at q2
    rw [a24 q q1 (by omega), a25 q q1 (by omega), a75 q q1 q2, a76 q q1 q2, if_pos q2]
    exact ⟨rfl, rfl⟩
  · rw [hn] at q1
    rw [a24 q (by omega) q2, a25 q (by omega) q2, if_neg (by omega)]
    exact ⟨rfl, rfl⟩
  · rw [a24 q q1 q2, a25 q q1 q2, e3]
    refine ⟨?_, by omega⟩
    split
    · exact sShare_r (hN ▸ hY.2.2) ⟨q1, by assumption⟩
    · omega
theorem sSum_again {N : Int → Int → Int} {n : Int} (hn : 0 ≤ n ∧ n ≤ 8) : sSum (fun p => if p < n then sShare N n p else 0) 8 = sSum (fun p => sShare N n p) n.toNat := by
  have a := sSum_z (f := fun p => if p < n then sShare N n p else 0) (n := n.toNat) (8 - n.toNat) (fun p h1 h2 => if_neg (by omega))
  rw [show n.toNat + (8 - n.toNat) = 8 by omega] at a
  rw [a]
  exact sSum_c n.toNat (fun p hp => if_pos (by omega))
theorem st_again {X : Nat × (Nat → Int32)} {d : Nat} {J M : zA} {R : zR} (hr : Rel X J M R)   : zW X (d + 20) 127 0 (gEn 127 [(.ref 0)]) [] J M R (stP X (d + 20) 226 []) := by
  have hr0 := hr
  obtain ⟨hR, hG, hY, hD, hP, hC, hAc, hS, hTp, hX, hW⟩ := hr0
  have hRr : zRoR R := zRoR_of hR
  have hY0 := hY
  obtain ⟨y1, y2, y3⟩ := hY0
  have yn := zNn y3
  have hD0 := hD
  obtain ⟨⟨d1, d2, d3, d4, d5, d6⟩, d7, d8, d9, d10, d11⟩ := hD0
  show zW _ _ _ _ [some (.ref 0)] _ _ _ _ _
  refine z_aload0 rfl ?_
  refine z_getR (r := 23) rfl gk_0 (hR _ rm_0_6) ?_
  refine z_callVx (As := []) rfl rfl rfl (Nat.le_of_ble_eq_true rfl) (Nat.le_of_ble_eq_true rfl) (again_c hR rfl rfl y3) ?_
  show zW _ _ _ _ _ (_ :: _) _ _ _ _
  refine z_iret rfl gr_127 ?_
  refine ⟨_, rfl, ?_⟩
  show zW _ _ _ _ [some (.ref 50), none, none] _ _ _ _ _
  refine z_aload0 rfl ?_
  refine z_callV (As := []) _ rfl rfl rfl (Nat.le_of_ble_eq_true rfl) (Nat.le_of_ble_eq_true rfl) (beginR_k (N := cN J) (n := J 8 2) hRr ((rN_n (zK_x (a := 23) (x := 4) (v := if 0 < J 8 2 then 0 else -1) (zK_x (a := 23) (x := 3) (v := 0) (zK_S (c := 25) (f := (fun _ => 0)) (n := 8) (zK_S (c := 24) (f := (fun p => if p < J 8 2 then sShare (cN J) (J 8 2) p else 0)) (n := 8) (zK_r (k := kN) (A := J)) (fun _ => rfl)) (fun _ => rfl)) rfl) rfl)).trans y1.symm) (by exact y2.symm) y3) (fun r J2 M2 R2 hb => ?_)
  obtain ⟨rfl, hk2, b30, b31, b32, b33, b69, b70, rfl, rfl⟩ := hb
  show zW _ _ _ _ _ _ _ _ _ _
  refine z_pushJ gp_226_4 ?_
  refine z_istore (ls1 := [some (.ref 50), some (zi 0), none]) rfl rfl ?_
  refine z_pushJ gp_226_6 ?_
  refine z_istore (ls1 := [some (.ref 50), some (zi 0), some (zi 0)]) rfl rfl ?_
  show zW _ _ _ _ [some (.ref 50), some (zi 0), some (zi 0)] [] _ _ _ _
  refine zS_01 (c := 75) (f := (fun p => sShare (cN J) (J 8 2) p)) ?_
  refine zS_01 (c := 76) (f := (fun _ => 0)) ?_
  refine againR_z hRr ((hk2 50 1 rfl).trans y2.symm) yn b69 (J 8 2).toNat 0 0 (by omega) rfl (by decide) ?_
  refine z_aload0 rfl ?_
  refine z_pushJ gp_226_51 ?_
  refine z_putI (y := 45) rfl rfl gk_50 ?_
  refine z_aload0 rfl ?_
  refine z_aload0 rfl ?_
  refine z_getI (v := J 8 2) rfl gk_50 ((zU_x (by decide)).trans ((zS_n (by decide)).trans ((zS_n (by decide)).trans ((hk2 50 1 rfl).trans y2.symm)))) ?_
  refine z_if_le rfl (by omega) (fun h1 => ?_) (fun h1 => ?_)
  · refine z_pushJ gp_226_67 ?_
    refine z_putI (y := 44) gi_226_68 rfl gk_50 ?_
    refine z_iload1 gi_226_71 ?_
    refine z_iret gi_226_72 gr_226 ?_
    refine ⟨?_, ?_⟩
    · exact congrArg (fun v => some (zi v)) (sSum_again yn).symm
    · have ev : (if 0 < J 8 2 then 0 else -1 : Int) = (-1) := by split <;> omega
      have hkf := (zK_u (a := 50) (x := 44) (v := (-1)) (zK_u (a := 50) (x := 45) (v := 0) (zK_Su (c := 76) (f := (fun _ => 0)) (n := (J 8 2)) (zK_Su (c := 75) (f := (fun p => sShare (cN J) (J 8 2) p)) (n := (J 8 2)) (zK_m hk2 kS_Q)))))
      refine Rel_S hkf zK_r ?_
      have hk := (zK_x (a := 50) (x := 44) (v := (-1)) (zK_x (a := 50) (x := 45) (v := 0) (zK_S (c := 76) (f := (fun _ => 0)) (n := (J 8 2)) (zK_S (c := 75) (f := (fun p => sShare (cN J) (J 8 2) p)) (n := (J 8 2)) (zK_x (a := 23) (x := 4) (v := if 0 < J 8 2 then 0 else -1) (zK_x (a := 23) (x := 3) (v := 0) (zK_S (c := 25) (f := (fun _ => 0)) (n := 8) (zK_S (c := 24) (f := (fun p => if p < J 8 2 then sShare (cN J) (J 8 2) p else 0)) (n := 8) (zK_r (k := (kL [24, 25, 75, 76] [(23, 3), (23, 4), (50, 45), (50, 44)])) (A := J)) (fun _ => rfl)) (fun _ => rfl)) rfl) rfl) (fun _ => rfl)) (fun _ => rfl)) rfl) rfl)
      exact ⟨hR, hG, RelY_k hk (by repeat' constructor) (fun p => by repeat' constructor) hY, (RelD_again (J := J) (N := cN J) hD hY rfl ((zU_n (by decide)).trans ((zU_n (by decide)).trans ((zS_n (by decide)).trans ((zS_n (by decide)).trans ((zU_x (by decide)).trans (zU_e)))))) ((zU_n (by decide)).trans ((zU_n (by decide)).trans ((zS_n (by decide)).trans ((zS_n (by decide)).trans (zU_e))))) ((zU_n (by decide)).trans ((zU_n (by decide)).trans ((zS_n (by decide)).trans ((zS_n (by decide)).trans ((zU_x (by decide)).trans ((zU_x (by decide)).trans ((zS_n (by decide)).trans ((zS_n (by decide)).trans (rfl))))))))) ((zU_n (by decide)).trans ((zU_n (by decide)).trans ((zS_n (by decide)).trans ((zS_n (by decide)).trans ((zU_x (by decide)).trans ((zU_x (by decide)).trans ((zS_n (by decide)).trans ((zS_n (by decide)).trans (rfl))))))))) ((zU_n (by decide)).trans ((zU_n (by decide)).trans ((zS_n (by decide)).trans ((zS_n (by decide)).trans ((zU_x (by decide)).trans ((zU_x (by decide)).trans ((zS_n (by decide)).trans ((zS_n (by decide)).trans (rfl))))))))) ((zU_n (by decide)).trans ((zU_n (by decide)).trans ((zS_n (by decide)).trans ((zS_n (by decide)).trans ((zU_x (by decide)).trans ((zU_x (by decide)).trans ((zS_n (by decide)).trans ((zS_n (by decide)).trans (rfl))))))))) ((zU_x (by decide)).trans (zU_e)) ((zU_e).trans ev.symm) ((zU_n (by decide)).trans ((zU_n (by decide)).trans ((zS_n (by decide)).trans ((zS_n (by decide)).trans ((zU_n (by decide)).trans ((zU_n (by decide)).trans ((zS_n (by decide)).trans ((zS_n (by decide)).trans (rfl))))))))) ((zU_n (by decide)).trans ((zU_n (by decide)).trans ((zS_n (by decide)).trans ((zS_n (by decide)).trans ((zU_n (by decide)).trans ((zU_n (by decide)).trans ((zS_n (by decide)).trans ((zS_n (by decide)).trans (rfl))))))))) ((zU_n (by decide)).trans ((zU_n (by decide)).trans ((zS_n (by decide)).trans ((zS_n (by decide)).trans ((zU_n (by decide)).trans ((zU_n (by decide)).trans ((zS_n (by decide)).trans ((zS_n (by decide)).trans (rfl))))))))) ((zU_n (by decide)).trans ((zU_n (by decide)).trans ((zS_n (by decide)).trans ((zS_n (by decide)).trans ((zU_n (by decide)).trans ((zU_n (by decide)).trans ((zS_n (by decide)).trans ((zS_n (by decide)).trans (rfl))))))))) ((zU_n (by decide)).trans ((zU_n (by decide)).trans ((zS_n (by decide)).trans ((zS_n (by decide)).trans ((zU_n (by decide)).trans ((zU_n (by decide)).trans ((zS_n (by decide)).trans ((zS_n (by decide)).trans (rfl))))))))) (fun q q1 q2 => (zU_n (by decide)).trans ((zU_n (by decide)).trans ((zS_n (by decide)).trans ((zS_n (by decide)).trans ((zU_n (by decide)).trans ((zU_n (by decide)).trans ((zS_n (by decide)).trans (zS_at ⟨q1, q2⟩)))))))) (fun q q1 q2 => (zU_n (by decide)).trans ((zU_n (by decide)).trans ((zS_n (by decide)).trans ((zS_n (by decide)).trans ((zU_n (by decide)).trans ((zU_n (by decide)).trans (zS_at ⟨q1, q2⟩))))))) (fun q q1 q2 => (zU_n (by decide)).trans ((zU_n (by decide)).trans ((zS_n (by decide)).trans (zS_at ⟨q1, q2⟩)))) (fun q q1 q2 => (zU_n (by decide)).trans ((zU_n (by decide)).trans (zS_at ⟨q1, q2⟩)))), RelP_k hk (by repeat' constructor) (fun p => by repeat' constructor) hP, RelC_k hk (by repeat' constructor) (fun p => by repeat' constructor) hC, RelA_k hk (by repeat' constructor) (fun p => by repeat' constructor) hAc, RelS_k hk (zK_r (k := kM)) (fun x j a b => ⟨kL_38 (by decide) (by decide) x j a b, kM_38 x j a b⟩) (fun p => ⟨rfl, rfl, rfl⟩) rfl hS, RelT_k hk (by repeat' constructor) (fun p => by repeat' constructor) hTp, RelX_k hk (by repeat' constructor) (fun p => by repeat' constructor) hX, RelW_k hk ⟨rfl, rfl⟩ trivial hW⟩
  · refine z_pushJ gp_226_63 ?_
    refine z_goto rfl ?_
    refine z_putI (y := 44) gi_226_68 rfl gk_50 ?_
    refine z_iload1 gi_226_71 ?_
    refine z_iret gi_226_72 gr_226 ?_
    refine ⟨?_, ?_⟩
    · exact congrArg (fun v => some (zi v)) (sSum_again yn).symm
    · have ev : (if 0 < J 8 2 then 0 else -1 : Int) = 0 := by split <;> omega
      have hkf := (zK_u (a := 50) (x := 44) (v := 0) (zK_u (a := 50) (x := 45) (v := 0) (zK_Su (c := 76) (f := (fun _ => 0)) (n := (J 8 2)) (zK_Su (c := 75) (f := (fun p => sShare (cN J) (J 8 2) p)) (n := (J 8 2)) (zK_m hk2 kS_Q)))))
      refine Rel_S hkf zK_r ?_
      have hk := (zK_x (a := 50) (x := 44) (v := 0) (zK_x (a := 50) (x := 45) (v := 0) (zK_S (c := 76) (f := (fun _ => 0)) (n := (J 8 2)) (zK_S (c := 75) (f := (fun p => sShare (cN J) (J 8 2) p)) (n := (J 8 2)) (zK_x (a := 23) (x := 4) (v := if 0 < J 8 2 then 0 else -1) (zK_x (a := 23) (x := 3) (v := 0) (zK_S (c := 25) (f := (fun _ => 0)) (n := 8) (zK_S (c := 24) (f := (fun p => if p < J 8 2 then sShare (cN J) (J 8 2) p else 0)) (n := 8) (zK_r (k := (kL [24, 25, 75, 76] [(23, 3), (23, 4), (50, 45), (50, 44)])) (A := J)) (fun _ => rfl)) (fun _ => rfl)) rfl) rfl) (fun _ => rfl)) (fun _ => rfl)) rfl) rfl)
      exact ⟨hR, hG, RelY_k hk (by repeat' constructor) (fun p => by repeat' constructor) hY, (RelD_again (J := J) (N := cN J) hD hY rfl ((zU_n (by decide)).trans ((zU_n (by decide)).trans ((zS_n (by decide)).trans ((zS_n (by decide)).trans ((zU_x (by decide)).trans (zU_e)))))) ((zU_n (by decide)).trans ((zU_n (by decide)).trans ((zS_n (by decide)).trans ((zS_n (by decide)).trans (zU_e))))) ((zU_n (by decide)).trans ((zU_n (by decide)).trans ((zS_n (by decide)).trans ((zS_n (by decide)).trans ((zU_x (by decide)).trans ((zU_x (by decide)).trans ((zS_n (by decide)).trans ((zS_n (by decide)).trans (rfl))))))))) ((zU_n (by decide)).trans ((zU_n (by decide)).trans ((zS_n (by decide)).trans ((zS_n (by decide)).trans ((zU_x (by decide)).trans ((zU_x (by decide)).trans ((zS_n (by decide)).trans ((zS_n (by decide)).trans (rfl))))))))) ((zU_n (by decide)).trans ((zU_n (by decide)).trans ((zS_n (by decide)).trans ((zS_n (by decide)).trans ((zU_x (by decide)).trans ((zU_x (by decide)).trans ((zS_n (by decide)).trans ((zS_n (by decide)).trans (rfl))))))))) ((zU_n (by decide)).trans ((zU_n (by decide)).trans ((zS_n (by decide)).trans ((zS_n (by decide)).trans ((zU_x (by decide)).trans ((zU_x (by decide)).trans ((zS_n (by decide)).trans ((zS_n (by decide)).trans (rfl))))))))) ((zU_x (by decide)).trans (zU_e)) ((zU_e).trans ev.symm) ((zU_n (by decide)).trans ((zU_n (by decide)).trans ((zS_n (by decide)).trans ((zS_n (by decide)).trans ((zU_n (by decide)).trans ((zU_n (by decide)).trans ((zS_n (by decide)).trans ((zS_n (by decide)).trans (rfl))))))))) ((zU_n (by decide)).trans ((zU_n (by decide)).trans ((zS_n (by decide)).trans ((zS_n (by decide)).trans ((zU_n (by decide)).trans ((zU_n (by decide)).trans ((zS_n (by decide)).trans ((zS_n (by decide)).trans (rfl))))))))) ((zU_n (by decide)).trans ((zU_n (by decide)).trans ((zS_n (by decide)).trans ((zS_n (by decide)).trans ((zU_n (by decide)).trans ((zU_n (by decide)).trans ((zS_n (by decide)).trans ((zS_n (by decide)).trans (rfl))))))))) ((zU_n (by decide)).trans ((zU_n (by decide)).trans ((zS_n (by decide)).trans ((zS_n (by decide)).trans ((zU_n (by decide)).trans ((zU_n (by decide)).trans ((zS_n (by decide)).trans ((zS_n (by decide)).trans (rfl))))))))) ((zU_n (by decide)).trans ((zU_n (by decide)).trans ((zS_n (by decide)).trans ((zS_n (by decide)).trans ((zU_n (by decide)).trans ((zU_n (by decide)).trans ((zS_n (by decide)).trans ((zS_n (by decide)).trans (rfl))))))))) (fun q q1 q2 => (zU_n (by decide)).trans ((zU_n (by decide)).trans ((zS_n (by decide)).trans ((zS_n (by decide)).trans ((zU_n (by decide)).trans ((zU_n (by decide)).trans ((zS_n (by decide)).trans (zS_at ⟨q1, q2⟩)))))))) (fun q q1 q2 => (zU_n (by decide)).trans ((zU_n (by decide)).trans ((zS_n (by decide)).trans ((zS_n (by decide)).trans ((zU_n (by decide)).trans ((zU_n (by decide)).trans (zS_at ⟨q1, q2⟩))))))) (fun q q1 q2 => (zU_n (by decide)).trans ((zU_n (by decide)).trans ((zS_n (by decide)).trans (zS_at ⟨q1, q2⟩)))) (fun q q1 q2 => (zU_n (by decide)).trans ((zU_n (by decide)).trans (zS_at ⟨q1, q2⟩)))), RelP_k hk (by repeat' constructor) (fun p => by repeat' constructor) hP, RelC_k hk (by repeat' constructor) (fun p => by repeat' constructor) hC, RelA_k hk (by repeat' constructor) (fun p => by repeat' constructor) hAc, RelS_k hk (zK_r (k := kM)) (fun x j a b => ⟨kL_38 (by decide) (by decide) x j a b, kM_38 x j a b⟩) (fun p => ⟨rfl, rfl, rfl⟩) rfl hS, RelT_k hk (by repeat' constructor) (fun p => by repeat' constructor) hTp, RelX_k hk (by repeat' constructor) (fun p => by repeat' constructor) hX, RelW_k hk ⟨rfl, rfl⟩ trivial hW⟩
