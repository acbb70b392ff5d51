theorem lyR_z {X : Nat × (Nat → Int32)} {d : Nat} {J M : zA} {R : zR} (hR : zRoR R) {N : Int → Int → Int} {n : Int} (hA : rN J = N) (hz : J 50 1 = n) (hN : zNr n N) {r0 : Int} : ∀ (j k : Nat) (r : Int), (k : Int) + j = n → (0 ≤ r ∧ r < 1000000) → zW X (d + 4) 219 4 [some (.ref 50), some (zi r0), some (zi r), some (zi (k : Int))] [] J M R (zPu (ly N (-1) j (k : Int) r) J M R) := by
  have qn := zNn hN
  intro j
  induction j with
  | zero =>
    intro k r hk hr
    refine z_iload rfl rfl ?_
    refine z_aload rfl rfl ?_
    refine z_getI (v := n) rfl rfl (hz) ?_
    refine z_icmp_geT rfl (by omega) (by omega) (by omega) ?_
    refine z_pushI (z := -1) rfl rfl ?_
    exact z_iret rfl rfl ⟨rfl, rfl, rfl, rfl⟩
  | succ j ih =>
    intro k r hk hr
    have q2 := zN2 hN (k : Int)
    refine z_iload3 rfl ?_
    refine z_aload0 rfl ?_
    refine z_getI (v := n) rfl gk_50 (hz) ?_
    refine z_icmp_geF rfl (by omega) (by omega) (by omega) ?_
    refine z_iload2 rfl ?_
    refine z_aload0 rfl ?_
    refine z_getR (r := 53) rfl gk_50 (hR _ rm_50_4 (by decide)) ?_
    refine z_iload3 rfl ?_
    have q1 := zN2 hN (k : Int)
    refine z_iald (v := N (k : Int) 2) rfl gk_53 (by decide) (by omega) (rd_2 (A := J) zK_r hA hz (by omega)) ?_
    refine z_icmp_ge rfl (by omega) (by omega) (fun h2 => ?_) (fun h2 => ?_)
    · refine z_iload2 rfl ?_
      refine z_aload0 rfl ?_
      refine z_getR (r := 53) rfl gk_50 (hR _ rm_50_4 (by decide)) ?_
      refine z_iload3 rfl ?_
      have q3 := zN2 hN (k : Int)
      refine z_iald (v := N (k : Int) 2) rfl gk_53 (by decide) (by omega) (rd_2 (A := J) zK_r hA hz (by omega)) ?_
      refine z_isub (e := r - (N (k : Int) 2)) rfl rfl ?_
      refine z_istore (ls1 := [some (.ref 50), some (zi r0), some (zi (r - (N (k : Int) 2))), some (zi (k : Int))]) rfl rfl ?_
      refine z_iinc (c := 1) (e := (k : Int) + 1) (ls1 := [some (.ref 50), some (zi r0), some (zi (r - (N (k : Int) 2))), some (zi ((k : Int) + 1))]) rfl rfl rfl rfl rfl ?_
      refine z_goto rfl ?_
      show zW _ _ _ _ [some (.ref 50), some (zi r0), some (zi (r - (N (k : Int) 2))), some (zi ((k : Int) + 1))] [] _ _ _ _
      have e := @ly_0 N (-1) (k : Int) r j (by omega)
      have hg := ih (k + 1) (r - N (k : Int) 2) (by omega) (by omega)
      rw [e]
      exact hg
    · refine z_iload3 rfl ?_
      refine z_iret rfl gr_219 ?_
      exact ⟨congrArg (fun v => some (zi v)) (ly_1 (by omega)).symm, rfl, rfl, rfl⟩
theorem lyR_k {X : Nat × (Nat → Int32)} {d : Nat} {J M : zA} {R : zR} (hR : zRoR R) {N : Int → Int → Int} {n : Int} (hA : rN J = N) (hz : J 50 1 = n) (hN : zNr n N) {r0 : Int} (hr : 0 ≤ r0 ∧ r0 < 1000000) : zW X (d + 4) 219 0 (gEn 219 [(.ref 50), (zi r0)]) [] J M R (zPu (ly N (-1) n.toNat 0 r0) J M R) := by
  have qn := zNn hN
  show zW _ _ _ _ [some (.ref 50), some (zi r0), none, none] _ _ _ _ _
  refine z_iload1 rfl ?_
  refine z_istore (ls1 := [some (.ref 50), some (zi r0), some (zi r0), none]) rfl rfl ?_
  refine z_pushJ gp_219_2 ?_
  refine z_istore (ls1 := [some (.ref 50), some (zi r0), some (zi r0), some (zi 0)]) rfl rfl ?_
  show zW _ _ _ _ [some (.ref 50), some (zi r0), some (zi r0), some (zi 0)] [] _ _ _ _
  exact lyR_z hR hA hz hN n.toNat 0 r0 (by omega) hr
theorem fi_z {X : Nat × (Nat → Int32)} {d : Nat} {M : zA} {R : zR} {P : zP} (hR : zRoR R) {A : zA} {N : Int → Int → Int} {n : Int} (hA : rN A = N) (hz : A 50 1 = n) (hN : zNr n N) {T : zX} (hT : LawR X A T) (hTr : Tok T) {S : tR} {g : Int} (hc : rTg A n S g) {s lies k p q : Int} (hp : 0 ≤ p ∧ p < n) (hq : 1 ≤ q ∧ q ≤ 99) (hpl : p = lies) (hlb : -2147483648 ≤ lies ∧ lies < 2147483648) (hm : 0 ≤ tst N S p ∧ tst N S p + q ≤ 999) (hl : 0 ≤ tli S p ∧ tli S p ≤ 3000) : ∀ (j : Nat) (i z : Int) (J : zA), zK kT (zU A 50 41 z) J → i + j = q → 0 ≤ i → (∀ JF : zA, 0 ≤ (lq T N p (tli S p) (tst N S p) j i z).2 → zK kT (zU A 50 41 (lq T N p (tli S p) (tst N S p) j i z).1) JF → P (some (zi (lq T N p (tli S p) (tst N S p) j i z).2)) JF M R) → (∀ JF : zA, (lq T N p (tli S p) (tst N S p) j i z).2 < 0 → zK kT (zU A 50 41 (lq T N p (tli S p) (tst N S p) j i z).1) JF → zW X (d + 6) 220 133 [some (.ref 50), some (zi s), some (zi lies), some (zi k), some (zi p), some (zi q), some (zi (tst N S p)), some (zi q)] [] JF M R P) → zW X (d + 6) 220 58 [some (.ref 50), some (zi s), some (zi lies), some (zi k), some (zi p), some (zi q), some (zi (tst N S p)), some (zi i)] [] J M R P := by
  have qn := zNn hN
  have hA2 : ∀ v : Int, rN (zU A 50 41 v) = N := fun v => (rN_V (zK_x (a := 50) (x := 41) (v := v) zK_r rfl)).trans hA
  intro j
  induction j with
  | zero =>
    intro i z J hJ hi h0 KT KF
    obtain rfl : i = q := by omega
    refine z_iload rfl rfl ?_
    refine z_iload rfl rfl ?_
    refine z_icmp_geT rfl (by omega) (by omega) (by omega) ?_
    exact KF J (show (-1 : Int) < 0 by decide) hJ
  | succ j ih =>
    intro i z J hJ hi h0 KT KF
    have q8 := zu_8 (dz z)
    refine z_iload7 gi_220_58 ?_
    refine z_iload5 gi_220_60 ?_
    refine z_icmp_geF gi_220_62 (by omega) (by omega) (by omega) ?_
    refine z_iload4 gi_220_65 ?_
    refine z_iload2 gi_220_67 ?_
    refine z_icmp_neF gi_220_68 (by omega) (by omega) (by omega) ?_
    refine z_aload0 rfl ?_
    refine z_aload0 rfl ?_
    refine z_getI (v := z) rfl gk_50 (hJ 50 41 rfl) ?_
    refine z_pushJ gp_220_76 ?_
    refine z_imul (e := z * 1103515245) rfl rfl ?_
    refine z_pushJ gp_220_80 ?_
    refine z_iadd (e := z * 1103515245 + 12345) rfl rfl ?_
    refine z_top (y := dz z) rfl ?_
    refine z_putI (y := 41) rfl rfl gk_50 ?_
    refine z_aload0 rfl ?_
    refine z_getI (v := dz z) rfl gk_50 (zU_e) ?_
    refine z_pushJ gp_220_91 ?_
    refine z_iushr (e := zushr (dz z) 8) rfl rfl ?_
    refine z_pushJ gp_220_94 ?_
    refine z_irem (e := (zushr (dz z) 8) % 12) rfl (by omega) (by omega) rfl ?_
    refine z_aload0 rfl ?_
    refine z_iload4 rfl ?_
    refine z_aload0 rfl ?_
    refine z_getR (r := 70) rfl gk_50 (hR _ rm_50_29 (by decide)) ?_
    refine z_iload4 rfl ?_
    refine z_iald (v := tli S p) rfl gk_70 (by decide) (by omega) ((zU_n (by decide)).trans ((hJ 70 _ rfl).trans (hc.2.2.2.2.2 _ hp.1 hp.2))) ?_
    refine z_iload7 rfl ?_
    refine z_iadd (e := (tli S p) + i) rfl rfl ?_
    refine z_iload6 rfl ?_
    refine z_iload7 rfl ?_
    refine z_iadd (e := (tst N S p) + i) rfl rfl ?_
    have hJz := zK_u (a := 50) (x := 41) (v := dz z) hJ
    rw [zU_U] at hJz
    refine z_callVk (As := [_, _, _]) (v := tw T N p (tli S p + i) (tst N S p + i)) rfl rfl gk_50 (Nat.le_of_ble_eq_true rfl) (Nat.le_of_ble_eq_true rfl) (hearsBy_k (A := (zU A 50 41 (dz z))) (N := N) (n := n) hR hJz (hA2 (dz z)) hz hN (LawR_V hT (zK_x (a := 50) (x := 41) (v := dz z) zK_r rfl)) hTr hp (by omega) (by omega)) (fun J2 hJ2 => ?_)
    have qt := @tw_r T N p (tli S p + i) (tst N S p + i)
    refine z_icmp_ge rfl (by omega) (by omega) (fun h1 => ?_) (fun h1 => ?_)
    · refine z_iinc (c := 1) (e := i + 1) (ls1 := [some (.ref 50), some (zi s), some (zi lies), some (zi k), some (zi p), some (zi q), some (zi (tst N S p)), some (zi (i + 1))]) rfl rfl rfl rfl rfl ?_
      refine z_goto rfl ?_
      show zW _ _ _ _ [some (.ref 50), some (zi s), some (zi lies), some (zi k), some (zi p), some (zi q), some (zi (tst N S p)), some (zi (i + 1))] [] _ _ _ _
      have e := @lq_0 T N p (tli S p) (tst N S p) i z j (by omega)
      rw [e] at KT KF
      exact ih (i + 1) (dz z) J2 hJ2 (by omega) (by omega) KT KF
    · refine z_iload6 rfl ?_
      refine z_iload7 rfl ?_
      refine z_iadd (e := (tst N S p) + i) rfl rfl ?_
      refine z_iret rfl gr_220 ?_
      have e := @lq_1 T N p (tli S p) (tst N S p) i z j (by omega)
      rw [e] at KT
      exact KT J2 (show 0 ≤ tst N S p + i by omega) hJ2
theorem fo_z {X : Nat × (Nat → Int32)} {d : Nat} {M : zA} {R : zR} {P : zP} {T : zX} {N : Int → Int → Int} {n : Int} {b : Int → Int} {z0 : Int} {K : Nat} (hR : zRoR R) {A0 : zA} (hA : rN A0 = N) (hz : A0 50 1 = n) (hN : zNr n N) (hT : LawR X A0 T) (hTr : Tok T) {s : Int} (hs : 0 ≤ s ∧ s < 6) (hbm : ∀ i, 0 ≤ i → i < z0 → M 85 (60 * s + i) = b i) (hbr : ∀ i, 0 ≤ i → i < z0 → -128 ≤ b i ∧ b i ≤ 127) (hz0 : A0 84 s = z0) (hzr : 0 ≤ z0 ∧ z0 ≤ 60) (hE : tEnd T N n b 0 z0 K) (hK : K ≤ 30) {g : Int} {lies : Int} (hlb : -2147483648 ≤ lies ∧ lies < 2147483648) : ∀ (j k : Nat) (z : Int) (e4 e5 e6 e7 : Option Value) (J : zA), zK kS A0 J → rTr J n (tS T N n b 0 k) 0 g → J 50 41 = z → j + k = K → (∀ JF : zA, zK kS A0 JF → JF 50 41 = (sk T N n b 0 lies j k z).1 → P (some (zi (sk T N n b 0 lies j k z).2)) JF M R) → zW X (d + 8) 220 11 [some (.ref 50), some (zi s), some (zi lies), some (zi (k : Int)), e4, e5, e6, e7] [] J M R P := by
  have qn := zNn hN
  intro j
  induction j with
  | zero =>
    intro k z e4 e5 e6 e7 J hJ hr h41 hk KK
    obtain rfl : k = K := by omega
    have hV := zK_m hJ kV_S
    have hA3 := (rN_V hV).trans hA
    have hz3 := (hJ 50 1 rfl).trans hz
    have hz4 := (hJ 84 s rfl).trans hz0
    have hi := (tS_r (w := 0) (z := z0) hN k hE.1).1
    show zW _ _ _ _ [some (.ref 50), some (zi s), some (zi lies), some (zi (k : Int)), e4, e5, e6, e7] _ _ _ _ _
    refine z_aload0 gi_220_11 ?_
    refine z_iload1 gi_220_12 ?_
    refine z_iload3 gi_220_13 ?_
    refine z_callVP (As := [_, _]) (v := 0) gi_220_14 rfl gk_50 (Nat.le_of_ble_eq_true rfl) (Nat.le_of_ble_eq_true rfl) (by rw [show (0 : Int) = (if (2 * (k : Int) + 1 < z0 ∧ tC N n (tS T N n b 0 k) (b (2 * (k : Int))) (b (2 * (k : Int) + 1))) then 1 else 0) from by rw [if_neg hE.2]]; exact counts_k hR hA3 hz3 hN hs hbm hbr hz4 hzr hr hi (by omega)) ?_
    refine z_if_eqT gi_220_17 zr_0 (by decide) ?_
    refine z_pushJ gp_220_147 ?_
    refine z_iret rfl gr_220 ?_
    exact KK J hJ h41
  | succ j ih =>
    intro k z e4 e5 e6 e7 J hJ hr h41 hk KK
    have hV := zK_m hJ kV_S
    have hA3 := (rN_V hV).trans hA
    have hz3 := (hJ 50 1 rfl).trans hz
    have hz4 := (hJ 84 s rfl).trans hz0
    have hT3 := LawR_V hT hV
    have hOk := hE.1 k (by omega)
    have hC := hOk.2
    obtain ⟨hp, hq, ht⟩ := hC
    have hC := hOk.2
    have hi := (tS_r (w := 0) (z := z0) hN k (fun i hi => hE.1 i (by omega))).1
    have i2 := hi.2.2
    have i3 := hi.2.1 (b (2 * (k : Int)))
    have i4 := sWay_r hN (f := tat (tS T N n b 0 k)) (p := b (2 * (k : Int)))
    have i5 : tst N (tS T N n b 0 k) (b (2 * (k : Int))) = tmi (tS T N n b 0 k) + sWay N (tat (tS T N n b 0 k)) (b (2 * (k : Int))) := rfl
    have hm : 0 ≤ tst N (tS T N n b 0 k) (b (2 * (k : Int))) ∧ tst N (tS T N n b 0 k) (b (2 * (k : Int))) + b (2 * (k : Int) + 1) ≤ 999 := by omega
    have hl : 0 ≤ tli (tS T N n b 0 k) (b (2 * (k : Int))) ∧ tli (tS T N n b 0 k) (b (2 * (k : Int))) ≤ 3000 := by omega
    have hg : rTg J n (tS T N n b 0 k) g := rT_w (w := 0) rfl hr
    by_cases hpl : b (2 * (k : Int)) = lies
    · show zW _ _ _ _ [some (.ref 50), some (zi s), some (zi lies), some (zi (k : Int)), e4, e5, e6, e7] _ _ _ _ _
      refine z_aload0 gi_220_11 ?_
      refine z_iload1 gi_220_12 ?_
      refine z_iload3 gi_220_13 ?_
      refine z_callVP (As := [_, _]) (v := 1) gi_220_14 rfl gk_50 (Nat.le_of_ble_eq_true rfl) (Nat.le_of_ble_eq_true rfl) (by rw [show (1 : Int) = (if (2 * (k : Int) + 1 < z0 ∧ tC N n (tS T N n b 0 k) (b (2 * (k : Int))) (b (2 * (k : Int) + 1))) then 1 else 0) from by rw [if_pos hOk]]; exact counts_k hR hA3 hz3 hN hs hbm hbr hz4 hzr hr hi (by omega)) ?_
      refine z_if_eqF gi_220_17 zr_1 (by decide) ?_
      refine z_aload0 gi_220_20 ?_
      refine z_iload1 gi_220_21 ?_
      refine z_pushJ gp_220_22 ?_
      refine z_iload3 gi_220_23 ?_
      refine z_imul (e := 2 * (k : Int)) gi_220_24 rfl ?_
      refine z_cV2 gi_220_25 gk_50 go_193 (Nat.le_of_ble_eq_true rfl) gc_193_RII ?_
      refine z_aload0 gi_193_0 ?_
      refine z_getR (r := 85) gi_193_1 gk_50 (hR _ rm_50_60 (by decide)) ?_
      refine z_pushJ gp_193_4 ?_
      refine z_iload1 gi_193_6 ?_
      refine z_imul (e := 60 * s) gi_193_7 rfl ?_
      refine z_iload2 gi_193_8 ?_
      refine z_iadd (e := 60 * s + 2 * (k : Int)) gi_193_9 rfl ?_
      refine z_lald (v := b (2 * (k : Int))) gi_193_10 gk_85 (by decide) (by omega) (hbm _ (by omega) (by omega)) ?_
      refine z_l2i gi_193_11 ?_
      refine z_iret gi_193_12 gr_193 ?_
      show zW _ _ _ _ _ _ _ _ _ _
      refine z_istore (ls1 := [some (.ref 50), some (zi s), some (zi lies), some (zi (k : Int)), some (zi (b (2 * (k : Int)))), e5, e6, e7]) gi_220_28 rfl ?_
      refine z_aload0 gi_220_30 ?_
      refine z_iload1 gi_220_31 ?_
      refine z_pushJ gp_220_32 ?_
      refine z_iload3 gi_220_33 ?_
      refine z_imul (e := 2 * (k : Int)) gi_220_34 rfl ?_
      refine z_pushJ gp_220_35 ?_
      refine z_iadd (e := 2 * (k : Int) + 1) gi_220_36 rfl ?_
      refine z_cV2 gi_220_37 gk_50 go_193 (Nat.le_of_ble_eq_true rfl) gc_193_RII ?_
      refine z_aload0 gi_193_0 ?_
      refine z_getR (r := 85) gi_193_1 gk_50 (hR _ rm_50_60 (by decide)) ?_
      refine z_pushJ gp_193_4 ?_
      refine z_iload1 gi_193_6 ?_
      refine z_imul (e := 60 * s) gi_193_7 rfl ?_
      refine z_iload2 gi_193_8 ?_
      refine z_iadd (e := 60 * s + (2 * (k : Int) + 1)) gi_193_9 rfl ?_
      refine z_lald (v := b (2 * (k : Int) + 1)) gi_193_10 gk_85 (by decide) (by omega) (hbm _ (by omega) (by omega)) ?_
      refine z_l2i gi_193_11 ?_
      refine z_iret gi_193_12 gr_193 ?_
      show zW _ _ _ _ _ _ _ _ _ _
      refine z_istore (ls1 := [some (.ref 50), some (zi s), some (zi lies), some (zi (k : Int)), some (zi (b (2 * (k : Int)))), some (zi (b (2 * (k : Int) + 1))), e6, e7]) gi_220_40 rfl ?_
      refine z_aload0 gi_220_42 ?_
      refine z_getI (v := tmi (tS T N n b 0 k)) gi_220_43 gk_50 (hr.2.2.1) ?_
      refine z_aload0 gi_220_46 ?_
      refine z_iload4 gi_220_47 ?_
      refine z_callVP (As := [_]) (v := sWay N (tat (tS T N n b 0 k)) (b (2 * (k : Int)))) gi_220_49 rfl gk_50 (Nat.le_of_ble_eq_true rfl) (Nat.le_of_ble_eq_true rfl) (wayTo_s hR hA3 hz3 hN hr hp (by omega)) ?_
      refine z_iadd (e := (tmi (tS T N n b 0 k)) + (sWay N (tat (tS T N n b 0 k)) (b (2 * (k : Int))))) gi_220_52 rfl ?_
      refine z_top (y := tst N (tS T N n b 0 k) (b (2 * (k : Int)))) rfl ?_
      refine z_istore (ls1 := [some (.ref 50), some (zi s), some (zi lies), some (zi (k : Int)), some (zi (b (2 * (k : Int)))), some (zi (b (2 * (k : Int) + 1))), some (zi (tst N (tS T N n b 0 k) (b (2 * (k : Int))))), e7]) gi_220_53 rfl ?_
      refine z_pushJ gp_220_55 ?_
      refine z_istore (ls1 := [some (.ref 50), some (zi s), some (zi lies), some (zi (k : Int)), some (zi (b (2 * (k : Int)))), some (zi (b (2 * (k : Int) + 1))), some (zi (tst N (tS T N n b 0 k) (b (2 * (k : Int))))), some (zi 0)]) gi_220_56 rfl ?_
      show zW _ _ _ _ [some (.ref 50), some (zi s), some (zi lies), some (zi (k : Int)), some (zi (b (2 * (k : Int)))), some (zi (b (2 * (k : Int) + 1))), some (zi (tst N (tS T N n b 0 k) (b (2 * (k : Int))))), some (zi 0)] [] _ _ _ _
      refine fi_z (A := J) (S := (tS T N n b 0 k)) hR hA3 hz3 hN hT3 hTr hg hp hq hpl hlb hm hl (b (2 * (k : Int) + 1)).toNat 0 z J (by rw [zU_id h41]; exact zK_r) (by omega) (by decide) (fun JF g2 hF => ?_) (fun JF g2 hF => ?_)
      · have e := @sk_1 T N n b 0 lies j k z hpl g2
        rw [e] at KK
        exact KK JF (zK_t hJ (zK_t (zK_x (a := 50) (x := 41) (v := (l2 T N n b 0 k z).1) zK_r rfl) (zK_m hF kS_T))) (hF 50 41 rfl)
      · show zW _ _ _ _ [some (.ref 50), some (zi s), some (zi lies), some (zi (k : Int)), some (zi (b (2 * (k : Int)))), some (zi (b (2 * (k : Int) + 1))), some (zi (tst N (tS T N n b 0 k) (b (2 * (k : Int))))), some (zi (b (2 * (k : Int) + 1)))] _ _ _ _ _
        refine z_aload0 gi_220_133 ?_
        refine z_iload4 gi_220_134 ?_
        refine z_iload5 gi_220_136 ?_
        have hVF := zK_m (zK_t hJ (zK_t (zK_x (a := 50) (x := 41) (v := (l2 T N n b 0 k z).1) zK_r rfl) (zK_m hF kS_T))) kV_S
        refine z_callV (As := [_, _]) _ gi_220_138 rfl rfl (Nat.le_of_ble_eq_true rfl) (Nat.le_of_ble_eq_true rfl) (goTo_k (s := (tS T N n b 0 k)) (k := k) (w := 0) hR ((rN_V hVF).trans hA) ((hVF 50 1 rfl).trans hz) hN (LawR_V hT hVF) hTr (rTr_k (J := zU J 50 41 (l2 T N n b 0 k z).1) hr hF) (by decide) hi (by omega) hC) (fun r J5 M5 R5 h5 => ?_)
        obtain ⟨rfl, hk5, hr5, rfl, rfl⟩ := h5
        show zW _ _ _ _ _ _ _ _ _ _
        refine z_iinc (c := 1) (e := (k : Int) + 1) (ls1 := [some (.ref 50), some (zi s), some (zi lies), some (zi ((k : Int) + 1)), some (zi (b (2 * (k : Int)))), some (zi (b (2 * (k : Int) + 1))), some (zi (tst N (tS T N n b 0 k) (b (2 * (k : Int))))), some (zi (b (2 * (k : Int) + 1)))]) gi_220_141 rfl rfl rfl rfl ?_
        refine z_goto gi_220_144 ?_
        show zW _ _ _ _ [some (.ref 50), some (zi s), some (zi lies), some (zi ((k : Int) + 1)), some (zi (b (2 * (k : Int)))), some (zi (b (2 * (k : Int) + 1))), some (zi (tst N (tS T N n b 0 k) (b (2 * (k : Int))))), some (zi (b (2 * (k : Int) + 1)))] [] _ _ _ _
        have e := @sk_0 T N n b 0 lies j k z hpl (show ¬ 0 ≤ (l2 T N n b 0 k z).2 from by have g3 : (l2 T N n b 0 k z).2 < 0 := g2; omega)
        rw [e] at KK
        exact ih (k + 1) (l2 T N n b 0 k z).1 (some (zi (b (2 * (k : Int))))) (some (zi (b (2 * (k : Int) + 1)))) (some (zi (tst N (tS T N n b 0 k) (b (2 * (k : Int)))))) (some (zi (b (2 * (k : Int) + 1)))) J5 (zK_t (zK_t hJ (zK_t (zK_x (a := 50) (x := 41) (v := (l2 T N n b 0 k z).1) zK_r rfl) (zK_m hF kS_T))) (zK_m hk5 kS_Q)) hr5 ((hk5 50 41 rfl).trans (hF 50 41 rfl)) (by omega) KK
    · show zW _ _ _ _ [some (.ref 50), some (zi s), some (zi lies), some (zi (k : Int)), e4, e5, e6, e7] _ _ _ _ _
      refine z_aload0 gi_220_11 ?_
      refine z_iload1 gi_220_12 ?_
      refine z_iload3 gi_220_13 ?_
      refine z_callVP (As := [_, _]) (v := 1) gi_220_14 rfl gk_50 (Nat.le_of_ble_eq_true rfl) (Nat.le_of_ble_eq_true rfl) (by rw [show (1 : Int) = (if (2 * (k : Int) + 1 < z0 ∧ tC N n (tS T N n b 0 k) (b (2 * (k : Int))) (b (2 * (k : Int) + 1))) then 1 else 0) from by rw [if_pos hOk]]; exact counts_k hR hA3 hz3 hN hs hbm hbr hz4 hzr hr hi (by omega)) ?_
      refine z_if_eqF gi_220_17 zr_1 (by decide) ?_
      refine z_aload0 gi_220_20 ?_
      refine z_iload1 gi_220_21 ?_
      refine z_pushJ gp_220_22 ?_
      refine z_iload3 gi_220_23 ?_
      refine z_imul (e := 2 * (k : Int)) gi_220_24 rfl ?_
      refine z_cV2 gi_220_25 gk_50 go_193 (Nat.le_of_ble_eq_true rfl) gc_193_RII ?_
      refine z_aload0 gi_193_0 ?_
      refine z_getR (r := 85) gi_193_1 gk_50 (hR _ rm_50_60 (by decide)) ?_
      refine z_pushJ gp_193_4 ?_
      refine z_iload1 gi_193_6 ?_
      refine z_imul (e := 60 * s) gi_193_7 rfl ?_
      refine z_iload2 gi_193_8 ?_
      refine z_iadd (e := 60 * s + 2 * (k : Int)) gi_193_9 rfl ?_
      refine z_lald (v := b (2 * (k : Int))) gi_193_10 gk_85 (by decide) (by omega) (hbm _ (by omega) (by omega)) ?_
      refine z_l2i gi_193_11 ?_
      refine z_iret gi_193_12 gr_193 ?_
      show zW _ _ _ _ _ _ _ _ _ _
      refine z_istore (ls1 := [some (.ref 50), some (zi s), some (zi lies), some (zi (k : Int)), some (zi (b (2 * (k : Int)))), e5, e6, e7]) gi_220_28 rfl ?_
      refine z_aload0 gi_220_30 ?_
      refine z_iload1 gi_220_31 ?_
      refine z_pushJ gp_220_32 ?_
      refine z_iload3 gi_220_33 ?_
      refine z_imul (e := 2 * (k : Int)) gi_220_34 rfl ?_
      refine z_pushJ gp_220_35 ?_
      refine z_iadd (e := 2 * (k : Int) + 1) gi_220_36 rfl ?_
      refine z_cV2 gi_220_37 gk_50 go_193 (Nat.le_of_ble_eq_true rfl) gc_193_RII ?_
      refine z_aload0 gi_193_0 ?_
      refine z_getR (r := 85) gi_193_1 gk_50 (hR _ rm_50_60 (by decide)) ?_
      refine z_pushJ gp_193_4 ?_
      refine z_iload1 gi_193_6 ?_
      refine z_imul (e := 60 * s) gi_193_7 rfl ?_
      refine z_iload2 gi_193_8 ?_
      refine z_iadd (e := 60 * s + (2 * (k : Int) + 1)) gi_193_9 rfl ?_
      refine z_lald (v := b (2 * (k : Int) + 1)) gi_193_10 gk_85 (by decide) (by omega) (hbm _ (by omega) (by omega)) ?_
      refine z_l2i gi_193_11 ?_
      refine z_iret gi_193_12 gr_193 ?_
      show zW _ _ _ _ _ _ _ _ _ _
      refine z_istore (ls1 := [some (.ref 50), some (zi s), some (zi lies), some (zi (k : Int)), some (zi (b (2 * (k : Int)))), some (zi (b (2 * (k : Int) + 1))), e6, e7]) gi_220_40 rfl ?_
      refine z_aload0 gi_220_42 ?_
      refine z_getI (v := tmi (tS T N n b 0 k)) gi_220_43 gk_50 (hr.2.2.1) ?_
      refine z_aload0 gi_220_46 ?_
      refine z_iload4 gi_220_47 ?_
      refine z_callVP (As := [_]) (v := sWay N (tat (tS T N n b 0 k)) (b (2 * (k : Int)))) gi_220_49 rfl gk_50 (Nat.le_of_ble_eq_true rfl) (Nat.le_of_ble_eq_true rfl) (wayTo_s hR hA3 hz3 hN hr hp (by omega)) ?_
      refine z_iadd (e := (tmi (tS T N n b 0 k)) + (sWay N (tat (tS T N n b 0 k)) (b (2 * (k : Int))))) gi_220_52 rfl ?_
      refine z_top (y := tst N (tS T N n b 0 k) (b (2 * (k : Int)))) rfl ?_
      refine z_istore (ls1 := [some (.ref 50), some (zi s), some (zi lies), some (zi (k : Int)), some (zi (b (2 * (k : Int)))), some (zi (b (2 * (k : Int) + 1))), some (zi (tst N (tS T N n b 0 k) (b (2 * (k : Int))))), e7]) gi_220_53 rfl ?_
      refine z_pushJ gp_220_55 ?_
      refine z_istore (ls1 := [some (.ref 50), some (zi s), some (zi lies), some (zi (k : Int)), some (zi (b (2 * (k : Int)))), some (zi (b (2 * (k : Int) + 1))), some (zi (tst N (tS T N n b 0 k) (b (2 * (k : Int))))), some (zi 0)]) gi_220_56 rfl ?_
      refine z_iload7 gi_220_58 ?_
      refine z_iload5 gi_220_60 ?_
      refine z_icmp_geF gi_220_62 zr_0 (by omega) (by omega) ?_
      refine z_iload4 gi_220_65 ?_
      refine z_iload2 gi_220_67 ?_
      refine z_icmp_neT gi_220_68 (by omega) (by omega) (by omega) ?_
      refine z_aload0 gi_220_133 ?_
      refine z_iload4 gi_220_134 ?_
      refine z_iload5 gi_220_136 ?_
      refine z_callV (As := [_, _]) _ gi_220_138 rfl rfl (Nat.le_of_ble_eq_true rfl) (Nat.le_of_ble_eq_true rfl) (goTo_k (s := (tS T N n b 0 k)) (k := k) (w := 0) hR hA3 hz3 hN hT3 hTr hr (by decide) hi (by omega) hC) (fun r J5 M5 R5 h5 => ?_)
      obtain ⟨rfl, hk5, hr5, rfl, rfl⟩ := h5
      show zW _ _ _ _ _ _ _ _ _ _
      refine z_iinc (c := 1) (e := (k : Int) + 1) (ls1 := [some (.ref 50), some (zi s), some (zi lies), some (zi ((k : Int) + 1)), some (zi (b (2 * (k : Int)))), some (zi (b (2 * (k : Int) + 1))), some (zi (tst N (tS T N n b 0 k) (b (2 * (k : Int))))), some (zi 0)]) gi_220_141 rfl rfl rfl rfl ?_
      refine z_goto gi_220_144 ?_
      show zW _ _ _ _ [some (.ref 50), some (zi s), some (zi lies), some (zi ((k : Int) + 1)), some (zi (b (2 * (k : Int)))), some (zi (b (2 * (k : Int) + 1))), some (zi (tst N (tS T N n b 0 k) (b (2 * (k : Int))))), some (zi 0)] [] _ _ _ _
      have e := @sk_n T N n b 0 lies j k z hpl
      rw [e] at KK
      exact ih (k + 1) z (some (zi (b (2 * (k : Int))))) (some (zi (b (2 * (k : Int) + 1)))) (some (zi (tst N (tS T N n b 0 k) (b (2 * (k : Int)))))) (some (zi 0)) J5 (zK_t hJ (zK_m hk5 kS_Q)) hr5 ((hk5 50 41 rfl).trans h41) (by omega) KK
theorem foundIn_k {X : Nat × (Nat → Int32)} {d : Nat} {J M : zA} {R : zR} {T : zX} {N : Int → Int → Int} {n : Int} {b : Int → Int} {z0 : Int} {K : Nat} (hR : zRoR R) {A0 : zA} (hA : rN A0 = N) (hz : A0 50 1 = n) (hN : zNr n N) (hT : LawR X A0 T) (hTr : Tok T) {s : Int} (hs : 0 ≤ s ∧ s < 6) (hbm : ∀ i, 0 ≤ i → i < z0 → M 85 (60 * s + i) = b i) (hbr : ∀ i, 0 ≤ i → i < z0 → -128 ≤ b i ∧ b i ≤ 127) (hz0 : A0 84 s = z0) (hzr : 0 ≤ z0 ∧ z0 ≤ 60) (hE : tEnd T N n b 0 z0 K) (hK : K ≤ 30)  {lies z : Int} (hlb : -2147483648 ≤ lies ∧ lies < 2147483648) (hJ : zK kS A0 J) (h35 : J 50 35 = 0) (h41 : J 50 41 = z) : zW X (d + 8) 220 0 (gEn 220 [(.ref 50), (zi s), (zi lies)]) [] J M R (fun r J2 M2 R2 => r = some (zi (sk T N n b 0 lies K 0 z).2) ∧ zK kS A0 J2 ∧ J2 50 41 = (sk T N n b 0 lies K 0 z).1 ∧ M2 = M ∧ R2 = R) := by
  have hV := zK_m hJ kV_S
  have hA3 := (rN_V hV).trans hA
  have hz3 := (hJ 50 1 rfl).trans hz
  show zW _ _ _ _ [some (.ref 50), some (zi s), some (zi lies), none, none, none, none, none] _ _ _ _ _
  refine z_aload0 rfl ?_
  refine z_callV (As := []) _ rfl rfl rfl (Nat.le_of_ble_eq_true rfl) (Nat.le_of_ble_eq_true rfl) (beginR_k hR hA3 hz3 hN) (fun r J2 M2 R2 hr => ?_)
  obtain ⟨rfl, hk, d30, d31, d32, d33, d69, d70, rfl, rfl⟩ := hr
  show zW _ _ _ _ _ _ _ _ _ _
  refine z_aload0 rfl ?_
  refine z_pushJ gp_220_5 ?_
  refine z_putI (y := 34) rfl rfl gk_50 ?_
  refine z_pushJ gp_220_9 ?_
  refine z_istore (ls1 := [some (.ref 50), some (zi s), some (zi lies), some (zi 0), none, none, none, none]) rfl rfl ?_
  show zW _ _ _ _ [some (.ref 50), some (zi s), some (zi lies), some (zi 0), none, none, none, none] [] _ _ _ _
  refine fo_z (g := sGone N n) (J := zU J2 50 34 0) hR hA hz hN hT hTr hs hbm hbr hz0 hzr hE hK hlb K 0 z none none none none ?_ ⟨d33, d30, d31, d32, rfl, (hk 50 35 rfl).trans h35, fun p p1 p2 => ?_, fun p p1 p2 => d70 p p1 p2⟩ ((hk 50 41 rfl).trans h41) (by omega) (fun JF a b => ⟨rfl, a, b, rfl, rfl⟩)
  · exact zK_t hJ (zK_x (a := 50) (x := 34) (v := 0) (zK_m hk kS_Q) rfl)
  · refine (d69 p p1 p2).trans ?_
    show _ = (if 0 ≤ p ∧ p < n then sShare N n p else 0)
    rw [if_pos ⟨p1, p2⟩]
theorem sk_r {T : zX} {N : Int → Int → Int} {n : Int} {b : Int → Int} {w lies z0 : Int} {K : Nat} (hN : zNr n N) (hok : ∀ k, k < K → tOk T N n b w z0 k) : ∀ (c k : Nat) (z : Int), c + k = K → (sk T N n b w lies c k z).2 = -1 ∨ (0 ≤ (sk T N n b w lies c k z).2 ∧ (sk T N n b w lies c k z).2 ≤ 999) := by
  intro c
  induction c with
  | zero => exact fun _ _ _ => Or.inl rfl
  | succ c ih =>
    intro k z hk
    by_cases h : b (2 * k) = lies
    · by_cases g : 0 ≤ (l2 T N n b w k z).2
      · rw [sk_1 h g]
        obtain ⟨-, hp, hq, ht⟩ := hok k (by omega)
        have i1 := (tS_r (w := w) (z := z0) hN k (fun i hi => hok i (by omega))).1.2.2
        have i4 := sWay_r hN (f := tat (tS T N n b w k)) (p := b (2 * (k : Int)))
        have i5 : tst N (tS T N n b w k) (b (2 * (k : Int))) = tmi (tS T N n b w k) + sWay N (tat (tS T N n b w k)) (b (2 * (k : Int))) := rfl
        have q := lq_r (T := T) (N := N) (p := b (2 * (k : Int))) (l := tli (tS T N n b w k) (b (2 * (k : Int)))) (m := tst N (tS T N n b w k) (b (2 * (k : Int)))) (by omega) (b (2 * (k : Int) + 1)).toNat 0 z (by decide)
        rcases q with q | q
        · exact Or.inl q
        · refine Or.inr ⟨g, ?_⟩
          have q2 := q.2
          show (lq T N _ _ _ _ 0 z).2 ≤ 999
          omega
      · rw [sk_0 h g]; exact ih _ _ (by omega)
    · rw [sk_n h]; exact ih _ _ (by omega)
theorem drawnR_z {X : Nat × (Nat → Int32)} {d : Nat} {M : zA} {R : zR} {P : zP} {T : zX} {N : Int → Int → Int} {n : Int} {b : Int → Int} {z0 : Int} {K : Nat} (hR : zRoR R) {A : zA} (hA : rN A = N) (hz : A 50 1 = n) (hN : zNr n N) (hT : LawR X A T) (hTr : Tok T) {s : Int} (hs : 0 ≤ s ∧ s < 6) (hbm : ∀ i, 0 ≤ i → i < z0 → M 85 (60 * s + i) = b i) (hbr : ∀ i, 0 ≤ i → i < z0 → -128 ≤ b i ∧ b i ≤ 127) (hz0 : A 84 s = z0) (hzr : 0 ≤ z0 ∧ z0 ≤ 60) (hE : tEnd T N n b 0 z0 K) (hK : K ≤ 30) (h35 : A 50 35 = 0) {sd0 c v : Int} (hc : 1 ≤ c ∧ c ≤ 30) : ∀ (j : Nat) (i : Int) (sd : Int × Int × Int) (e9 e10 : Option Value) (J : zA), zK kS A J → J 50 41 = sd.1 → (i + j = c ∧ 0 ≤ i) → (∀ (JF : zA) (e9 e10 : Option Value), zK kS A JF → zW X (d + 9) 221 151 [some (.ref 50), some (zi s), some (zi sd0), some (zi c), some (zi v), some (zi ((da T N n b 0 K j sd).2.1)), some (zi ((da T N n b 0 K j sd).2.2)), some (zi (sAll N n.toNat)), some (zi c), e9, e10] [] JF M R P) → zW X (d + 9) 221 63 [some (.ref 50), some (zi s), some (zi sd0), some (zi c), some (zi v), some (zi sd.2.1), some (zi sd.2.2), some (zi (sAll N n.toNat)), some (zi i), e9, e10] [] J M R P := by
  have qn := zNn hN
  have qa := sAll_r hN n.toNat
  intro j
  induction j with
  | zero =>
    intro i sd e9 e10 J hJ h41 hi KK
    obtain rfl : i = c := by omega
    refine z_iload rfl rfl ?_
    refine z_iload rfl rfl ?_
    refine z_icmp_geT rfl (by omega) (by omega) (by omega) ?_
    exact KK J e9 e10 hJ
  | succ j ih =>
    intro i sd e9 e10 J hJ h41 hi KK
    have q4 := zu_4 (dz sd.1)
    have qm : sAll N n.toNat = 0 ∨ (0 ≤ zushr (dz sd.1) 4 % sAll N n.toNat ∧ zushr (dz sd.1) 4 % sAll N n.toNat < sAll N n.toNat) := by
      by_cases h : sAll N n.toNat = 0
      · exact Or.inl h
      · exact Or.inr ⟨Int.emod_nonneg _ (by omega), Int.emod_lt_of_pos _ (by omega)⟩
    refine z_iload8 rfl ?_
    refine z_iload3 rfl ?_
    refine z_icmp_geF rfl (by omega) (by omega) (by omega) ?_
    refine z_aload0 rfl ?_
    refine z_aload0 rfl ?_
    refine z_getI (v := sd.1) rfl gk_50 (h41) ?_
    refine z_pushJ gp_221_74 ?_
    refine z_imul (e := sd.1 * 1103515245) rfl rfl ?_
    refine z_pushJ gp_221_78 ?_
    refine z_iadd (e := sd.1 * 1103515245 + 12345) rfl rfl ?_
    refine z_top (y := dz sd.1) rfl ?_
    refine z_putI (y := 41) rfl rfl gk_50 ?_
    refine z_iload7 rfl ?_
    refine z_if_ne rfl (by omega) (fun h1 => ?_) (fun h1 => ?_)
    · refine z_aload0 rfl ?_
      refine z_aload0 rfl ?_
      refine z_getI (v := dz sd.1) rfl gk_50 (zU_e) ?_
      refine z_pushJ gp_221_99 ?_
      refine z_iushr (e := zushr (dz sd.1) 4) rfl rfl ?_
      refine z_iload7 rfl ?_
      refine z_irem (e := (zushr (dz sd.1) 4) % (sAll N n.toNat)) rfl (by omega) (by omega) rfl ?_
      have hV := zK_m (zK_x (a := 50) (x := 41) (v := dz sd.1) hJ rfl) kV_S
      refine z_callVP (As := [_]) (v := ly N (-1) n.toNat 0 (zushr (dz sd.1) 4 % sAll N n.toNat)) rfl rfl gk_50 (Nat.le_of_ble_eq_true rfl) (Nat.le_of_ble_eq_true rfl) (lyR_k hR ((rN_V hV).trans hA) ((hV 50 1 rfl).trans hz) hN (by omega)) ?_
      have ql := @ly_r N (-1) n.toNat 0 (zushr (dz sd.1) 4 % sAll N n.toNat)
      refine z_istore (ls1 := [some (.ref 50), some (zi s), some (zi sd0), some (zi c), some (zi v), some (zi sd.2.1), some (zi sd.2.2), some (zi (sAll N n.toNat)), some (zi i), some (zi (ly N (-1) n.toNat 0 (zushr (dz sd.1) 4 % sAll N n.toNat))), e10]) gi_221_107 rfl ?_
      refine z_iload9 gi_221_109 ?_
      refine z_if_ge gi_221_111 (by omega) (fun h2 => ?_) (fun h2 => ?_)
      · refine z_aload0 rfl ?_
        refine z_iload1 rfl ?_
        refine z_iload9 rfl ?_
        refine z_callV (As := [_, _]) _ rfl rfl rfl (Nat.le_of_ble_eq_true rfl) (Nat.le_of_ble_eq_true rfl) (foundIn_k (A0 := A) (z := dz sd.1) hR hA hz hN hT hTr hs hbm hbr hz0 hzr hE hK (by omega) (zK_x (a := 50) (x := 41) (v := dz sd.1) hJ rfl) ((zU_x (by decide)).trans ((hJ 50 35 rfl).trans h35)) zU_e) (fun r J2 M2 R2 hr => ?_)
        obtain ⟨rfl, hJ2, h42, rfl, rfl⟩ := hr
        show zW _ _ _ _ _ (_ :: _) _ _ _ _
        have qk := sk_r (T := T) (w := 0) (lies := ly N (-1) n.toNat 0 (zushr (dz sd.1) 4 % sAll N n.toNat)) hN hE.1 K 0 (dz sd.1) (by omega)
        refine z_istore (ls1 := [some (.ref 50), some (zi s), some (zi sd0), some (zi c), some (zi v), some (zi sd.2.1), some (zi sd.2.2), some (zi (sAll N n.toNat)), some (zi i), some (zi (ly N (-1) n.toNat 0 (zushr (dz sd.1) 4 % sAll N n.toNat))), some (zi ((sk T N n b 0 (ly N (-1) n.toNat 0 (zushr (dz sd.1) 4 % sAll N n.toNat)) K 0 (dz sd.1)).2))]) gi_221_125 rfl ?_
        refine z_iload10 gi_221_127 ?_
        refine z_if_ge gi_221_129 (by omega) (fun h3 => ?_) (fun h3 => ?_)
        · refine z_iinc (c := 1) (e := sd.2.1 + 1) (ls1 := [some (.ref 50), some (zi s), some (zi sd0), some (zi c), some (zi v), some (zi (sd.2.1 + 1)), some (zi sd.2.2), some (zi (sAll N n.toNat)), some (zi i), some (zi (ly N (-1) n.toNat 0 (zushr (dz sd.1) 4 % sAll N n.toNat))), some (zi ((sk T N n b 0 (ly N (-1) n.toNat 0 (zushr (dz sd.1) 4 % sAll N n.toNat)) K 0 (dz sd.1)).2))]) rfl rfl rfl rfl rfl ?_
          refine z_iload6 rfl ?_
          refine z_iload10 rfl ?_
          refine z_iadd (e := sd.2.2 + ((sk T N n b 0 (ly N (-1) n.toNat 0 (zushr (dz sd.1) 4 % sAll N n.toNat)) K 0 (dz sd.1)).2)) rfl rfl ?_
          refine z_istore (ls1 := [some (.ref 50), some (zi s), some (zi sd0), some (zi c), some (zi v), some (zi (sd.2.1 + 1)), some (zi (sd.2.2 + ((sk T N n b 0 (ly N (-1) n.toNat 0 (zushr (dz sd.1) 4 % sAll N n.toNat)) K 0 (dz sd.1)).2))), some (zi (sAll N n.toNat)), some (zi i), some (zi (ly N (-1) n.toNat 0 (zushr (dz sd.1) 4 % sAll N n.toNat))), some (zi ((sk T N n b 0 (ly N (-1) n.toNat 0 (zushr (dz sd.1) 4 % sAll N n.toNat)) K 0 (dz sd.1)).2))]) rfl rfl ?_
          refine z_iinc (c := 1) (e := i + 1) (ls1 := [some (.ref 50), some (zi s), some (zi sd0), some (zi c), some (zi v), some (zi (sd.2.1 + 1)), some (zi (sd.2.2 + ((sk T N n b 0 (ly N (-1) n.toNat 0 (zushr (dz sd.1) 4 % sAll N n.toNat)) K 0 (dz sd.1)).2))), some (zi (sAll N n.toNat)), some (zi (i + 1)), some (zi (ly N (-1) n.toNat 0 (zushr (dz sd.1) 4 % sAll N n.toNat))), some (zi ((sk T N n b 0 (ly N (-1) n.toNat 0 (zushr (dz sd.1) 4 % sAll N n.toNat)) K 0 (dz sd.1)).2))]) gi_221_145 rfl rfl rfl rfl ?_
          refine z_goto gi_221_148 ?_
          show zW _ _ _ _ [some (.ref 50), some (zi s), some (zi sd0), some (zi c), some (zi v), some (zi (sd.2.1 + 1)), some (zi (sd.2.2 + ((sk T N n b 0 (ly N (-1) n.toNat 0 (zushr (dz sd.1) 4 % sAll N n.toNat)) K 0 (dz sd.1)).2))), some (zi (sAll N n.toNat)), some (zi (i + 1)), some (zi (ly N (-1) n.toNat 0 (zushr (dz sd.1) 4 % sAll N n.toNat))), some (zi ((sk T N n b 0 (ly N (-1) n.toNat 0 (zushr (dz sd.1) 4 % sAll N n.toNat)) K 0 (dz sd.1)).2))] [] _ _ _ _
          have e : d1 T N n b 0 K sd = ((sk T N n b 0 (ly N (-1) n.toNat 0 (zushr (dz sd.1) 4 % sAll N n.toNat)) K 0 (dz sd.1)).1, sd.2.1 + 1, sd.2.2 + (sk T N n b 0 (ly N (-1) n.toNat 0 (zushr (dz sd.1) 4 % sAll N n.toNat)) K 0 (dz sd.1)).2) := by
            unfold d1
            rw [if_neg (by omega), if_neg (by omega), if_neg (by omega)]
          have hg := ih (i + 1) (d1 T N n b 0 K sd) (some (zi (ly N (-1) n.toNat 0 (zushr (dz sd.1) 4 % sAll N n.toNat)))) (some (zi ((sk T N n b 0 (ly N (-1) n.toNat 0 (zushr (dz sd.1) 4 % sAll N n.toNat)) K 0 (dz sd.1)).2))) J2 hJ2 (by rw [e]; exact h42) (by omega) KK
          rw [e] at hg
          exact hg
        · refine z_goto gi_221_132 ?_
          refine z_iinc (c := 1) (e := i + 1) (ls1 := [some (.ref 50), some (zi s), some (zi sd0), some (zi c), some (zi v), some (zi sd.2.1), some (zi sd.2.2), some (zi (sAll N n.toNat)), some (zi (i + 1)), some (zi (ly N (-1) n.toNat 0 (zushr (dz sd.1) 4 % sAll N n.toNat))), some (zi ((sk T N n b 0 (ly N (-1) n.toNat 0 (zushr (dz sd.1) 4 % sAll N n.toNat)) K 0 (dz sd.1)).2))]) gi_221_145 rfl rfl rfl rfl ?_
          refine z_goto gi_221_148 ?_
          show zW _ _ _ _ [some (.ref 50), some (zi s), some (zi sd0), some (zi c), some (zi v), some (zi sd.2.1), some (zi sd.2.2), some (zi (sAll N n.toNat)), some (zi (i + 1)), some (zi (ly N (-1) n.toNat 0 (zushr (dz sd.1) 4 % sAll N n.toNat))), some (zi ((sk T N n b 0 (ly N (-1) n.toNat 0 (zushr (dz sd.1) 4 % sAll N n.toNat)) K 0 (dz sd.1)).2))] [] _ _ _ _
          have e : d1 T N n b 0 K sd = ((sk T N n b 0 (ly N (-1) n.toNat 0 (zushr (dz sd.1) 4 % sAll N n.toNat)) K 0 (dz sd.1)).1, sd.2.1, sd.2.2) := by
            unfold d1
            rw [if_neg (by omega), if_neg (by omega), if_pos (by omega)]
          have hg := ih (i + 1) (d1 T N n b 0 K sd) (some (zi (ly N (-1) n.toNat 0 (zushr (dz sd.1) 4 % sAll N n.toNat)))) (some (zi ((sk T N n b 0 (ly N (-1) n.toNat 0 (zushr (dz sd.1) 4 % sAll N n.toNat)) K 0 (dz sd.1)).2))) J2 hJ2 (by rw [e]; exact h42) (by omega) KK
          rw [e] at hg
          exact hg
      · refine z_pushJ gp_221_114 ?_
        refine z_goto gi_221_115 ?_
        refine z_istore (ls1 := [some (.ref 50), some (zi s), some (zi sd0), some (zi c), some (zi v), some (zi sd.2.1), some (zi sd.2.2), some (zi (sAll N n.toNat)), some (zi i), some (zi (ly N (-1) n.toNat 0 (zushr (dz sd.1) 4 % sAll N n.toNat))), some (zi (-1))]) gi_221_125 rfl ?_
        refine z_iload10 gi_221_127 ?_
        refine z_if_geF gi_221_129 zrn_1 (by decide) ?_
        refine z_goto gi_221_132 ?_
        refine z_iinc (c := 1) (e := i + 1) (ls1 := [some (.ref 50), some (zi s), some (zi sd0), some (zi c), some (zi v), some (zi sd.2.1), some (zi sd.2.2), some (zi (sAll N n.toNat)), some (zi (i + 1)), some (zi (ly N (-1) n.toNat 0 (zushr (dz sd.1) 4 % sAll N n.toNat))), some (zi (-1))]) gi_221_145 rfl rfl rfl rfl ?_
        refine z_goto gi_221_148 ?_
        show zW _ _ _ _ [some (.ref 50), some (zi s), some (zi sd0), some (zi c), some (zi v), some (zi sd.2.1), some (zi sd.2.2), some (zi (sAll N n.toNat)), some (zi (i + 1)), some (zi (ly N (-1) n.toNat 0 (zushr (dz sd.1) 4 % sAll N n.toNat))), some (zi (-1))] [] _ _ _ _
        have e : d1 T N n b 0 K sd = (dz sd.1, sd.2.1, sd.2.2) := by
          unfold d1
          first | rw [if_pos (by omega)] | rw [if_neg (by omega), if_pos (by omega)]
        have hg := ih (i + 1) (d1 T N n b 0 K sd) (some (zi (ly N (-1) n.toNat 0 (zushr (dz sd.1) 4 % sAll N n.toNat)))) (some (zi (-1))) (zU J 50 41 (dz sd.1)) (zK_x (a := 50) (x := 41) (v := dz sd.1) hJ rfl) (by rw [e]; exact zU_e) (by omega) KK
        rw [e] at hg
        exact hg
    · refine z_pushJ gp_221_90 ?_
      refine z_goto rfl ?_
      refine z_istore (ls1 := [some (.ref 50), some (zi s), some (zi sd0), some (zi c), some (zi v), some (zi sd.2.1), some (zi sd.2.2), some (zi (sAll N n.toNat)), some (zi i), some (zi (-1)), e10]) gi_221_107 rfl ?_
      refine z_iload9 gi_221_109 ?_
      refine z_if_geF gi_221_111 zrn_1 (by decide) ?_
      refine z_pushJ gp_221_114 ?_
      refine z_goto gi_221_115 ?_
      refine z_istore (ls1 := [some (.ref 50), some (zi s), some (zi sd0), some (zi c), some (zi v), some (zi sd.2.1), some (zi sd.2.2), some (zi (sAll N n.toNat)), some (zi i), some (zi (-1)), some (zi (-1))]) gi_221_125 rfl ?_
      refine z_iload10 gi_221_127 ?_
      refine z_if_geF gi_221_129 zrn_1 (by decide) ?_
      refine z_goto gi_221_132 ?_
      refine z_iinc (c := 1) (e := i + 1) (ls1 := [some (.ref 50), some (zi s), some (zi sd0), some (zi c), some (zi v), some (zi sd.2.1), some (zi sd.2.2), some (zi (sAll N n.toNat)), some (zi (i + 1)), some (zi (-1)), some (zi (-1))]) gi_221_145 rfl rfl rfl rfl ?_
      refine z_goto gi_221_148 ?_
      show zW _ _ _ _ [some (.ref 50), some (zi s), some (zi sd0), some (zi c), some (zi v), some (zi sd.2.1), some (zi sd.2.2), some (zi (sAll N n.toNat)), some (zi (i + 1)), some (zi (-1)), some (zi (-1))] [] _ _ _ _
      have e : d1 T N n b 0 K sd = (dz sd.1, sd.2.1, sd.2.2) := by
        unfold d1
        first | rw [if_pos (by omega)] | rw [if_neg (by omega), if_pos (by omega)]
      have hg := ih (i + 1) (d1 T N n b 0 K sd) (some (zi (-1))) (some (zi (-1))) (zU J 50 41 (dz sd.1)) (zK_x (a := 50) (x := 41) (v := dz sd.1) hJ rfl) (by rw [e]; exact zU_e) (by omega) KK
      rw [e] at hg
      exact hg
