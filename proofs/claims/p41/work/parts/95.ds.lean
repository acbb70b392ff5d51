theorem D_z {A : zA} {z f m v : Int} : zU (zU (zU (zU A 21 2 z) 21 3 f) 21 4 m) 21 2 v = (zU (zU (zU A 21 2 v) 21 3 f) 21 4 m) := by
  funext x y
  unfold zU
  (repeat' split) <;> first | rfl | contradiction | (exfalso; omega)
theorem D_fm {A : zA} {z f m v u : Int} : zU (zU (zU (zU (zU A 21 2 z) 21 3 f) 21 4 m) 21 3 v) 21 4 u = (zU (zU (zU A 21 2 z) 21 3 v) 21 4 u) := by
  funext x y
  unfold zU
  (repeat' split) <;> first | rfl | contradiction | (exfalso; omega)
theorem D_id {A : zA} {z f m : Int} (h2 : A 21 2 = z) (h3 : A 21 3 = f) (h4 : A 21 4 = m) : (zU (zU (zU A 21 2 z) 21 3 f) 21 4 m) = A := by
  rw [zU_id h2, zU_id h3, zU_id h4]
theorem LawC_D {X : Nat × (Nat → Int32)} {A : zA} {R : zR} {T : zX} {z f m : Int} (h : LawC X A R T) : LawC X (zU (zU (zU A 21 2 z) 21 3 f) 21 4 m) R T := LawC_A h rfl (fun _ => rfl) (fun _ => rfl) (fun _ => rfl) (fun _ => rfl)
theorem sk_neg {T : zX} {N : Int → Int → Int} {n : Int} {b : Int → Int} {w lies : Int} {K : Nat} (hb : ∀ k : Nat, k < K → 0 ≤ b (2 * k)) (h : lies < 0) : ∀ (c k : Nat) (z : Int), c + k = K → sk T N n b w lies c k z = (z, -1) := by
  intro c
  induction c with
  | zero => exact fun _ _ _ => rfl
  | succ c ih =>
    intro k z hk
    have q := hb k (by omega)
    rw [sk_n (by omega)]
    exact ih (k + 1) z (by omega)
/-- the place as the class has it -/
noncomputable def lyC (N : Int → Int → Int) (n z : Int) : Int := if sAll N n.toNat ≤ 0 then -2 else ly N (-2) n.toNat 0 (zushr z 4 % sAll N n.toNat)
theorem d1_C {T : zX} {N : Int → Int → Int} {n : Int} {b : Int → Int} {w : Int} {K : Nat} {z f m : Int} (hN : zNr n N) (hb : ∀ k : Nat, k < K → 0 ≤ b (2 * k)) : (0 ≤ (sk T N n b w (lyC N n (dz z)) K 0 (dz z)).2 → d1 T N n b w K (z, f, m) = ((sk T N n b w (lyC N n (dz z)) K 0 (dz z)).1, f + 1, m + (sk T N n b w (lyC N n (dz z)) K 0 (dz z)).2)) ∧ (¬ 0 ≤ (sk T N n b w (lyC N n (dz z)) K 0 (dz z)).2 → d1 T N n b w K (z, f, m) = ((sk T N n b w (lyC N n (dz z)) K 0 (dz z)).1, f, m)) := by
  have qa := sAll_r hN n.toNat
  have neg : ∀ lies : Int, lies < 0 → sk T N n b w lies K 0 (dz z) = (dz z, -1) := fun lies h => sk_neg hb h K 0 (dz z) (by omega)
  by_cases h0 : sAll N n.toNat = 0
  · have e : lyC N n (dz z) = -2 := by unfold lyC; rw [if_pos (by omega)]
    have e2 : d1 T N n b w K (z, f, m) = (dz z, f, m) := by unfold d1; rw [if_pos h0]
    rw [e, neg (-2) (by decide), e2]
    exact ⟨fun h => absurd (show (0 : Int) ≤ -1 from h) (by decide), fun _ => rfl⟩
  · have e : lyC N n (dz z) = ly N (-2) n.toNat 0 (zushr (dz z) 4 % sAll N n.toNat) := by unfold lyC; rw [if_neg (by omega)]
    have r1 := @ly_r N (-1) n.toNat 0 (zushr (dz z) 4 % sAll N n.toNat)
    have r2 := @ly_r N (-2) n.toNat 0 (zushr (dz z) 4 % sAll N n.toNat)
    rcases @ly_e N (-2) (-1) n.toNat 0 (zushr (dz z) 4 % sAll N n.toNat) with g | ⟨g, g2⟩
    · rw [e, g]
      have h1 : ¬ ly N (-1) n.toNat 0 (zushr (dz z) 4 % sAll N n.toNat) < 0 := by omega
      refine ⟨fun h => ?_, fun h => ?_⟩
      · unfold d1
        dsimp only
        rw [if_neg h0, if_neg h1, if_neg (by omega)]
      · unfold d1
        dsimp only
        rw [if_neg h0, if_neg h1, if_pos (by omega)]
    · rw [e, g, neg (-2) (by decide)]
      refine ⟨fun h => absurd (show (0 : Int) ≤ -1 from h) (by decide), fun _ => ?_⟩
      unfold d1
      dsimp only
      rw [if_neg h0, if_pos (by omega)]
theorem lyC_z {X : Nat × (Nat → Int32)} {d : Nat} {J M : zA} {R : zR} (hR : zRok R) {N : Int → Int → Int} {n : Int} (hA : cN J = N) (hz : J 8 2 = n) (hN : zNr n N) {al : Int} : ∀ (j k : Nat) (r : Int) (e4 : Option Value), (k : Int) + j = n → (0 ≤ r ∧ r < 1000000) → zW X (d + 4) 47 30 [some (.ref 21), some (zi al), some (zi r), some (zi (k : Int)), e4] [] J M R (zPu (ly N (-2) j (k : Int) r) J M R) := by
  have qn := zNn hN
  intro j
  induction j with
  | zero =>
    intro k r e4 hk hr
    refine z_iload rfl rfl ?_
    refine z_aload rfl rfl ?_
    refine z_getR (r := 8) rfl rfl (hR _ rm_21_0) ?_
    refine z_getI (v := n) rfl rfl (hz) ?_
    refine z_icmp_geT rfl (by omega) (by omega) (by omega) ?_
    refine z_pushI (z := -2) rfl rfl ?_
    exact z_iret rfl rfl ⟨rfl, rfl, rfl, rfl⟩
  | succ j ih =>
    intro k r e4 hk hr
    have q2 := zN2 hN (k : Int)
    refine z_iload3 rfl ?_
    refine z_aload0 rfl ?_
    refine z_getR (r := 8) rfl gk_21 (hR _ rm_21_0) ?_
    refine z_getI (v := n) rfl gk_8 (hz) ?_
    refine z_icmp_geF rfl (by omega) (by omega) (by omega) ?_
    refine z_aload0 rfl ?_
    refine z_getR (r := 8) rfl gk_21 (hR _ rm_21_0) ?_
    refine z_iload3 rfl ?_
    refine z_pushJ gp_47_46 ?_
    refine z_callVP (As := [_, _]) (v := N (k : Int) 2) rfl rfl gk_8 (Nat.le_of_ble_eq_true rfl) (Nat.le_of_ble_eq_true rfl) (told_k hR zK_r hA hz hN (by omega) (by decide)) ?_
    have q1 := zN2 hN (k : Int)
    refine z_istore (ls1 := [some (.ref 21), some (zi al), some (zi r), some (zi (k : Int)), some (zi (N (k : Int) 2))]) rfl rfl ?_
    refine z_iload2 rfl ?_
    refine z_iload4 rfl ?_
    refine z_icmp_ge rfl (by omega) (by omega) (fun h2 => ?_) (fun h2 => ?_)
    · refine z_iload2 rfl ?_
      refine z_iload4 rfl ?_
      refine z_isub (e := r - (N (k : Int) 2)) rfl rfl ?_
      refine z_istore (ls1 := [some (.ref 21), some (zi al), some (zi (r - (N (k : Int) 2))), some (zi (k : Int)), some (zi (N (k : Int) 2))]) rfl rfl ?_
      refine z_iinc (c := 1) (e := (k : Int) + 1) (ls1 := [some (.ref 21), some (zi al), some (zi (r - (N (k : Int) 2))), some (zi ((k : Int) + 1)), some (zi (N (k : Int) 2))]) rfl rfl rfl rfl rfl ?_
      refine z_goto rfl ?_
      show zW _ _ _ _ [some (.ref 21), some (zi al), some (zi (r - (N (k : Int) 2))), some (zi ((k : Int) + 1)), some (zi (N (k : Int) 2))] [] _ _ _ _
      have e := @ly_0 N (-2) (k : Int) r j (by omega)
      have hg := ih (k + 1) (r - N (k : Int) 2) (some (zi (N (k : Int) 2))) (by omega) (by omega)
      rw [e]
      exact hg
    · refine z_iload3 rfl ?_
      refine z_iret rfl gr_47 ?_
      exact ⟨congrArg (fun v => some (zi v)) (ly_1 (by omega)).symm, rfl, rfl, rfl⟩
theorem drawPlace_k {X : Nat × (Nat → Int32)} {d : Nat} {J M : zA} {R : zR} (hR : zRok R) {N : Int → Int → Int} {n : Int} (hA : cN J = N) (hz : J 8 2 = n) (hN : zNr n N) {z : Int} (h2 : J 21 2 = z) : zW X (d + 5) 47 0 (gEn 47 [(.ref 21)]) [] J M R (zPx (some (zi (lyC N n (dz z)))) (zU J 21 2 (dz z)) M R) := by
  have hA2 : cN (zU J 21 2 (dz z)) = N := (show cN (zU J 21 2 (dz z)) = cN J from rfl).trans hA
  have qa := sAll_r hN n.toNat
  have qn := zNn hN
  have q4 := zu_4 (dz z)
  have qm : sAll N n.toNat ≤ 0 ∨ (0 ≤ zushr (dz z) 4 % sAll N n.toNat ∧ zushr (dz z) 4 % sAll N n.toNat < sAll N n.toNat) := by
    by_cases h : sAll N n.toNat ≤ 0
    · exact Or.inl h
    · exact Or.inr ⟨Int.emod_nonneg _ (by omega), Int.emod_lt_of_pos _ (by omega)⟩
  show zW _ _ _ _ [some (.ref 21), none, none, none, none] _ _ _ _ _
  refine z_aload0 rfl ?_
  refine z_cV0 rfl gk_21 go_46 (Nat.le_of_ble_eq_true rfl) gc_46_R ?_
  refine z_aload0 gi_46_0 ?_
  refine z_aload0 gi_46_1 ?_
  refine z_getI (v := z) gi_46_2 gk_21 (h2) ?_
  refine z_pushJ gp_46_5 ?_
  refine z_imul (e := z * 1103515245) gi_46_7 rfl ?_
  refine z_pushJ gp_46_8 ?_
  refine z_iadd (e := z * 1103515245 + 12345) gi_46_11 rfl ?_
  refine z_top (y := dz z) rfl ?_
  refine z_putI (y := 2) gi_46_12 rfl gk_21 ?_
  refine z_vret gi_46_15 gr_46 ?_
  show zW _ _ _ _ _ _ _ _ _ _
  refine z_aload0 rfl ?_
  refine z_getR (r := 8) rfl gk_21 (hR _ rm_21_0) ?_
  refine z_callVP (As := []) (v := sAll N n.toNat) rfl rfl gk_8 (Nat.le_of_ble_eq_true rfl) (Nat.le_of_ble_eq_true rfl) (allOdds_k (A := zU J 21 2 (dz z)) hR zK_r hA2 hz hN) ?_
  refine z_istore (ls1 := [some (.ref 21), some (zi (sAll N n.toNat)), none, none, none]) rfl rfl ?_
  refine z_iload1 rfl ?_
  refine z_if_gt rfl (by omega) (fun h1 => ?_) (fun h1 => ?_)
  · refine z_aload0 rfl ?_
    refine z_getI (v := dz z) rfl gk_21 (zU_e) ?_
    refine z_pushJ gp_47_23 ?_
    refine z_iushr (e := zushr (dz z) 4) rfl rfl ?_
    refine z_iload1 rfl ?_
    refine z_irem (e := (zushr (dz z) 4) % (sAll N n.toNat)) rfl (by omega) (by omega) rfl ?_
    refine z_istore (ls1 := [some (.ref 21), some (zi (sAll N n.toNat)), some (zi ((zushr (dz z) 4) % (sAll N n.toNat))), none, none]) rfl rfl ?_
    refine z_pushJ gp_47_28 ?_
    refine z_istore (ls1 := [some (.ref 21), some (zi (sAll N n.toNat)), some (zi ((zushr (dz z) 4) % (sAll N n.toNat))), some (zi 0), none]) rfl rfl ?_
    show zW _ _ _ _ [some (.ref 21), some (zi (sAll N n.toNat)), some (zi ((zushr (dz z) 4) % (sAll N n.toNat))), some (zi 0), none] [] _ _ _ _
    have h := lyC_z (d := d + 1) (X := X) (J := zU J 21 2 (dz z)) (M := M) (al := sAll N n.toNat) hR hA2 hz hN n.toNat 0 (zushr (dz z) 4 % sAll N n.toNat) none (by omega) (by omega)
    rw [show ly N (-2) n.toNat ((0 : Nat) : Int) (zushr (dz z) 4 % sAll N n.toNat) = lyC N n (dz z) from by unfold lyC; rw [if_neg (by omega)]; rfl] at h
    exact h
  · refine z_pushJ gp_47_16 ?_
    refine z_iret rfl gr_47 ?_
    exact ⟨congrArg (fun v => some (zi v)) (show (-2 : Int) = lyC N n (dz z) from by unfold lyC; rw [if_pos (by omega)]), rfl, rfl, rfl⟩
theorem thr_z {X : Nat × (Nat → Int32)} {d : Nat} {M : zA} {R : zR} {P : zP} (hR : zRok R) {A : zA} {N : Int → Int → Int} {n : Int} (hA : cN A = N) (hz : A 8 2 = n) (hN : zNr n N) {T : zX} (hT : LawC X A R T) (hTr : Tok T) {b : Int → Int} {w : Int} {K : Nat} (hw : cTw A T N n b w K) (hK : K ≤ 30) {k : Nat} (hkK : k < K) (hp : 0 ≤ b (2 * (k : Int)) ∧ b (2 * (k : Int)) < n) (hq : 1 ≤ b (2 * (k : Int) + 1) ∧ b (2 * (k : Int) + 1) ≤ 99) (hm : 0 ≤ tst N (tS T N n b w k) (b (2 * (k : Int))) ∧ tst N (tS T N n b w k) (b (2 * (k : Int))) + b (2 * (k : Int) + 1) ≤ 999) (hl : 0 ≤ tli (tS T N n b w k) (b (2 * (k : Int))) ∧ tli (tS T N n b w k) (b (2 * (k : Int))) ≤ 3000) {f m : Int} : ∀ (j : Nat) (i z : Int) (e3 : Option Value) (J : zA), zK kT (zU (zU (zU A 21 2 z) 21 3 f) 21 4 m) J → i + j = b (2 * (k : Int) + 1) → 0 ≤ i → (∀ JF : zA, 0 ≤ (lq T N (b (2 * (k : Int))) (tli (tS T N n b w k) (b (2 * (k : Int)))) (tst N (tS T N n b w k) (b (2 * (k : Int)))) j i z).2 → zK kT (zU (zU (zU A 21 2 (lq T N (b (2 * (k : Int))) (tli (tS T N n b w k) (b (2 * (k : Int)))) (tst N (tS T N n b w k) (b (2 * (k : Int)))) j i z).1) 21 3 (f + 1)) 21 4 (m + (lq T N (b (2 * (k : Int))) (tli (tS T N n b w k) (b (2 * (k : Int)))) (tst N (tS T N n b w k) (b (2 * (k : Int)))) j i z).2)) JF → P (some (zi 1)) JF M R) → (∀ JF : zA, (lq T N (b (2 * (k : Int))) (tli (tS T N n b w k) (b (2 * (k : Int)))) (tst N (tS T N n b w k) (b (2 * (k : Int)))) j i z).2 < 0 → zK kT (zU (zU (zU A 21 2 (lq T N (b (2 * (k : Int))) (tli (tS T N n b w k) (b (2 * (k : Int)))) (tst N (tS T N n b w k) (b (2 * (k : Int)))) j i z).1) 21 3 f) 21 4 m) JF → P (some (zi 0)) JF M R) → zW X (d + 6) 49 2 [some (.ref 21), some (zi (k : Int)), some (zi i), e3] [] J M R P := by
  have qn := zNn hN
  intro j
  induction j with
  | zero =>
    intro i z e3 J hJ hi h0 KT KF
    refine z_iload rfl rfl ?_
    refine z_aload rfl rfl ?_
    refine z_getR (r := 10) rfl rfl (hR _ rm_21_1) ?_
    refine z_getR (r := 15) rfl rfl (hR _ rm_10_5) ?_
    refine z_iload rfl rfl ?_
    refine z_iald (v := b (2 * (k : Int) + 1)) rfl rfl (by decide) (by omega) ((hJ 15 _ rfl).trans (hw k hkK).2.2.1) ?_
    refine z_icmp_geT rfl (by omega) (by omega) (by omega) ?_
    refine z_pushI (z := 0) rfl rfl ?_
    exact z_bret rfl rfl (by decide) (KF J (show (-1 : Int) < 0 by decide) hJ)
  | succ j ih =>
    intro i z e3 J hJ hi h0 KT KF
    have q8 := zu_8 (dz z)
    refine z_iload2 rfl ?_
    refine z_aload0 rfl ?_
    refine z_getR (r := 10) rfl gk_21 (hR _ rm_21_1) ?_
    refine z_getR (r := 15) rfl gk_10 (hR _ rm_10_5) ?_
    refine z_iload1 rfl ?_
    refine z_iald (v := b (2 * (k : Int) + 1)) rfl gk_15 (by decide) (by omega) ((hJ 15 _ rfl).trans (hw k hkK).2.2.1) ?_
    refine z_icmp_geF rfl (by omega) (by omega) (by omega) ?_
    refine z_aload0 rfl ?_
    refine z_getR (r := 10) rfl gk_21 (hR _ rm_21_1) ?_
    refine z_getR (r := 14) rfl gk_10 (hR _ rm_10_4) ?_
    refine z_iload1 rfl ?_
    refine z_iald (v := tst N (tS T N n b w k) (b (2 * (k : Int)))) rfl gk_14 (by decide) (by omega) ((hJ 14 _ rfl).trans (hw k hkK).2.1) ?_
    refine z_iload2 rfl ?_
    refine z_iadd (e := (tst N (tS T N n b w k) (b (2 * (k : Int)))) + i) rfl rfl ?_
    refine z_istore (ls1 := [some (.ref 21), some (zi (k : Int)), some (zi i), some (zi ((tst N (tS T N n b w k) (b (2 * (k : Int)))) + i))]) rfl rfl ?_
    refine z_aload0 rfl ?_
    refine z_cV0 rfl gk_21 go_46 (Nat.le_of_ble_eq_true rfl) gc_46_R ?_
    refine z_aload0 gi_46_0 ?_
    refine z_aload0 gi_46_1 ?_
    refine z_getI (v := z) gi_46_2 gk_21 (hJ 21 2 rfl) ?_
    refine z_pushJ gp_46_5 ?_
    refine z_imul (e := z * 1103515245) gi_46_7 rfl ?_
    refine z_pushJ gp_46_8 ?_
    refine z_iadd (e := z * 1103515245 + 12345) gi_46_11 rfl ?_
    refine z_top (y := dz z) rfl ?_
    refine z_putI (y := 2) gi_46_12 rfl gk_21 ?_
    refine z_vret gi_46_15 gr_46 ?_
    show zW _ _ _ _ _ _ _ _ _ _
    refine z_aload0 rfl ?_
    refine z_getI (v := dz z) rfl gk_21 (zU_e) ?_
    refine z_pushJ gp_49_35 ?_
    refine z_iushr (e := zushr (dz z) 8) rfl rfl ?_
    refine z_pushJ gp_49_38 ?_
    refine z_irem (e := (zushr (dz z) 8) % 12) rfl (by omega) (by omega) rfl ?_
    refine z_aload0 rfl ?_
    refine z_getR (r := 8) rfl gk_21 (hR _ rm_21_0) ?_
    refine z_aload0 rfl ?_
    refine z_getR (r := 10) rfl gk_21 (hR _ rm_21_1) ?_
    refine z_getR (r := 13) rfl gk_10 (hR _ rm_10_3) ?_
    refine z_iload1 rfl ?_
    refine z_iald (v := b (2 * (k : Int))) rfl gk_13 (by decide) (by omega) ((zU_n (by decide)).trans ((hJ 13 _ rfl).trans (hw k hkK).1)) ?_
    refine z_aload0 rfl ?_
    refine z_getR (r := 10) rfl gk_21 (hR _ rm_21_1) ?_
    refine z_getR (r := 16) rfl gk_10 (hR _ rm_10_6) ?_
    refine z_iload1 rfl ?_
    refine z_iald (v := tli (tS T N n b w k) (b (2 * (k : Int)))) rfl gk_16 (by decide) (by omega) ((zU_n (by decide)).trans ((hJ 16 _ rfl).trans (hw k hkK).2.2.2.1)) ?_
    refine z_iload2 rfl ?_
    refine z_iadd (e := (tli (tS T N n b w k) (b (2 * (k : Int)))) + i) rfl rfl ?_
    refine z_iload3 rfl ?_
    have hJz := zK_u (a := 21) (x := 2) (v := dz z) hJ
    rw [D_z] at hJz
    refine z_callVk (As := [_, _, _]) (v := tw T N (b (2 * (k : Int))) (tli (tS T N n b w k) (b (2 * (k : Int))) + i) (tst N (tS T N n b w k) (b (2 * (k : Int))) + i)) rfl rfl gk_8 (Nat.le_of_ble_eq_true rfl) (Nat.le_of_ble_eq_true rfl) (twelfths_k (A := (zU (zU (zU A 21 2 (dz z)) 21 3 f) 21 4 m)) (N := N) (n := n) hR hJz hA hz hN (LawC_D hT) hTr (by omega) (by omega) (by omega)) (fun J2 hJ2 => ?_)
    have qt := @tw_r T N (b (2 * (k : Int))) (tli (tS T N n b w k) (b (2 * (k : Int))) + i) (tst N (tS T N n b w k) (b (2 * (k : Int))) + i)
    refine z_icmp_ge rfl (by omega) (by omega) (fun h1 => ?_) (fun h1 => ?_)
    · refine z_iinc (c := 1) (e := i + 1) (ls1 := [some (.ref 21), some (zi (k : Int)), some (zi (i + 1)), some (zi ((tst N (tS T N n b w k) (b (2 * (k : Int)))) + i))]) rfl rfl rfl rfl rfl ?_
      refine z_goto rfl ?_
      show zW _ _ _ _ [some (.ref 21), some (zi (k : Int)), some (zi (i + 1)), some (zi ((tst N (tS T N n b w k) (b (2 * (k : Int)))) + i))] [] _ _ _ _
      have e := @lq_0 T N (b (2 * (k : Int))) (tli (tS T N n b w k) (b (2 * (k : Int)))) (tst N (tS T N n b w k) (b (2 * (k : Int)))) i z j (by omega)
      rw [e] at KT KF
      exact ih (i + 1) (dz z) (some (zi (tst N (tS T N n b w k) (b (2 * (k : Int))) + i))) J2 hJ2 (by omega) (by omega) KT KF
    · refine z_aload0 rfl ?_
      refine z_dup rfl rfl ?_
      refine z_getI (v := f) rfl gk_21 (hJ2 21 3 rfl) ?_
      refine z_pushJ gp_49_77 ?_
      refine z_iadd (e := f + 1) rfl rfl ?_
      refine z_putI (y := 3) rfl rfl gk_21 ?_
      refine z_aload0 rfl ?_
      refine z_dup rfl rfl ?_
      refine z_getI (v := m) rfl gk_21 ((zU_x (by decide)).trans (hJ2 21 4 rfl)) ?_
      refine z_iload3 rfl ?_
      refine z_iadd (e := m + ((tst N (tS T N n b w k) (b (2 * (k : Int)))) + i)) rfl rfl ?_
      refine z_putI (y := 4) rfl rfl gk_21 ?_
      refine z_pushJ gp_49_92 ?_
      refine z_bret1 rfl gr_49 ?_
      have e := @lq_1 T N (b (2 * (k : Int))) (tli (tS T N n b w k) (b (2 * (k : Int)))) (tst N (tS T N n b w k) (b (2 * (k : Int)))) i z j (by omega)
      rw [e] at KT
      have hF := zK_u (a := 21) (x := 4) (v := m + (tst N (tS T N n b w k) (b (2 * (k : Int))) + i)) (zK_u (a := 21) (x := 3) (v := f + 1) hJ2)
      rw [D_fm] at hF
      exact KT _ (show 0 ≤ tst N (tS T N n b w k) (b (2 * (k : Int))) + i by omega) hF
theorem thr_k {X : Nat × (Nat → Int32)} {d : Nat} {J M : zA} {R : zR} (hR : zRok R) {A : zA} {N : Int → Int → Int} {n : Int} (hA : cN A = N) (hz : A 8 2 = n) (hN : zNr n N) {T : zX} (hT : LawC X A R T) (hTr : Tok T) {b : Int → Int} {w : Int} {K : Nat} (hw : cTw A T N n b w K) (hK : K ≤ 30) {k : Nat} (hkK : k < K) (hp : 0 ≤ b (2 * (k : Int)) ∧ b (2 * (k : Int)) < n) (hq : 1 ≤ b (2 * (k : Int) + 1) ∧ b (2 * (k : Int) + 1) ≤ 99) (hm : 0 ≤ tst N (tS T N n b w k) (b (2 * (k : Int))) ∧ tst N (tS T N n b w k) (b (2 * (k : Int))) + b (2 * (k : Int) + 1) ≤ 999) (hl : 0 ≤ tli (tS T N n b w k) (b (2 * (k : Int))) ∧ tli (tS T N n b w k) (b (2 * (k : Int))) ≤ 3000) {z f m : Int} (hJ : zK kT (zU (zU (zU A 21 2 z) 21 3 f) 21 4 m) J) : zW X (d + 6) 49 0 (gEn 49 [(.ref 21), (zi (k : Int))]) [] J M R (fun r J2 M2 R2 => (r = some (zi 1) ∧ 0 ≤ (l2 T N n b w k z).2 ∧ zK kT (zU (zU (zU A 21 2 (l2 T N n b w k z).1) 21 3 (f + 1)) 21 4 (m + (l2 T N n b w k z).2)) J2 ∧ M2 = M ∧ R2 = R) ∨ (r = some (zi 0) ∧ (l2 T N n b w k z).2 < 0 ∧ zK kT (zU (zU (zU A 21 2 (l2 T N n b w k z).1) 21 3 f) 21 4 m) J2 ∧ M2 = M ∧ R2 = R)) := by
  show zW _ _ _ _ [some (.ref 21), some (zi (k : Int)), none, none] _ _ _ _ _
  refine z_pushJ gp_49_0 ?_
  refine z_istore (ls1 := [some (.ref 21), some (zi (k : Int)), some (zi 0), none]) rfl rfl ?_
  show zW _ _ _ _ [some (.ref 21), some (zi (k : Int)), some (zi 0), none] [] _ _ _ _
  exact thr_z hR hA hz hN hT hTr hw hK hkK hp hq hm hl (b (2 * (k : Int) + 1)).toNat 0 z none _ hJ (by omega) (by decide) (fun JF a b => Or.inl ⟨rfl, a, b, rfl, rfl⟩) (fun JF a b => Or.inr ⟨rfl, a, b, rfl, rfl⟩)
theorem seek_z {X : Nat × (Nat → Int32)} {d : Nat} {M : zA} {R : zR} {P : zP} (hR : zRok R) {A : zA} {N : Int → Int → Int} {n : Int} (hA : cN A = N) (hz : A 8 2 = n) (hN : zNr n N) {T : zX} (hT : LawC X A R T) (hTr : Tok T) {b : Int → Int} {w : Int} {K : Nat} (hw : cTw A T N n b w K) (hK : K ≤ 30) (hc8 : A 10 8 = (K : Int)) {z0 : Int} (hok : ∀ k, k < K → tOk T N n b w z0 k) {lies : Int} (hlies : -2 ≤ lies ∧ lies ≤ 8) {f m : Int} : ∀ (j k : Nat) (z : Int) (J : zA), zK kT (zU (zU (zU A 21 2 z) 21 3 f) 21 4 m) J → j + k = K → (∀ JF : zA, 0 ≤ (sk T N n b w lies j k z).2 → zK kT (zU (zU (zU A 21 2 (sk T N n b w lies j k z).1) 21 3 (f + 1)) 21 4 (m + (sk T N n b w lies j k z).2)) JF → P none JF M R) → (∀ JF : zA, ¬ 0 ≤ (sk T N n b w lies j k z).2 → zK kT (zU (zU (zU A 21 2 (sk T N n b w lies j k z).1) 21 3 f) 21 4 m) JF → P none JF M R) → zW X (d + 7) 48 4 [some (.ref 21), some (zi lies), some (zi 0), some (zi (k : Int))] [] J M R P := by
  have qn := zNn hN
  intro j
  induction j with
  | zero =>
    intro k z J hJ hk K1 K0
    refine z_iload rfl rfl ?_
    refine z_aload rfl rfl ?_
    refine z_getR (r := 10) rfl rfl (hR _ rm_21_1) ?_
    refine z_getI (v := (K : Int)) rfl rfl ((hJ 10 8 rfl).trans hc8) ?_
    refine z_icmp_geT rfl (by omega) (by omega) (by omega) ?_
    exact z_vret rfl rfl (K0 J (show ¬ (0 : Int) ≤ -1 by decide) hJ)
  | succ j ih =>
    intro k z J hJ hk K1 K0
    have hkK : k < K := by omega
    obtain ⟨-, hp, hq, ht⟩ := hok k hkK
    have i1 := (tS_r (w := w) (z := z0) hN k (fun i hi => hok i (by omega))).1
    have i2 := i1.2.2
    have i3 := i1.2.1 (b (2 * (k : Int)))
    have i4 := sWay_r hN (f := tat (tS T N n b w k)) (p := b (2 * (k : Int)))
    have i5 : tst N (tS T N n b w k) (b (2 * (k : Int))) = tmi (tS T N n b w k) + sWay N (tat (tS T N n b w k)) (b (2 * (k : Int))) := rfl
    have hm : 0 ≤ tst N (tS T N n b w k) (b (2 * (k : Int))) ∧ tst N (tS T N n b w k) (b (2 * (k : Int))) + b (2 * (k : Int) + 1) ≤ 999 := by omega
    have hl : 0 ≤ tli (tS T N n b w k) (b (2 * (k : Int))) ∧ tli (tS T N n b w k) (b (2 * (k : Int))) ≤ 3000 := by omega
    refine z_iload3 gi_48_4 ?_
    refine z_aload0 gi_48_5 ?_
    refine z_getR (r := 10) gi_48_6 gk_21 (hR _ rm_21_1) ?_
    refine z_getI (v := (K : Int)) gi_48_9 gk_10 ((hJ 10 8 rfl).trans hc8) ?_
    refine z_icmp_geF gi_48_12 (by omega) (by omega) (by omega) ?_
    refine z_iload2 gi_48_15 ?_
    refine z_if_neF gi_48_16 zr_0 (by decide) ?_
    refine z_aload0 rfl ?_
    refine z_getR (r := 10) rfl gk_21 (hR _ rm_21_1) ?_
    refine z_getR (r := 13) rfl gk_10 (hR _ rm_10_3) ?_
    refine z_iload3 rfl ?_
    refine z_iald (v := b (2 * (k : Int))) rfl gk_13 (by decide) (by omega) ((hJ 13 _ rfl).trans (hw k hkK).1) ?_
    refine z_iload1 rfl ?_
    refine z_icmp_ne rfl (by omega) (by omega) (fun h1 => ?_) (fun h1 => ?_)
    · refine z_iinc (c := 1) (e := (k : Int) + 1) (ls1 := [some (.ref 21), some (zi lies), some (zi 0), some (zi ((k : Int) + 1))]) gi_48_38 rfl rfl rfl rfl ?_
      refine z_goto gi_48_41 ?_
      show zW _ _ _ _ [some (.ref 21), some (zi lies), some (zi 0), some (zi ((k : Int) + 1))] [] _ _ _ _
      have e := @sk_n T N n b w lies j k z (by omega)
      rw [e] at K1 K0
      exact ih (k + 1) z J hJ (by omega) K1 K0
    · refine z_aload0 rfl ?_
      refine z_iload3 rfl ?_
      refine z_callV (As := [_]) _ rfl rfl rfl (Nat.le_of_ble_eq_true rfl) (Nat.le_of_ble_eq_true rfl) (thr_k (z := z) (f := f) (m := m) hR hA hz hN hT hTr hw hK hkK hp hq hm hl hJ) (fun r J2 M2 R2 hr => ?_)
      rcases hr with ⟨rfl, g, hJ2, rfl, rfl⟩ | ⟨rfl, g, hJ2, rfl, rfl⟩
      · show zW _ _ _ _ _ (_ :: _) _ _ _ _
        refine z_istore (ls1 := [some (.ref 21), some (zi lies), some (zi 1), some (zi (k : Int))]) gi_48_37 rfl ?_
        refine z_iinc (c := 1) (e := (k : Int) + 1) (ls1 := [some (.ref 21), some (zi lies), some (zi 1), some (zi ((k : Int) + 1))]) gi_48_38 rfl rfl rfl rfl ?_
        refine z_goto gi_48_41 ?_
        refine z_iload3 gi_48_4 ?_
        refine z_aload0 gi_48_5 ?_
        refine z_getR (r := 10) gi_48_6 gk_21 (hR _ rm_21_1) ?_
        refine z_getI (v := (K : Int)) gi_48_9 gk_10 ((hJ2 10 8 rfl).trans hc8) ?_
        refine z_icmp_ge gi_48_12 (by omega) (by omega) (fun h2 => ?_) (fun h2 => ?_)
        · refine z_vret gi_48_44 gr_48 ?_
          have e := @sk_1 T N n b w lies j k z (by omega) g
          rw [e] at K1
          exact K1 _ g hJ2
        · refine z_iload2 gi_48_15 ?_
          refine z_if_neT gi_48_16 zr_1 (by decide) ?_
          refine z_vret gi_48_44 gr_48 ?_
          have e := @sk_1 T N n b w lies j k z (by omega) g
          rw [e] at K1
          exact K1 _ g hJ2
      · show zW _ _ _ _ _ (_ :: _) _ _ _ _
        refine z_istore (ls1 := [some (.ref 21), some (zi lies), some (zi 0), some (zi (k : Int))]) gi_48_37 rfl ?_
        refine z_iinc (c := 1) (e := (k : Int) + 1) (ls1 := [some (.ref 21), some (zi lies), some (zi 0), some (zi ((k : Int) + 1))]) gi_48_38 rfl rfl rfl rfl ?_
        refine z_goto gi_48_41 ?_
        show zW _ _ _ _ [some (.ref 21), some (zi lies), some (zi 0), some (zi ((k : Int) + 1))] [] _ _ _ _
        have e := @sk_0 T N n b w lies j k z (by omega) (by omega)
        rw [e] at K1 K0
        exact ih (k + 1) _ J2 hJ2 (by omega) K1 K0
theorem seek_k {X : Nat × (Nat → Int32)} {d : Nat} {J M : zA} {R : zR} (hR : zRok R) {A : zA} {N : Int → Int → Int} {n : Int} (hA : cN A = N) (hz : A 8 2 = n) (hN : zNr n N) {T : zX} (hT : LawC X A R T) (hTr : Tok T) {b : Int → Int} {w : Int} {K : Nat} (hw : cTw A T N n b w K) (hK : K ≤ 30) (hc8 : A 10 8 = (K : Int)) {z0 : Int} (hok : ∀ k, k < K → tOk T N n b w z0 k) {lies : Int} (hlies : -2 ≤ lies ∧ lies ≤ 8) {z f m : Int} (hJ : zK kT (zU (zU (zU A 21 2 z) 21 3 f) 21 4 m) J) : zW X (d + 7) 48 0 (gEn 48 [(.ref 21), (zi lies)]) [] J M R (fun r J2 M2 R2 => r = none ∧ ((0 ≤ (sk T N n b w lies K 0 z).2 ∧ zK kT (zU (zU (zU A 21 2 (sk T N n b w lies K 0 z).1) 21 3 (f + 1)) 21 4 (m + (sk T N n b w lies K 0 z).2)) J2) ∨ (¬ 0 ≤ (sk T N n b w lies K 0 z).2 ∧ zK kT (zU (zU (zU A 21 2 (sk T N n b w lies K 0 z).1) 21 3 f) 21 4 m) J2)) ∧ M2 = M ∧ R2 = R) := by
  show zW _ _ _ _ [some (.ref 21), some (zi lies), none, none] _ _ _ _ _
  refine z_pushJ gp_48_0 ?_
  refine z_istore (ls1 := [some (.ref 21), some (zi lies), some (zi 0), none]) rfl rfl ?_
  refine z_pushJ gp_48_2 ?_
  refine z_istore (ls1 := [some (.ref 21), some (zi lies), some (zi 0), some (zi 0)]) rfl rfl ?_
  show zW _ _ _ _ [some (.ref 21), some (zi lies), some (zi 0), some (zi 0)] [] _ _ _ _
  exact seek_z hR hA hz hN hT hTr hw hK hc8 hok hlies K 0 z _ hJ (by omega) (fun JF a b => ⟨rfl, Or.inl ⟨a, b⟩, rfl, rfl⟩) (fun JF a b => ⟨rfl, Or.inr ⟨a, b⟩, rfl, rfl⟩)
theorem lyC_r {N : Int → Int → Int} {n z : Int} (hN : zNr n N) : -2 ≤ lyC N n z ∧ lyC N n z ≤ 8 := by
  have qn := zNn hN
  unfold lyC
  split
  · decide
  · rcases @ly_r N (-2) n.toNat 0 (zushr z 4 % sAll N n.toNat) with h | h <;> omega
theorem drawAll_z {X : Nat × (Nat → Int32)} {d : Nat} {M : zA} {R : zR} {P : zP} (hR : zRok R) {A : zA} {N : Int → Int → Int} {n : Int} (hA : cN A = N) (hz : A 8 2 = n) (hN : zNr n N) {T : zX} (hT : LawC X A R T) (hTr : Tok T) {b : Int → Int} {w : Int} {K : Nat} (hw : cTw A T N n b w K) (hK : K ≤ 30) (hc8 : A 10 8 = (K : Int)) {z0 : Int} (hok : ∀ k, k < K → tOk T N n b w z0 k) (hb : ∀ k : Nat, k < K → 0 ≤ b (2 * k)) {sd c : Int} (hc : 1 ≤ c ∧ c ≤ 30) : ∀ (j : Nat) (i : Int) (s : Int × Int × Int) (J : zA), zK kT (zU (zU (zU A 21 2 s.1) 21 3 s.2.1) 21 4 s.2.2) J → (i + j = c ∧ 0 ≤ i) → (∀ JF : zA, zK kT (zU (zU (zU A 21 2 (da T N n b w K j s).1) 21 3 (da T N n b w K j s).2.1) 21 4 (da T N n b w K j s).2.2) JF → P none JF M R) → zW X (d + 8) 45 17 [some (.ref 21), some (zi sd), some (zi c), some (zi i)] [] J M R P := by
  intro j
  induction j with
  | zero =>
    intro i s J hJ hi KK
    refine z_iload rfl rfl ?_
    refine z_iload rfl rfl ?_
    refine z_icmp_geT rfl (by omega) (by omega) (by omega) ?_
    exact z_vret rfl rfl (KK J hJ)
  | succ j ih =>
    intro i s J hJ hi KK
    refine z_iload3 rfl ?_
    refine z_iload2 rfl ?_
    refine z_icmp_geF rfl (by omega) (by omega) (by omega) ?_
    refine z_aload0 rfl ?_
    refine z_aload0 rfl ?_
    have hA3 : cN J = N := (cN_k hJ).trans hA
    have hz3 : J 8 2 = n := (hJ 8 2 rfl).trans hz
    refine z_callVx (As := []) (v := some (zi (lyC N n (dz s.1)))) rfl rfl rfl (Nat.le_of_ble_eq_true rfl) (Nat.le_of_ble_eq_true rfl) (drawPlace_k hR hA3 hz3 hN (hJ 21 2 rfl)) ?_
    have hJz := zK_u (a := 21) (x := 2) (v := dz s.1) hJ
    rw [D_z] at hJz
    show zW _ _ _ _ _ (_ :: _) _ _ _ _
    refine z_callV (As := [_]) _ rfl rfl rfl (Nat.le_of_ble_eq_true rfl) (Nat.le_of_ble_eq_true rfl) (seek_k (z := dz s.1) (f := s.2.1) (m := s.2.2) hR hA hz hN hT hTr hw hK hc8 hok (lyC_r hN) hJz) (fun r J2 M2 R2 hr => ?_)
    obtain ⟨rfl, hr3, rfl, rfl⟩ := hr
    have hd := @d1_C T N n b w K s.1 s.2.1 s.2.2 hN hb
    have hJ2 : zK kT (zU (zU (zU A 21 2 (d1 T N n b w K s).1) 21 3 (d1 T N n b w K s).2.1) 21 4 (d1 T N n b w K s).2.2) J2 := by
      rcases hr3 with ⟨g, h⟩ | ⟨g, h⟩
      · rw [show d1 T N n b w K s = _ from hd.1 g]; exact h
      · rw [show d1 T N n b w K s = _ from hd.2 g]; exact h
    show zW _ _ _ _ _ _ _ _ _ _
    refine z_iinc (c := 1) (e := i + 1) (ls1 := [some (.ref 21), some (zi sd), some (zi c), some (zi (i + 1))]) rfl rfl rfl rfl rfl ?_
    refine z_goto rfl ?_
    show zW _ _ _ _ [some (.ref 21), some (zi sd), some (zi c), some (zi (i + 1))] [] _ _ _ _
    exact ih (i + 1) (d1 T N n b w K s) J2 hJ2 (by omega) KK
theorem drawAll_k {X : Nat × (Nat → Int32)} {d : Nat} {J M : zA} {R : zR} (hR : zRok R) {A : zA} {N : Int → Int → Int} {n : Int} (hA : cN A = N) (hz : A 8 2 = n) (hN : zNr n N) {T : zX} (hT : LawC X A R T) (hTr : Tok T) {b : Int → Int} {w : Int} {K : Nat} (hw : cTw A T N n b w K) (hK : K ≤ 30) (hJ : zK kT A J) (hc8 : A 10 8 = (K : Int)) {z0 : Int} (hok : ∀ k, k < K → tOk T N n b w z0 k) (hb : ∀ k : Nat, k < K → 0 ≤ b (2 * k)) {sd c : Int} (hc : 1 ≤ c ∧ c ≤ 30) : zW X (d + 8) 45 0 (gEn 45 [(.ref 21), (zi sd), (zi c)]) [] J M R (fun r J2 M2 R2 => r = none ∧ zK kT (zU (zU (zU A 21 2 (da T N n b w K c.toNat (sd, 0, 0)).1) 21 3 (da T N n b w K c.toNat (sd, 0, 0)).2.1) 21 4 (da T N n b w K c.toNat (sd, 0, 0)).2.2) J2 ∧ M2 = M ∧ R2 = R) := by
  show zW _ _ _ _ [some (.ref 21), some (zi sd), some (zi c), none] _ _ _ _ _
  refine z_aload0 rfl ?_
  refine z_iload1 rfl ?_
  refine z_putI (y := 2) rfl rfl gk_21 ?_
  refine z_aload0 rfl ?_
  refine z_pushJ gp_45_6 ?_
  refine z_putI (y := 3) rfl rfl gk_21 ?_
  refine z_aload0 rfl ?_
  refine z_pushJ gp_45_11 ?_
  refine z_putI (y := 4) rfl rfl gk_21 ?_
  refine z_pushJ gp_45_15 ?_
  refine z_istore (ls1 := [some (.ref 21), some (zi sd), some (zi c), some (zi 0)]) rfl rfl ?_
  show zW _ _ _ _ [some (.ref 21), some (zi sd), some (zi c), some (zi 0)] [] _ _ _ _
  refine drawAll_z hR hA hz hN hT hTr hw hK hc8 hok hb hc c.toNat 0 (sd, 0, 0) _ ?_ (by omega) (fun JF h => ⟨rfl, h, rfl, rfl⟩)
  exact zK_u (a := 21) (x := 4) (v := 0) (zK_u (a := 21) (x := 3) (v := 0) (zK_u (a := 21) (x := 2) (v := sd) hJ))
