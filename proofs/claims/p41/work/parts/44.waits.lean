theorem going_x {X : Nat × (Nat → Int32)} {d : Nat} {J M : zA} {R : zR} {u x y : Int} {n : Nat} (hR : zRok R) (hn8 : 0 ≤ J 8 2 ∧ J 8 2 ≤ 8) (hb : bOk u (cN J 0 8) (cN J 0 9) (cN J 0 10)) (hn : n ≤ 20) : zW X (d + 5) 59 0 (gEn 59 [.ref 22, zi (n : Int), zi u]) [] (zU J 22 2 x) (zU M 22 1 y) R (zPx (some (zi (if bch u (cN J 0 8) (cN J 0 9) (cN J 0 10) n = 0 then 1 else 0))) (zU J 22 2 (bch u (cN J 0 8) (cN J 0 9) (cN J 0 10) n)) (zU M 22 1 (bz u (cN J 0 8) (cN J 0 9) (cN J 0 10) n).1) R) := by
  have h := @going_s X d (zU J 22 2 x) (zU M 22 1 y) R u n hR hn8 hb hn
  have e : cN (zU J 22 2 x) = cN J := rfl
  rw [e, zU_U, zU_U] at h
  exact h
theorem great_z {X : Nat × (Nat → Int32)} {d : Nat} {J M : zA} {R : zR} {P : zP} {n : Nat} (hR : zRok R) (hn8 : 0 ≤ J 8 2 ∧ J 8 2 ≤ 8) (hb : bOk 0 (cN J 0 8) (cN J 0 9) (cN J 0 10)) (hn1 : 1 ≤ n) (hn : n ≤ 20) (hP : ∀ x y v : Int, 0 ≤ v ∧ v ≤ 9999 → bch v (cN J 0 8) (cN J 0 9) (cN J 0 10) n = 0 → (∀ t : Int, v < t → t ≤ 9999 → ¬ bch t (cN J 0 8) (cN J 0 9) (cN J 0 10) n = 0) → P (some (zi v)) (zU J 22 2 x) (zU M 22 1 y) R) :
    ∀ (j : Nat) (x y i a b : Int) (e5 : Option Value), b - a < 2 ^ j → 0 ≤ i → i + j ≤ 20 → (0 ≤ a ∧ a ≤ b ∧ b ≤ 9999) → bch a (cN J 0 8) (cN J 0 9) (cN J 0 10) n = 0 → (∀ t : Int, b < t → t ≤ 9999 → ¬ bch t (cN J 0 8) (cN J 0 9) (cN J 0 10) n = 0) → zW X (d + 6) 58 21 [some (.ref 22), some (zi (n : Int)), some (zi a), some (zi b), some (zi i), e5] [] (zU J 22 2 x) (zU M 22 1 y) R P := by
  obtain ⟨-, g2, g3, g4⟩ := hb
  intro j
  induction j with
  | zero =>
    intro x y i a b e5 hd hi hj hab h0 hv
    have e : a = b := by omega
    subst e
    refine z_iload rfl rfl ?_
    refine z_pushI (z := 20) rfl rfl ?_
    refine z_icmp_ge rfl (by omega) (by decide) (fun h1 => ?_) (fun h1 => ?_)
    · refine z_iload rfl rfl ?_
      refine z_iret rfl rfl ?_
      exact hP x y a (by omega) h0 hv
    · refine z_iload rfl rfl ?_
      refine z_iload rfl rfl ?_
      refine z_icmp_geT rfl (by omega) (by omega) (by omega) ?_
      refine z_iload rfl rfl ?_
      refine z_iret rfl rfl ?_
      exact hP x y a (by omega) h0 hv
  | succ j ih =>
    intro x y i a b e5 hd hi hj hab h0 hv
    have hd2 : b - a < 2 * 2 ^ j := by rw [Int.pow_succ] at hd; omega
    refine z_iload4 rfl ?_
    refine z_pushJ gp_58_23 ?_
    refine z_icmp_ge rfl (by omega) zr_20 (fun h1 => ?_) (fun h1 => ?_)
    · refine z_iload2 gi_58_69 ?_
      refine z_iret gi_58_70 gr_58 ?_
      have e : a = b := by omega
      subst e
      exact hP x y a (by omega) h0 hv
    · refine z_iload2 rfl ?_
      refine z_iload3 rfl ?_
      refine z_icmp_ge rfl (by omega) (by omega) (fun h2 => ?_) (fun h2 => ?_)
      · refine z_iload2 gi_58_69 ?_
        refine z_iret gi_58_70 gr_58 ?_
        have e : a = b := by omega
        subst e
        exact hP x y a (by omega) h0 hv
      · refine z_iload2 rfl ?_
        refine z_iload3 rfl ?_
        refine z_iadd (e := a + b) rfl rfl ?_
        refine z_pushJ gp_58_36 ?_
        refine z_iadd (e := a + b + 1) rfl rfl ?_
        refine z_pushJ gp_58_38 ?_
        refine z_idiv (e := (a + b + 1) / 2) rfl (by omega) (by omega) rfl ?_
        refine z_istore (ls1 := [some (.ref 22), some (zi (n : Int)), some (zi a), some (zi b), some (zi i), some (zi ((a + b + 1) / 2))]) rfl rfl ?_
        refine z_aload0 rfl ?_
        refine z_iload1 rfl ?_
        refine z_iload5 rfl ?_
        refine z_callVx (As := [_, _]) rfl rfl gk_22 (Nat.le_of_ble_eq_true rfl) (Nat.le_of_ble_eq_true rfl) (going_x hR hn8 ⟨by omega, g2, g3, g4⟩ hn) ?_
        show zW _ _ _ _ _ (_ :: _) _ _ _ _
        refine z_if_eq rfl (by omega) (fun h3 => ?_) (fun h3 => ?_)
        · refine z_iload5 rfl ?_
          refine z_pushJ gp_58_60 ?_
          refine z_isub (e := (a + b + 1) / 2 - 1) rfl rfl ?_
          refine z_istore (ls1 := [some (.ref 22), some (zi (n : Int)), some (zi a), some (zi ((a + b + 1) / 2 - 1)), some (zi i), some (zi ((a + b + 1) / 2))]) rfl rfl ?_
          refine z_iinc (c := 1) (e := i + 1) (ls1 := [some (.ref 22), some (zi (n : Int)), some (zi a), some (zi ((a + b + 1) / 2 - 1)), some (zi (i + 1)), some (zi ((a + b + 1) / 2))]) gi_58_63 rfl rfl rfl rfl ?_
          refine z_goto gi_58_66 ?_
          show zW _ _ _ _ [some (.ref 22), some (zi (n : Int)), some (zi a), some (zi ((a + b + 1) / 2 - 1)), some (zi (i + 1)), some (zi ((a + b + 1) / 2))] [] _ _ _ _
          refine ih _ _ (i + 1) (a) ((a + b + 1) / 2 - 1) _ (by omega) (by omega) (by omega) (by omega) h0 (fun v v1 v2 v3 => ?_)
          have := bch_mono (u := (a + b + 1) / 2) (v := v) ⟨by omega, g2, g3, g4⟩ (by omega) hn1 v3
          omega
        · refine z_iload5 rfl ?_
          refine z_istore (ls1 := [some (.ref 22), some (zi (n : Int)), some (zi ((a + b + 1) / 2)), some (zi b), some (zi i), some (zi ((a + b + 1) / 2))]) rfl rfl ?_
          refine z_goto rfl ?_
          refine z_iinc (c := 1) (e := i + 1) (ls1 := [some (.ref 22), some (zi (n : Int)), some (zi ((a + b + 1) / 2)), some (zi b), some (zi (i + 1)), some (zi ((a + b + 1) / 2))]) gi_58_63 rfl rfl rfl rfl ?_
          refine z_goto gi_58_66 ?_
          show zW _ _ _ _ [some (.ref 22), some (zi (n : Int)), some (zi ((a + b + 1) / 2)), some (zi b), some (zi (i + 1)), some (zi ((a + b + 1) / 2))] [] _ _ _ _
          exact ih _ _ (i + 1) ((a + b + 1) / 2) (b) _ (by omega) (by omega) (by omega) (by omega) (by omega) hv
noncomputable def wzz (s q l : Int) (n : Nat) : Int := wz s q l n 9999
theorem wzz_is {s q l : Int} {n : Nat} {v : Int} (hv : 0 ≤ v ∧ v ≤ 9999) (h0 : bch v s q l n = 0) (h : ∀ t : Int, v < t → t ≤ 9999 → ¬ bch t s q l n = 0) : wzz s q l n = v := by
  obtain ⟨r, rfl⟩ : ∃ r : Nat, v = r := ⟨v.toNat, by omega⟩
  have e := wz_is h0 (9999 - r) (fun t a b => h t (by omega) (by omega))
  rw [show r + (9999 - r) = 9999 by omega] at e
  exact e
theorem wzz_no {s q l : Int} {n : Nat} (h : ∀ t : Int, 0 ≤ t → t ≤ 9999 → ¬ bch t s q l n = 0) : wzz s q l n = -2 := wz_no 9999 (fun v a => h v (by omega) (by omega))
theorem c3_r {g a b : Int} : 0 ≤ c3 g a b ∧ c3 g a b ≤ 2 := by unfold c3; split <;> split <;> omega
/-- the reference's rows of years, as far as they are worked out -/
noncomputable def zY (M : zA) (u s q l k : Int) : zA := fun x y => if x = 73 then (if 0 ≤ y ∧ y ≤ k then (bz u s q l y.toNat).1 else M 73 y) else if x = 74 then (if 0 ≤ y ∧ y ≤ k then (bz u s q l y.toNat).2 else M 74 y) else M x y
theorem zY_a {M : zA} {u s q l k y : Int} : zY M u s q l k 73 y = if 0 ≤ y ∧ y ≤ k then (bz u s q l y.toNat).1 else M 73 y := by unfold zY; rw [if_pos rfl]
theorem zY_b {M : zA} {u s q l k y : Int} : zY M u s q l k 74 y = if 0 ≤ y ∧ y ≤ k then (bz u s q l y.toNat).2 else M 74 y := by unfold zY; rw [if_neg (by decide), if_pos rfl]
theorem zY_c {M : zA} {u s q l k y : Int} {x : Nat} (h1 : x ≠ 73) (h2 : x ≠ 74) : zY M u s q l k x y = M x y := by unfold zY; rw [if_neg h1, if_neg h2]
theorem zY_0 {M : zA} {u s q l : Int} : zU (zU M 73 0 0) 74 0 0 = zY M u s q l 0 := by
  funext x y
  by_cases h1 : x = 73
  · subst h1
    rw [zU_n (by decide), zU_i, zY_a]
    by_cases h2 : y = 0
    · subst h2; rfl
    · rw [if_neg h2, if_neg (by omega)]
  · by_cases h3 : x = 74
    · subst h3
      rw [zU_i, zU_n (by decide), zY_b]
      by_cases h2 : y = 0
      · subst h2; rfl
      · rw [if_neg h2, if_neg (by omega)]
    · rw [zU_n h3, zU_n h1, zY_c h1 h3]
theorem zY_s {M : zA} {u s q l c w : Int} {k : Nat} (hw : (bz u s q l (k + 1)).2 = w) (hc : (bz u s q l (k + 1)).1 = c) : zU (zU (zY M u s q l k) 74 ((k : Int) + 1) w) 73 ((k : Int) + 1) c = zY M u s q l ((k + 1 : Nat) : Int) := by
  subst hw hc
  funext x y
  by_cases h1 : x = 73
  · subst h1
    rw [zU_i, zU_n (by decide), zY_a, zY_a]
    by_cases h2 : y = (k : Int) + 1
    · rw [if_pos h2, if_pos (by omega), show y.toNat = k + 1 by omega]
    · rw [if_neg h2]
      by_cases h4 : 0 ≤ y ∧ y ≤ (k : Int)
      · rw [if_pos h4, if_pos (by omega)]
      · rw [if_neg h4, if_neg (by omega)]
  · by_cases h3 : x = 74
    · subst h3
      rw [zU_n (by decide), zU_i, zY_b, zY_b]
      by_cases h2 : y = (k : Int) + 1
      · rw [if_pos h2, if_pos (by omega), show y.toNat = k + 1 by omega]
      · rw [if_neg h2]
        by_cases h4 : 0 ≤ y ∧ y ≤ (k : Int)
        · rw [if_pos h4, if_pos (by omega)]
        · rw [if_neg h4, if_neg (by omega)]
    · rw [zU_n h1, zU_n h3, zY_c h1 h3, zY_c h1 h3]
theorem zY_Y {M : zA} {u v s q l : Int} : zY (zY M u s q l 20) v s q l 20 = zY M v s q l 20 := by
  funext x y
  by_cases h1 : x = 73
  · subst h1
    rw [zY_a, zY_a, zY_a]
    by_cases h4 : 0 ≤ y ∧ y ≤ 20
    · rw [if_pos h4, if_pos h4]
    · rw [if_neg h4, if_neg h4, if_neg h4]
  · by_cases h3 : x = 74
    · subst h3
      rw [zY_b, zY_b, zY_b]
      by_cases h4 : 0 ≤ y ∧ y ≤ 20
      · rw [if_pos h4, if_pos h4]
      · rw [if_neg h4, if_neg h4, if_neg h4]
    · rw [zY_c h1 h3, zY_c h1 h3, zY_c h1 h3]
theorem zY_1 {M : zA} {u s q l y : Int} {k j : Nat} (h : y = j) (hj : j ≤ k) : zY M u s q l k 73 y = (bz u s q l j).1 := by
  subst h
  unfold zY
  rw [if_pos rfl, if_pos (by omega)]
  rfl
theorem zY_2 {M : zA} {u s q l y : Int} {k j : Nat} (h : y = j) (hj : j ≤ k) : zY M u s q l k 74 y = (bz u s q l j).2 := by
  subst h
  unfold zY
  rw [if_neg (by decide), if_pos rfl, if_pos (by omega)]
  rfl
theorem great_s {X : Nat × (Nat → Int32)} {d : Nat} {J M : zA} {R : zR} {n : Nat} (hR : zRok R) (hn8 : 0 ≤ J 8 2 ∧ J 8 2 ≤ 8) (hb : bOk 0 (cN J 0 8) (cN J 0 9) (cN J 0 10)) (hn1 : 1 ≤ n) (hn : n ≤ 20) : zW X (d + 6) 58 0 (gEn 58 [(.ref 22), (zi (n : Int))]) [] J M R (fun r J2 M2 R2 => r = some (zi (wzz (cN J 0 8) (cN J 0 9) (cN J 0 10) n)) ∧ (∃ x y : Int, J2 = zU J 22 2 x ∧ M2 = zU M 22 1 y) ∧ R2 = R) := by
  show zW _ _ _ _ [some (.ref 22), some (zi (n : Int)), none, none, none, none] _ _ _ _ _
  refine z_aload0 rfl ?_
  refine z_iload1 rfl ?_
  refine z_pushJ gp_58_2 ?_
  refine z_callVx (As := [_, _]) rfl rfl gk_22 (Nat.le_of_ble_eq_true rfl) (Nat.le_of_ble_eq_true rfl) (going_s hR hn8 hb hn) ?_
  show zW _ _ _ _ _ (_ :: _) _ _ _ _
  refine z_if_ne rfl (by omega) (fun h1 => ?_) (fun h1 => ?_)
  · refine z_pushJ gp_58_12 ?_
    refine z_istore (ls1 := [some (.ref 22), some (zi (n : Int)), some (zi 0), none, none, none]) rfl rfl ?_
    refine z_pushJ gp_58_14 ?_
    refine z_istore (ls1 := [some (.ref 22), some (zi (n : Int)), some (zi 0), some (zi 9999), none, none]) rfl rfl ?_
    refine z_pushJ gp_58_18 ?_
    refine z_istore (ls1 := [some (.ref 22), some (zi (n : Int)), some (zi 0), some (zi 9999), some (zi 0), none]) rfl rfl ?_
    show zW _ _ _ _ [some (.ref 22), some (zi (n : Int)), some (zi 0), some (zi 9999), some (zi 0), none] [] _ _ _ _
    refine great_z hR hn8 hb hn1 hn (fun x y v v1 v2 v3 => ?_) 14 _ _ 0 0 9999 _ (by decide) (by decide) (by decide) (by decide) (by omega) (fun t t1 t2 => by omega)
    exact ⟨congrArg (fun v => some (zi v)) (wzz_is v1 v2 v3).symm, ⟨x, y, rfl, rfl⟩, rfl⟩
  · refine z_pushJ gp_58_9 ?_
    refine z_iret rfl gr_58 ?_
    refine ⟨congrArg (fun v => some (zi v)) (wzz_no (fun t t1 t2 t3 => ?_)).symm, ⟨_, _, rfl, rfl⟩, rfl⟩
    have := bch_mono (u := 0) (v := t) hb t1 hn1 t3
    omega
theorem done_s {X : Nat × (Nat → Int32)} {d : Nat} {J M : zA} {R : zR} {n u s q c w t : Int} (hR : zRoR R) (hn : 1 ≤ n ∧ n ≤ 20) (e6 : J 56 6 = u) (e3 : J 56 3 = s) (e4 : J 56 4 = q) (hb : (0 ≤ u ∧ u ≤ 9999) ∧ (0 ≤ s ∧ s ≤ 9999) ∧ (0 ≤ q ∧ q ≤ 9999)) (hc : M 73 (n - 1) = c) (hw : M 74 n = w) (hc2 : 0 ≤ c ∧ c ≤ 200000000) (hw2 : 0 ≤ w ∧ w ≤ 200000000) (ht : c3 (1000 * u + c) (1000 * s + w) (1000 * q + w) = t) : zW X (d + 2) 212 0 (gEn 212 [(.ref 50), (zi n)]) [] J M R (zPx (some (zi t)) J M R) := by
  show zW _ _ _ _ [some (.ref 50), some (zi n), none, none, none, none, none, none] _ _ _ _ _
  refine z_pushL (z := 1000) rfl rfl ?_
  refine z_aload0 rfl ?_
  refine z_getR (r := 56) rfl gk_50 (hR _ rm_50_7 (by decide)) ?_
  refine z_pushJ gp_212_7 ?_
  refine z_iald (v := u) rfl gk_56 (by decide) (by decide) (e6) ?_
  refine z_i2l rfl (by omega) ?_
  refine z_lmul (e := 1000 * u) rfl rfl ?_
  refine z_aload0 rfl ?_
  refine z_getR (r := 73) rfl gk_50 (hR _ rm_50_39 (by decide)) ?_
  refine z_iload1 rfl ?_
  refine z_pushJ gp_212_17 ?_
  refine z_isub (e := n - 1) rfl rfl ?_
  refine z_lald (v := c) rfl gk_73 (by decide) (by omega) (hc) ?_
  refine z_ladd (e := 1000 * u + c) rfl rfl ?_
  refine z_lstore (ls1 := [some (.ref 50), some (zi n), some (zl (1000 * u + c)), none, none, none, none, none]) rfl rfl ?_
  refine z_aload0 rfl ?_
  refine z_iload1 rfl ?_
  refine z_aload0 rfl ?_
  refine z_getR (r := 56) rfl gk_50 (hR _ rm_50_7 (by decide)) ?_
  refine z_pushJ gp_212_28 ?_
  refine z_iald (v := s) rfl gk_56 (by decide) (by decide) (e3) ?_
  refine z_cV2 rfl gk_50 go_211 (Nat.le_of_ble_eq_true rfl) gc_211_RII ?_
  refine z_pushL (z := 1000) gi_211_0 rfl ?_
  refine z_iload2 gi_211_3 ?_
  refine z_i2l gi_211_4 (by omega) ?_
  refine z_lmul (e := 1000 * s) gi_211_5 rfl ?_
  refine z_aload0 gi_211_6 ?_
  refine z_getR (r := 74) gi_211_7 gk_50 (hR _ rm_50_40 (by decide)) ?_
  refine z_iload1 gi_211_10 ?_
  refine z_lald (v := w) gi_211_11 gk_74 (by decide) (by omega) (hw) ?_
  refine z_ladd (e := 1000 * s + w) gi_211_12 rfl ?_
  refine z_lret gi_211_13 gr_211 ?_
  show zW _ _ _ _ _ _ _ _ _ _
  refine z_lstore (ls1 := [some (.ref 50), some (zi n), some (zl (1000 * u + c)), none, some (zl (1000 * s + w)), none, none, none]) rfl rfl ?_
  refine z_aload0 rfl ?_
  refine z_iload1 rfl ?_
  refine z_aload0 rfl ?_
  refine z_getR (r := 56) rfl gk_50 (hR _ rm_50_7 (by decide)) ?_
  refine z_pushJ gp_212_41 ?_
  refine z_iald (v := q) rfl gk_56 (by decide) (by decide) (e4) ?_
  refine z_cV2 rfl gk_50 go_211 (Nat.le_of_ble_eq_true rfl) gc_211_RII ?_
  refine z_pushL (z := 1000) gi_211_0 rfl ?_
  refine z_iload2 gi_211_3 ?_
  refine z_i2l gi_211_4 (by omega) ?_
  refine z_lmul (e := 1000 * q) gi_211_5 rfl ?_
  refine z_aload0 gi_211_6 ?_
  refine z_getR (r := 74) gi_211_7 gk_50 (hR _ rm_50_40 (by decide)) ?_
  refine z_iload1 gi_211_10 ?_
  refine z_lald (v := w) gi_211_11 gk_74 (by decide) (by omega) (hw) ?_
  refine z_ladd (e := 1000 * q + w) gi_211_12 rfl ?_
  refine z_lret gi_211_13 gr_211 ?_
  show zW _ _ _ _ _ _ _ _ _ _
  refine z_lstore (ls1 := [some (.ref 50), some (zi n), some (zl (1000 * u + c)), none, some (zl (1000 * s + w)), none, some (zl (1000 * q + w)), none]) rfl rfl ?_
  refine z_lload2 rfl ?_
  refine z_lload4 rfl ?_
  refine z_lcmp_gt rfl rfl (by omega) (by omega) (fun h1 => ?_) (fun h1 => ?_)
  · refine z_lload4 gi_212_64 ?_
    refine z_lload6 gi_212_66 ?_
    refine z_lcmp_gt gi_212_68 gi_212_69 (by omega) (by omega) (fun h2 => ?_) (fun h2 => ?_)
    · refine z_pushJ gp_212_76 ?_
      refine z_iret gi_212_77 gr_212 ?_
      refine ⟨congrArg (fun v => some (zi v)) ?_, rfl, rfl, rfl⟩
      rw [← ht]
      unfold c3
      (repeat' split) <;> omega
    · refine z_pushJ gp_212_72 ?_
      refine z_goto gi_212_73 ?_
      refine z_iret gi_212_77 gr_212 ?_
      refine ⟨congrArg (fun v => some (zi v)) ?_, rfl, rfl, rfl⟩
      rw [← ht]
      unfold c3
      (repeat' split) <;> omega
  · refine z_lload2 rfl ?_
    refine z_lload6 rfl ?_
    refine z_lcmp_gt rfl rfl (by omega) (by omega) (fun h3 => ?_) (fun h3 => ?_)
    · refine z_lload4 gi_212_64 ?_
      refine z_lload6 gi_212_66 ?_
      refine z_lcmp_gt gi_212_68 gi_212_69 (by omega) (by omega) (fun h4 => ?_) (fun h4 => ?_)
      · refine z_pushJ gp_212_76 ?_
        refine z_iret gi_212_77 gr_212 ?_
        refine ⟨congrArg (fun v => some (zi v)) ?_, rfl, rfl, rfl⟩
        rw [← ht]
        unfold c3
        (repeat' split) <;> omega
      · refine z_pushJ gp_212_72 ?_
        refine z_goto gi_212_73 ?_
        refine z_iret gi_212_77 gr_212 ?_
        refine ⟨congrArg (fun v => some (zi v)) ?_, rfl, rfl, rfl⟩
        rw [← ht]
        unfold c3
        (repeat' split) <;> omega
    · refine z_pushJ gp_212_62 ?_
      refine z_iret rfl gr_212 ?_
      refine ⟨congrArg (fun v => some (zi v)) ?_, rfl, rfl, rfl⟩
      rw [← ht]
      unfold c3
      (repeat' split) <;> omega
theorem years_z {X : Nat × (Nat → Int32)} {d : Nat} {J M : zA} {R : zR} {P : zP} {u s q l : Int} (hR : zRoR R) (hb : bOk u s q l) (e6 : J 56 6 = u) (e3 : J 56 3 = s) (e4 : J 56 4 = q) (e5 : J 56 5 = l) (hP : P none J (zY M u s q l 20) R) :
    ∀ (j k : Nat) (e2 : Option Value), k + j = 20 → zW X (d + 3) 213 16 [some (.ref 50), some (zi ((k : Int) + 1)), e2] [] J (zY M u s q l (k : Int)) R P := by
  have hb0 := hb
  obtain ⟨g1, g2, g3, g4⟩ := hb
  intro j
  induction j with
  | zero =>
    intro k e2 hk
    obtain rfl : k = 20 := by omega
    refine z_iload (x := Int32.ofInt ((20 : Nat) + 1)) rfl rfl ?_
    refine z_pushI (z := 20) rfl rfl ?_
    refine z_icmp_gtT rfl (by decide) (by decide) (by decide) ?_
    exact z_vret rfl rfl hP
  | succ j ih =>
    intro k e2 hk
    have r := bz_le hb0 k
    have m := b_mul hb0 r.1 r.2
    obtain ⟨t, ht⟩ : ∃ t, c3 (1000 * u + (bz u s q l k).1) (1000 * s + ((l * (bz u s q l k).1 + (12 - l) * (bz u s q l k).2) / 12)) (1000 * q + ((l * (bz u s q l k).1 + (12 - l) * (bz u s q l k).2) / 12)) = t := ⟨_, rfl⟩
    have rt : 0 ≤ t ∧ t ≤ 2 := ht ▸ c3_r
    refine z_iload1 rfl ?_
    refine z_pushJ gp_213_17 ?_
    refine z_icmp_gt rfl (by omega) zr_20 (fun h1 => ?_) (fun h1 => ?_)
    · refine z_vret rfl gr_213 ?_
      exfalso
      omega
    · refine z_aload0 rfl ?_
      refine z_getR (r := 74) rfl gk_50 (hR _ rm_50_40 (by decide)) ?_
      refine z_iload1 rfl ?_
      refine z_aload0 rfl ?_
      refine z_getR (r := 56) rfl gk_50 (hR _ rm_50_7 (by decide)) ?_
      refine z_pushJ gp_213_31 ?_
      refine z_iald (v := l) rfl gk_56 (by decide) (by decide) (e5) ?_
      refine z_i2l rfl (by omega) ?_
      refine z_aload0 rfl ?_
      refine z_getR (r := 73) rfl gk_50 (hR _ rm_50_39 (by decide)) ?_
      refine z_iload1 rfl ?_
      refine z_pushJ gp_213_39 ?_
      refine z_isub (e := (k : Int) + 1 - 1) rfl rfl ?_
      refine z_lald (v := (bz u s q l k).1) rfl gk_73 (by decide) (by omega) (zY_1 (by omega) (Nat.le_refl k)) ?_
      refine z_lmul (e := l * ((bz u s q l k).1)) rfl rfl ?_
      refine z_pushJ gp_213_43 ?_
      refine z_aload0 rfl ?_
      refine z_getR (r := 56) rfl gk_50 (hR _ rm_50_7 (by decide)) ?_
      refine z_pushJ gp_213_49 ?_
      refine z_iald (v := l) rfl gk_56 (by decide) (by decide) (e5) ?_
      refine z_isub (e := 12 - l) rfl rfl ?_
      refine z_i2l rfl (by omega) ?_
      refine z_aload0 rfl ?_
      refine z_getR (r := 74) rfl gk_50 (hR _ rm_50_40 (by decide)) ?_
      refine z_iload1 rfl ?_
      refine z_pushJ gp_213_58 ?_
      refine z_isub (e := (k : Int) + 1 - 1) rfl rfl ?_
      refine z_lald (v := (bz u s q l k).2) rfl gk_74 (by decide) (by omega) (zY_2 (by omega) (Nat.le_refl k)) ?_
      refine z_lmul (e := (12 - l) * ((bz u s q l k).2)) rfl rfl ?_
      refine z_ladd (e := l * ((bz u s q l k).1) + (12 - l) * ((bz u s q l k).2)) rfl rfl ?_
      refine z_pushL (z := 12) rfl rfl ?_
      refine z_ldiv (e := (l * ((bz u s q l k).1) + (12 - l) * ((bz u s q l k).2)) / 12) rfl (by omega) (by omega) rfl ?_
      refine z_last (e := (l * ((bz u s q l k).1) + (12 - l) * ((bz u s q l k).2)) / 12) rfl gk_74 (by decide) (by omega) rfl ?_
      refine z_aload0 rfl ?_
      refine z_iload1 rfl ?_
      refine z_callVx (As := [_]) rfl rfl gk_50 (Nat.le_of_ble_eq_true rfl) (Nat.le_of_ble_eq_true rfl) (done_s hR (by omega) e6 e3 e4 ⟨g1, g2, g3⟩ ((zU_n (by decide)).trans (zY_1 (by omega) (Nat.le_refl k))) zU_e (by omega) (by omega) ht) ?_
      show zW _ _ _ _ _ (_ :: _) _ _ _ _
      refine z_istore (ls1 := [some (.ref 50), some (zi ((k : Int) + 1)), some (zi t)]) rfl rfl ?_
      refine z_aload0 rfl ?_
      refine z_getR (r := 73) rfl gk_50 (hR _ rm_50_39 (by decide)) ?_
      refine z_iload1 rfl ?_
      refine z_iload2 rfl ?_
      refine z_if_ne rfl (by omega) (fun h2 => ?_) (fun h2 => ?_)
      · refine z_aload0 rfl ?_
        refine z_iload1 rfl ?_
        refine z_iload2 rfl ?_
        refine z_pushJ gp_213_110 ?_
        refine z_icmp_ne rfl (by omega) zr_1 (fun h3 => ?_) (fun h3 => ?_)
        · refine z_aload0 rfl ?_
          refine z_getR (r := 56) rfl gk_50 (hR _ rm_50_7 (by decide)) ?_
          refine z_pushJ gp_213_127 ?_
          refine z_iald (v := q) rfl gk_56 (by decide) (by decide) (e4) ?_
          refine z_cV2 gi_213_129 gk_50 go_211 (Nat.le_of_ble_eq_true rfl) gc_211_RII ?_
          refine z_pushL (z := 1000) gi_211_0 rfl ?_
          refine z_iload2 gi_211_3 ?_
          refine z_i2l gi_211_4 (by omega) ?_
          refine z_lmul (e := 1000 * q) gi_211_5 rfl ?_
          refine z_aload0 gi_211_6 ?_
          refine z_getR (r := 74) gi_211_7 gk_50 (hR _ rm_50_40 (by decide)) ?_
          refine z_iload1 gi_211_10 ?_
          refine z_lald (v := (l * ((bz u s q l k).1) + (12 - l) * ((bz u s q l k).2)) / 12) gi_211_11 gk_74 (by decide) (by omega) (zU_e) ?_
          refine z_ladd (e := 1000 * q + (l * ((bz u s q l k).1) + (12 - l) * ((bz u s q l k).2)) / 12) gi_211_12 rfl ?_
          refine z_lret gi_211_13 gr_211 ?_
          show zW _ _ _ _ _ _ _ _ _ _
          refine z_last (e := 1000 * q + (l * ((bz u s q l k).1) + (12 - l) * ((bz u s q l k).2)) / 12) gi_213_132 gk_73 (by decide) (by omega) rfl ?_
          refine z_iinc (c := 1) (e := (k : Int) + 1 + 1) (ls1 := [some (.ref 50), some (zi ((k : Int) + 1 + 1)), some (zi t)]) gi_213_133 rfl rfl rfl rfl ?_
          refine z_goto gi_213_136 ?_
          show zW _ _ _ _ [some (.ref 50), some (zi ((k : Int) + 1 + 1)), some (zi t)] [] _ _ _ _
          have hb9 : b3 (1000 * u + (bz u s q l k).1) (1000 * s + ((l * (bz u s q l k).1 + (12 - l) * (bz u s q l k).2) / 12)) (1000 * q + ((l * (bz u s q l k).1 + (12 - l) * (bz u s q l k).2) / 12)) = 1000 * q + (l * ((bz u s q l k).1) + (12 - l) * ((bz u s q l k).2)) / 12 := by
            unfold b3
            unfold c3 at ht
            split at ht <;> split at ht <;> (repeat' split) <;> omega
          rw [zY_s bz_2 (bz_1.trans hb9)]
          exact ih (k + 1) (some (zi t)) (by omega)
        · refine z_aload0 rfl ?_
          refine z_getR (r := 56) rfl gk_50 (hR _ rm_50_7 (by decide)) ?_
          refine z_pushJ gp_213_118 ?_
          refine z_iald (v := s) rfl gk_56 (by decide) (by decide) (e3) ?_
          refine z_goto rfl ?_
          refine z_cV2 gi_213_129 gk_50 go_211 (Nat.le_of_ble_eq_true rfl) gc_211_RII ?_
          refine z_pushL (z := 1000) gi_211_0 rfl ?_
          refine z_iload2 gi_211_3 ?_
          refine z_i2l gi_211_4 (by omega) ?_
          refine z_lmul (e := 1000 * s) gi_211_5 rfl ?_
          refine z_aload0 gi_211_6 ?_
          refine z_getR (r := 74) gi_211_7 gk_50 (hR _ rm_50_40 (by decide)) ?_
          refine z_iload1 gi_211_10 ?_
          refine z_lald (v := (l * ((bz u s q l k).1) + (12 - l) * ((bz u s q l k).2)) / 12) gi_211_11 gk_74 (by decide) (by omega) (zU_e) ?_
          refine z_ladd (e := 1000 * s + (l * ((bz u s q l k).1) + (12 - l) * ((bz u s q l k).2)) / 12) gi_211_12 rfl ?_
          refine z_lret gi_211_13 gr_211 ?_
          show zW _ _ _ _ _ _ _ _ _ _
          refine z_last (e := 1000 * s + (l * ((bz u s q l k).1) + (12 - l) * ((bz u s q l k).2)) / 12) gi_213_132 gk_73 (by decide) (by omega) rfl ?_
          refine z_iinc (c := 1) (e := (k : Int) + 1 + 1) (ls1 := [some (.ref 50), some (zi ((k : Int) + 1 + 1)), some (zi t)]) gi_213_133 rfl rfl rfl rfl ?_
          refine z_goto gi_213_136 ?_
          show zW _ _ _ _ [some (.ref 50), some (zi ((k : Int) + 1 + 1)), some (zi t)] [] _ _ _ _
          have hb9 : b3 (1000 * u + (bz u s q l k).1) (1000 * s + ((l * (bz u s q l k).1 + (12 - l) * (bz u s q l k).2) / 12)) (1000 * q + ((l * (bz u s q l k).1 + (12 - l) * (bz u s q l k).2) / 12)) = 1000 * s + (l * ((bz u s q l k).1) + (12 - l) * ((bz u s q l k).2)) / 12 := by
            unfold b3
            unfold c3 at ht
            split at ht <;> split at ht <;> (repeat' split) <;> omega
          rw [zY_s bz_2 (bz_1.trans hb9)]
          exact ih (k + 1) (some (zi t)) (by omega)
      · refine z_pushL (z := 1000) rfl rfl ?_
        refine z_aload0 rfl ?_
        refine z_getR (r := 56) rfl gk_50 (hR _ rm_50_7 (by decide)) ?_
        refine z_pushJ gp_213_90 ?_
        refine z_iald (v := u) rfl gk_56 (by decide) (by decide) (e6) ?_
        refine z_i2l rfl (by omega) ?_
        refine z_lmul (e := 1000 * u) rfl rfl ?_
        refine z_aload0 rfl ?_
        refine z_getR (r := 73) rfl gk_50 (hR _ rm_50_39 (by decide)) ?_
        refine z_iload1 rfl ?_
        refine z_pushJ gp_213_100 ?_
        refine z_isub (e := (k : Int) + 1 - 1) rfl rfl ?_
        refine z_lald (v := (bz u s q l k).1) rfl gk_73 (by decide) (by omega) ((zU_n (by decide)).trans (zY_1 (by omega) (Nat.le_refl k))) ?_
        refine z_ladd (e := 1000 * u + ((bz u s q l k).1)) rfl rfl ?_
        refine z_goto rfl ?_
        refine z_last (e := 1000 * u + ((bz u s q l k).1)) gi_213_132 gk_73 (by decide) (by omega) rfl ?_
        refine z_iinc (c := 1) (e := (k : Int) + 1 + 1) (ls1 := [some (.ref 50), some (zi ((k : Int) + 1 + 1)), some (zi t)]) gi_213_133 rfl rfl rfl rfl ?_
        refine z_goto gi_213_136 ?_
        show zW _ _ _ _ [some (.ref 50), some (zi ((k : Int) + 1 + 1)), some (zi t)] [] _ _ _ _
        have hb9 : b3 (1000 * u + (bz u s q l k).1) (1000 * s + ((l * (bz u s q l k).1 + (12 - l) * (bz u s q l k).2) / 12)) (1000 * q + ((l * (bz u s q l k).1 + (12 - l) * (bz u s q l k).2) / 12)) = 1000 * u + ((bz u s q l k).1) := by
          unfold b3
          unfold c3 at ht
          split at ht <;> split at ht <;> (repeat' split) <;> omega
        rw [zY_s bz_2 (bz_1.trans hb9)]
        exact ih (k + 1) (some (zi t)) (by omega)
theorem years_s {X : Nat × (Nat → Int32)} {d : Nat} {J M : zA} {R : zR} {u s q l : Int} (hR : zRoR R) (hb : bOk u s q l) (e6 : J 56 6 = u) (e3 : J 56 3 = s) (e4 : J 56 4 = q) (e5 : J 56 5 = l) : zW X (d + 3) 213 0 (gEn 213 [(.ref 50)]) [] J M R (zPx none J (zY M u s q l 20) R) := by
  show zW _ _ _ _ [some (.ref 50), none, none] _ _ _ _ _
  refine z_aload0 rfl ?_
  refine z_getR (r := 73) rfl gk_50 (hR _ rm_50_39 (by decide)) ?_
  refine z_pushJ gp_213_4 ?_
  refine z_pushL (z := 0) rfl rfl ?_
  refine z_last (e := 0) rfl gk_73 (by decide) (by decide) rfl ?_
  refine z_aload0 rfl ?_
  refine z_getR (r := 74) rfl gk_50 (hR _ rm_50_40 (by decide)) ?_
  refine z_pushJ gp_213_11 ?_
  refine z_pushL (z := 0) rfl rfl ?_
  refine z_last (e := 0) rfl gk_74 (by decide) (by decide) rfl ?_
  refine z_pushJ gp_213_14 ?_
  refine z_istore (ls1 := [some (.ref 50), some (zi 1), none]) rfl rfl ?_
  show zW _ _ _ _ [some (.ref 50), some (zi 1), none] [] _ _ _ _
  rw [zY_0]
  exact years_z hR hb e6 e3 e4 e5 ⟨rfl, rfl, rfl, rfl⟩ 20 0 _ (by omega)
noncomputable def fbuy (u s q l n w : Int) : Int := if 0 ≤ n ∧ n ≤ 20 ∧ (w = 0 ∨ w = 1) then (if w = 0 then (bz u s q l n.toNat).1 else bch u s q l n.toNat) else -1
noncomputable def fwaits (s q l n : Int) : Int := if 1 ≤ n ∧ n ≤ 20 then wzz s q l n.toNat else -1
theorem zU_same {J : zA} {a : Nat} {x : Int} : zU J a x (J a x) = J := zU_id rfl
theorem plan_n {X : Nat × (Nat → Int32)} {d : Nat} {J M : zA} {R : zR} {u n : Int} (hR : zRok R) (hn8 : 0 ≤ J 8 2 ∧ J 8 2 ≤ 8) (hb : bOk u (cN J 0 8) (cN J 0 9) (cN J 0 10)) (hn : 0 ≤ n ∧ n ≤ 20) : zW X (d + 4) 56 0 (gEn 56 [.ref 22, zi n, zi u]) [] J M R (zPx none (zU J 22 2 (bch u (cN J 0 8) (cN J 0 9) (cN J 0 10) n.toNat)) (zU M 22 1 (bz u (cN J 0 8) (cN J 0 9) (cN J 0 10) n.toNat).1) R) := by
  have h := @plan_s X d J M R u n.toNat hR hn8 hb (by omega)
  rw [show ((n.toNat : Nat) : Int) = n by omega] at h
  exact h
theorem great_n {X : Nat × (Nat → Int32)} {d : Nat} {J M : zA} {R : zR} {n : Int} (hR : zRok R) (hn8 : 0 ≤ J 8 2 ∧ J 8 2 ≤ 8) (hb : bOk 0 (cN J 0 8) (cN J 0 9) (cN J 0 10)) (hn : 1 ≤ n ∧ n ≤ 20) : zW X (d + 6) 58 0 (gEn 58 [.ref 22, zi n]) [] J M R (fun r J2 M2 R2 => r = some (zi (wzz (cN J 0 8) (cN J 0 9) (cN J 0 10) n.toNat)) ∧ (∃ x y : Int, J2 = zU J 22 2 x ∧ M2 = zU M 22 1 y) ∧ R2 = R) := by
  have h := @great_s X d J M R n.toNat hR hn8 hb (by omega) (by omega)
  rw [show ((n.toNat : Nat) : Int) = n by omega] at h
  exact h
theorem buy_c {X : Nat × (Nat → Int32)} {d : Nat} {J M : zA} {R : zR} {n w : Int} (hR : zRok R) (hn8 : 0 ≤ J 8 2 ∧ J 8 2 ≤ 8) (hb : bOk (cN J 0 11) (cN J 0 8) (cN J 0 9) (cN J 0 10)) (hn : -2147483648 ≤ n ∧ n < 2147483648) (hw : -2147483648 ≤ w ∧ w < 2147483648) : zW X (d + 6) 118 0 (gEn 118 [(.ref 0), (zi n), (zi w)]) [] J M R (fun r J2 M2 R2 => r = some (zi (fbuy (cN J 0 11) (cN J 0 8) (cN J 0 9) (cN J 0 10) n w)) ∧ (∃ x y : Int, J2 = zU J 22 2 x ∧ M2 = zU M 22 1 y) ∧ R2 = R) := by
  have b1 := @bch_r (cN J 0 11) (cN J 0 8) (cN J 0 9) (cN J 0 10) n.toNat
  have hb2 := hb
  obtain ⟨g1, g2, g3, g4⟩ := hb2
  show zW _ _ _ _ [some (.ref 0), some (zi n), some (zi w)] _ _ _ _ _
  refine z_iload1 rfl ?_
  refine z_if_lt rfl (by omega) (fun h1 => ?_) (fun h1 => ?_)
  · refine z_pushJ gp_118_17 ?_
    refine z_iret gi_118_18 gr_118 ?_
    refine ⟨congrArg (fun v => some (zi v)) ?_, ⟨_, _, zU_same.symm, zU_same.symm⟩, rfl⟩
    unfold fbuy
    rw [if_neg (by omega)]
  · refine z_iload1 rfl ?_
    refine z_pushJ gp_118_5 ?_
    refine z_icmp_gt rfl (by omega) zr_20 (fun h2 => ?_) (fun h2 => ?_)
    · refine z_pushJ gp_118_17 ?_
      refine z_iret gi_118_18 gr_118 ?_
      refine ⟨congrArg (fun v => some (zi v)) ?_, ⟨_, _, zU_same.symm, zU_same.symm⟩, rfl⟩
      unfold fbuy
      rw [if_neg (by omega)]
    · refine z_iload2 rfl ?_
      refine z_cS1 rfl (Nat.le_of_ble_eq_true rfl) gc_146_I ?_
      refine z_iload0 gi_146_0 ?_
      refine z_if_eq gi_146_1 (by omega) (fun h3 => ?_) (fun h3 => ?_)
      · refine z_pushJ gp_146_9 ?_
        refine z_goto gi_146_10 ?_
        refine z_bret1 gi_146_14 gr_146 ?_
        show zW _ _ _ _ _ _ _ _ _ _
        refine z_if_neT gi_118_14 zr_1 (by decide) ?_
        refine z_aload0 gi_118_19 ?_
        refine z_getR (r := 22) gi_118_20 gk_0 (hR _ rm_0_5) ?_
        refine z_iload1 gi_118_23 ?_
        refine z_aload0 gi_118_24 ?_
        refine z_getR (r := 8) gi_118_25 gk_0 (hR _ rm_0_1) ?_
        refine z_pushJ gp_118_28 ?_
        refine z_pushJ gp_118_29 ?_
        refine z_callVP (As := [_, _]) (v := cN J 0 11) gi_118_31 rfl gk_8 (Nat.le_of_ble_eq_true rfl) (Nat.le_of_ble_eq_true rfl) (told_s hR (by omega) (by decide) (by decide)) ?_
        refine z_callVx (As := [_, _]) gi_118_34 rfl gk_22 (Nat.le_of_ble_eq_true rfl) (Nat.le_of_ble_eq_true rfl) (plan_n hR hn8 hb (by omega)) ?_
        show zW _ _ _ _ _ _ _ _ _ _
        refine z_iload2 gi_118_37 ?_
        refine z_if_ne gi_118_38 (by omega) (fun h4 => ?_) (fun h4 => ?_)
        · refine z_aload0 gi_118_52 ?_
          refine z_getR (r := 22) gi_118_53 gk_0 (hR _ rm_0_5) ?_
          refine z_getI (v := bch (cN J 0 11) (cN J 0 8) (cN J 0 9) (cN J 0 10) n.toNat) gi_118_56 gk_22 (zU_e) ?_
          refine z_iret gi_118_59 gr_118 ?_
          refine ⟨congrArg (fun v => some (zi v)) ?_, ⟨_, _, rfl, rfl⟩, rfl⟩
          unfold fbuy
          rw [if_pos (by omega), if_neg (by omega)]
        · refine z_aload0 gi_118_41 ?_
          refine z_getR (r := 22) gi_118_42 gk_0 (hR _ rm_0_5) ?_
          refine z_getL (v := (bz (cN J 0 11) (cN J 0 8) (cN J 0 9) (cN J 0 10) n.toNat).1) gi_118_45 gk_22 (zU_e) ?_
          refine z_l2i gi_118_48 ?_
          refine z_goto gi_118_49 ?_
          refine z_iret gi_118_59 gr_118 ?_
          refine ⟨congrArg (fun v => some (zi v)) ?_, ⟨_, _, rfl, rfl⟩, rfl⟩
          unfold fbuy
          rw [if_pos (by omega), if_pos (by omega)]
      · refine z_iload0 gi_146_4 ?_
        refine z_pushJ gp_146_5 ?_
        refine z_icmp_ne gi_146_6 (by omega) zr_1 (fun h5 => ?_) (fun h5 => ?_)
        · refine z_pushJ gp_146_13 ?_
          refine z_bret0 gi_146_14 gr_146 ?_
          show zW _ _ _ _ _ _ _ _ _ _
          refine z_if_neF gi_118_14 zr_0 (by decide) ?_
          refine z_pushJ gp_118_17 ?_
          refine z_iret gi_118_18 gr_118 ?_
          refine ⟨congrArg (fun v => some (zi v)) ?_, ⟨_, _, zU_same.symm, zU_same.symm⟩, rfl⟩
          unfold fbuy
          rw [if_neg (by omega)]
        · refine z_pushJ gp_146_9 ?_
          refine z_goto gi_146_10 ?_
          refine z_bret1 gi_146_14 gr_146 ?_
          show zW _ _ _ _ _ _ _ _ _ _
          refine z_if_neT gi_118_14 zr_1 (by decide) ?_
          refine z_aload0 gi_118_19 ?_
          refine z_getR (r := 22) gi_118_20 gk_0 (hR _ rm_0_5) ?_
          refine z_iload1 gi_118_23 ?_
          refine z_aload0 gi_118_24 ?_
          refine z_getR (r := 8) gi_118_25 gk_0 (hR _ rm_0_1) ?_
          refine z_pushJ gp_118_28 ?_
          refine z_pushJ gp_118_29 ?_
          refine z_callVP (As := [_, _]) (v := cN J 0 11) gi_118_31 rfl gk_8 (Nat.le_of_ble_eq_true rfl) (Nat.le_of_ble_eq_true rfl) (told_s hR (by omega) (by decide) (by decide)) ?_
          refine z_callVx (As := [_, _]) gi_118_34 rfl gk_22 (Nat.le_of_ble_eq_true rfl) (Nat.le_of_ble_eq_true rfl) (plan_n hR hn8 hb (by omega)) ?_
          show zW _ _ _ _ _ _ _ _ _ _
          refine z_iload2 gi_118_37 ?_
          refine z_if_ne gi_118_38 (by omega) (fun h6 => ?_) (fun h6 => ?_)
          · refine z_aload0 gi_118_52 ?_
            refine z_getR (r := 22) gi_118_53 gk_0 (hR _ rm_0_5) ?_
            refine z_getI (v := bch (cN J 0 11) (cN J 0 8) (cN J 0 9) (cN J 0 10) n.toNat) gi_118_56 gk_22 (zU_e) ?_
            refine z_iret gi_118_59 gr_118 ?_
            refine ⟨congrArg (fun v => some (zi v)) ?_, ⟨_, _, rfl, rfl⟩, rfl⟩
            unfold fbuy
            rw [if_pos (by omega), if_neg (by omega)]
          · refine z_aload0 gi_118_41 ?_
            refine z_getR (r := 22) gi_118_42 gk_0 (hR _ rm_0_5) ?_
            refine z_getL (v := (bz (cN J 0 11) (cN J 0 8) (cN J 0 9) (cN J 0 10) n.toNat).1) gi_118_45 gk_22 (zU_e) ?_
            refine z_l2i gi_118_48 ?_
            refine z_goto gi_118_49 ?_
            refine z_iret gi_118_59 gr_118 ?_
            refine ⟨congrArg (fun v => some (zi v)) ?_, ⟨_, _, rfl, rfl⟩, rfl⟩
            unfold fbuy
            rw [if_pos (by omega), if_pos (by omega)]
theorem waits_c {X : Nat × (Nat → Int32)} {d : Nat} {J M : zA} {R : zR} {n : Int} (hR : zRok R) (hn8 : 0 ≤ J 8 2 ∧ J 8 2 ≤ 8) (hb : bOk 0 (cN J 0 8) (cN J 0 9) (cN J 0 10)) (hn : -2147483648 ≤ n ∧ n < 2147483648) : zW X (d + 7) 119 0 (gEn 119 [(.ref 0), (zi n)]) [] J M R (fun r J2 M2 R2 => r = some (zi (fwaits (cN J 0 8) (cN J 0 9) (cN J 0 10) n)) ∧ (∃ x y : Int, J2 = zU J 22 2 x ∧ M2 = zU M 22 1 y) ∧ R2 = R) := by
  show zW _ _ _ _ [some (.ref 0), some (zi n)] _ _ _ _ _
  refine z_iload1 rfl ?_
  refine z_pushJ gp_119_1 ?_
  refine z_icmp_lt rfl (by omega) zr_1 (fun h1 => ?_) (fun h1 => ?_)
  · refine z_pushJ gp_119_11 ?_
    refine z_iret gi_119_12 gr_119 ?_
    refine ⟨congrArg (fun v => some (zi v)) ?_, ⟨_, _, zU_same.symm, zU_same.symm⟩, rfl⟩
    unfold fwaits
    rw [if_neg (by omega)]
  · refine z_iload1 rfl ?_
    refine z_pushJ gp_119_6 ?_
    refine z_icmp_le rfl (by omega) zr_20 (fun h2 => ?_) (fun h2 => ?_)
    · refine z_aload0 rfl ?_
      refine z_getR (r := 22) rfl gk_0 (hR _ rm_0_5) ?_
      refine z_iload1 rfl ?_
      refine z_callV (As := [_]) _ rfl rfl gk_22 (Nat.le_of_ble_eq_true rfl) (Nat.le_of_ble_eq_true rfl) (great_n hR hn8 hb (by omega)) (fun r J2 M2 R2 hr => ?_)
      obtain ⟨rfl, hJM, rfl⟩ := hr
      show zW _ _ _ _ _ (_ :: _) _ _ _ _
      refine z_iret rfl gr_119 ?_
      refine ⟨congrArg (fun v => some (zi v)) ?_, hJM, rfl⟩
      unfold fwaits
      rw [if_pos (by omega)]
    · refine z_pushJ gp_119_11 ?_
      refine z_iret gi_119_12 gr_119 ?_
      refine ⟨congrArg (fun v => some (zi v)) ?_, ⟨_, _, zU_same.symm, zU_same.symm⟩, rfl⟩
      unfold fwaits
      rw [if_neg (by omega)]
theorem buy_r {X : Nat × (Nat → Int32)} {d : Nat} {J M : zA} {R : zR} {n w : Int} (hR : zRoR R) (hb : bOk (J 56 6) (J 56 3) (J 56 4) (J 56 5)) (hn : -2147483648 ≤ n ∧ n < 2147483648) (hw : -2147483648 ≤ w ∧ w < 2147483648) : zW X (d + 5) 214 0 (gEn 214 [(.ref 50), (zi n), (zi w)]) [] J M R (fun r J2 M2 R2 => r = some (zi (fbuy (J 56 6) (J 56 3) (J 56 4) (J 56 5) n w)) ∧ J2 = J ∧ (∀ x, x ≠ 73 → x ≠ 74 → M2 x = M x) ∧ R2 = R) := by
  have r1 := bz_le hb (n.toNat - 1)
  have r2 := bz_le hb (n.toNat - 1 + 1)
  have b1 := @bch_r (J 56 6) (J 56 3) (J 56 4) (J 56 5) n.toNat
  have hb2 := hb
  obtain ⟨g1, g2, g3, g4⟩ := hb2
  show zW _ _ _ _ [some (.ref 50), some (zi n), some (zi w)] _ _ _ _ _
  refine z_iload1 rfl ?_
  refine z_pushJ gp_214_1 ?_
  refine z_pushJ gp_214_2 ?_
  refine z_cS3 rfl (Nat.le_of_ble_eq_true rfl) gc_148_III ?_
  refine z_iload0 gi_148_0 ?_
  refine z_iload1 gi_148_1 ?_
  refine z_icmp_lt gi_148_2 (by omega) zr_0 (fun h1 => ?_) (fun h1 => ?_)
  · refine z_pushJ gp_148_14 ?_
    refine z_bret0 gi_148_15 gr_148 ?_
    show zW _ _ _ _ _ _ _ _ _ _
    refine z_if_eqT gi_214_7 zr_0 (by decide) ?_
    refine z_pushJ gp_214_19 ?_
    refine z_iret gi_214_20 gr_214 ?_
    refine ⟨congrArg (fun v => some (zi v)) ?_, rfl, fun x h1 h2 => rfl, rfl⟩
    unfold fbuy
    rw [if_neg (by omega)]
  · refine z_iload0 gi_148_5 ?_
    refine z_iload2 gi_148_6 ?_
    refine z_icmp_gt gi_148_7 (by omega) zr_20 (fun h2 => ?_) (fun h2 => ?_)
    · refine z_pushJ gp_148_14 ?_
      refine z_bret0 gi_148_15 gr_148 ?_
      show zW _ _ _ _ _ _ _ _ _ _
      refine z_if_eqT gi_214_7 zr_0 (by decide) ?_
      refine z_pushJ gp_214_19 ?_
      refine z_iret gi_214_20 gr_214 ?_
      refine ⟨congrArg (fun v => some (zi v)) ?_, rfl, fun x h1 h2 => rfl, rfl⟩
      unfold fbuy
      rw [if_neg (by omega)]
    · refine z_pushJ gp_148_10 ?_
      refine z_goto gi_148_11 ?_
      refine z_bret1 gi_148_15 gr_148 ?_
      show zW _ _ _ _ _ _ _ _ _ _
      refine z_if_eqF gi_214_7 zr_1 (by decide) ?_
      refine z_iload2 rfl ?_
      refine z_pushJ gp_214_11 ?_
      refine z_pushJ gp_214_12 ?_
      refine z_cS3 rfl (Nat.le_of_ble_eq_true rfl) gc_148_III ?_
      refine z_iload0 gi_148_0 ?_
      refine z_iload1 gi_148_1 ?_
      refine z_icmp_lt gi_148_2 (by omega) zr_0 (fun h3 => ?_) (fun h3 => ?_)
      · refine z_pushJ gp_148_14 ?_
        refine z_bret0 gi_148_15 gr_148 ?_
        show zW _ _ _ _ _ _ _ _ _ _
        refine z_if_neF gi_214_16 zr_0 (by decide) ?_
        refine z_pushJ gp_214_19 ?_
        refine z_iret gi_214_20 gr_214 ?_
        refine ⟨congrArg (fun v => some (zi v)) ?_, rfl, fun x h1 h2 => rfl, rfl⟩
        unfold fbuy
        rw [if_neg (by omega)]
      · refine z_iload0 gi_148_5 ?_
        refine z_iload2 gi_148_6 ?_
        refine z_icmp_gt gi_148_7 (by omega) zr_1 (fun h4 => ?_) (fun h4 => ?_)
        · refine z_pushJ gp_148_14 ?_
          refine z_bret0 gi_148_15 gr_148 ?_
          show zW _ _ _ _ _ _ _ _ _ _
          refine z_if_neF gi_214_16 zr_0 (by decide) ?_
          refine z_pushJ gp_214_19 ?_
          refine z_iret gi_214_20 gr_214 ?_
          refine ⟨congrArg (fun v => some (zi v)) ?_, rfl, fun x h1 h2 => rfl, rfl⟩
          unfold fbuy
          rw [if_neg (by omega)]
        · refine z_pushJ gp_148_10 ?_
          refine z_goto gi_148_11 ?_
          refine z_bret1 gi_148_15 gr_148 ?_
          show zW _ _ _ _ _ _ _ _ _ _
          refine z_if_neT gi_214_16 zr_1 (by decide) ?_
          refine z_aload0 rfl ?_
          refine z_callVx (As := []) rfl rfl gk_50 (Nat.le_of_ble_eq_true rfl) (Nat.le_of_ble_eq_true rfl) (years_s hR hb rfl rfl rfl rfl) ?_
          show zW _ _ _ _ _ _ _ _ _ _
          refine z_iload2 rfl ?_
          refine z_if_ne rfl (by omega) (fun h5 => ?_) (fun h5 => ?_)
          · refine z_iload1 rfl ?_
            refine z_if_ne rfl (by omega) (fun h6 => ?_) (fun h6 => ?_)
            · refine z_aload0 rfl ?_
              refine z_iload1 rfl ?_
              refine z_callVx (As := [_]) rfl rfl gk_50 (Nat.le_of_ble_eq_true rfl) (Nat.le_of_ble_eq_true rfl) (done_s hR (by omega) rfl rfl rfl ⟨g1, g2, g3⟩ (zY_1 (k := 20) (j := n.toNat - 1) (by omega) (by omega)) (zY_2 (k := 20) (j := n.toNat - 1 + 1) (by omega) (by omega)) (by omega) (by omega) (bch_1.symm.trans (congrArg _ (by omega : n.toNat - 1 + 1 = n.toNat)))) ?_
              show zW _ _ _ _ _ (_ :: _) _ _ _ _
              refine z_iret gi_214_52 gr_214 ?_
              refine ⟨congrArg (fun v => some (zi v)) ?_, rfl, fun x h1 h2 => funext fun y => zY_c h1 h2, rfl⟩
              unfold fbuy
              rw [if_pos (by omega), if_neg (by omega)]
            · refine z_pushJ gp_214_43 ?_
              refine z_goto rfl ?_
              refine z_iret gi_214_52 gr_214 ?_
              refine ⟨congrArg (fun v => some (zi v)) ?_, rfl, fun x h1 h2 => funext fun y => zY_c h1 h2, rfl⟩
              unfold fbuy
              rw [if_pos (by omega), if_neg (by omega), show n = 0 by omega]
              rfl
          · refine z_aload0 rfl ?_
            refine z_getR (r := 73) rfl gk_50 (hR _ rm_50_39 (by decide)) ?_
            refine z_iload1 rfl ?_
            refine z_lald (v := (bz (J 56 6) (J 56 3) (J 56 4) (J 56 5) n.toNat).1) rfl gk_73 (by decide) (by omega) (zY_1 (k := 20) (by omega) (by omega)) ?_
            refine z_l2i rfl ?_
            refine z_goto rfl ?_
            refine z_iret gi_214_52 gr_214 ?_
            refine ⟨congrArg (fun v => some (zi v)) ?_, rfl, fun x h1 h2 => funext fun y => zY_c h1 h2, rfl⟩
            unfold fbuy
            rw [if_pos (by omega), if_pos (by omega)]
theorem years_w {X : Nat × (Nat → Int32)} {d : Nat} {J M : zA} {R : zR} {x v : Int} (hR : zRoR R) (hb : bOk 0 (J 56 3) (J 56 4) (J 56 5)) (hv : 0 ≤ v ∧ v ≤ 9999) : zW X (d + 3) 213 0 (gEn 213 [.ref 50]) [] (zU (zU J 56 6 x) 56 6 v) M R (zPx none (zU (zU J 56 6 x) 56 6 v) (zY M v (J 56 3) (J 56 4) (J 56 5) 20) R) := years_s hR ⟨hv, hb.2⟩ zU_e ((zU_x (by decide)).trans (zU_x (by decide))) ((zU_x (by decide)).trans (zU_x (by decide))) ((zU_x (by decide)).trans (zU_x (by decide)))
theorem done_w {X : Nat × (Nat → Int32)} {d : Nat} {J M : zA} {R : zR} {x v n : Int} (hR : zRoR R) (hb : bOk 0 (J 56 3) (J 56 4) (J 56 5)) (hv : 0 ≤ v ∧ v ≤ 9999) (hn : 1 ≤ n ∧ n ≤ 20) : zW X (d + 2) 212 0 (gEn 212 [.ref 50, zi n]) [] (zU (zU J 56 6 x) 56 6 v) (zY M v (J 56 3) (J 56 4) (J 56 5) 20) R (zPx (some (zi (bch v (J 56 3) (J 56 4) (J 56 5) n.toNat))) (zU (zU J 56 6 x) 56 6 v) (zY M v (J 56 3) (J 56 4) (J 56 5) 20) R) := by
  have hb2 : bOk v (J 56 3) (J 56 4) (J 56 5) := ⟨hv, hb.2⟩
  have r1 := bz_le hb2 (n.toNat - 1)
  have r2 := bz_le hb2 (n.toNat - 1 + 1)
  exact done_s hR hn zU_e ((zU_x (by decide)).trans (zU_x (by decide))) ((zU_x (by decide)).trans (zU_x (by decide))) ⟨hv, hb.2.1, hb.2.2.1⟩ (zY_1 (k := 20) (j := n.toNat - 1) (by omega) (by omega)) (zY_2 (k := 20) (j := n.toNat - 1 + 1) (by omega) (by omega)) (by omega) (by omega) (bch_1.symm.trans (congrArg _ (by omega : n.toNat - 1 + 1 = n.toNat)))
theorem waits_z {X : Nat × (Nat → Int32)} {d : Nat} {J M : zA} {R : zR} {P : zP} {n : Int} (hR : zRoR R) (hb1 : bOk 0 (J 56 3) (J 56 4) (J 56 5)) (hw : -2147483648 ≤ J 56 6 ∧ J 56 6 < 2147483648) (hn : 1 ≤ n ∧ n ≤ 20) (hP : ∀ M2, (∀ x, x ≠ 73 → x ≠ 74 → M2 x = M x) → P (some (zi (wzz (J 56 3) (J 56 4) (J 56 5) n.toNat))) J M2 R) :
    ∀ (j : Nat) (v x : Int) (M2 : zA), (∀ x, x ≠ 73 → x ≠ 74 → M2 x = M x) → v + 1 = j → v ≤ 9999 → (∀ t : Int, v < t → t ≤ 9999 → ¬ bch t (J 56 3) (J 56 4) (J 56 5) n.toNat = 0) → zW X (d + 4) 215 28 [some (.ref 50), some (zi n), some (zi (J 56 6)), some (zi (-2)), some (zi v)] [] (zU J 56 6 x) M2 R P := by
  intro j
  induction j with
  | zero =>
    intro v x M2 hM hj h9 hv
    refine z_iload rfl rfl ?_
    refine z_if_ltT rfl (by omega) (by omega) ?_
    refine z_aload rfl rfl ?_
    refine z_getR (r := 56) rfl rfl (hR _ rm_50_7 (by decide)) ?_
    refine z_pushI (z := 6) rfl rfl ?_
    refine z_iload rfl rfl ?_
    refine z_iast (e := J 56 6) rfl rfl (by decide) (by decide) rfl ?_
    refine z_iload rfl rfl ?_
    refine z_iret rfl rfl ?_
    rw [zU_U, zU_id rfl, ← wzz_no (fun t t1 t2 => hv t (by omega) t2)]
    exact hP _ hM
  | succ j ih =>
    intro v x M2 hM hj h9 hv
    have b1 := @bch_r v (J 56 3) (J 56 4) (J 56 5) n.toNat
    refine z_iload4 gi_215_28 ?_
    refine z_if_ltF gi_215_30 (by omega) (by omega) ?_
    refine z_iload3 gi_215_33 ?_
    refine z_if_geF gi_215_34 zrn_2 (by decide) ?_
    refine z_aload0 rfl ?_
    refine z_getR (r := 56) rfl gk_50 (hR _ rm_50_7 (by decide)) ?_
    refine z_pushJ gp_215_41 ?_
    refine z_iload4 rfl ?_
    refine z_iast (e := v) rfl gk_56 (by decide) (by decide) rfl ?_
    refine z_aload0 rfl ?_
    refine z_callVx (As := []) rfl rfl gk_50 (Nat.le_of_ble_eq_true rfl) (Nat.le_of_ble_eq_true rfl) (years_w hR hb1 (by omega)) ?_
    show zW _ _ _ _ _ _ _ _ _ _
    refine z_aload0 rfl ?_
    refine z_iload1 rfl ?_
    refine z_callVx (As := [_]) rfl rfl gk_50 (Nat.le_of_ble_eq_true rfl) (Nat.le_of_ble_eq_true rfl) (done_w hR hb1 (by omega) hn) ?_
    show zW _ _ _ _ _ (_ :: _) _ _ _ _
    refine z_if_ne rfl (by omega) (fun h1 => ?_) (fun h1 => ?_)
    · refine z_iinc (c := (-1)) (e := v + (-1)) (ls1 := [some (.ref 50), some (zi n), some (zi (J 56 6)), some (zi (-2)), some (zi (v + (-1)))]) gi_215_61 rfl rfl rfl rfl ?_
      refine z_goto gi_215_64 ?_
      show zW _ _ _ _ [some (.ref 50), some (zi n), some (zi (J 56 6)), some (zi (-2)), some (zi (v + (-1)))] [] _ _ _ _
      rw [zU_U]
      exact ih (v + -1) v (zY M2 v (J 56 3) (J 56 4) (J 56 5) 20) (fun x h1 h2 => (funext fun y => zY_c h1 h2).trans (hM x h1 h2)) (by omega) (by omega) (fun t t1 t2 => by by_cases e : t = v; (rw [e]; assumption); exact hv t (by omega) t2)
    · refine z_iload4 rfl ?_
      refine z_istore (ls1 := [some (.ref 50), some (zi n), some (zi (J 56 6)), some (zi v), some (zi v)]) rfl rfl ?_
      refine z_iinc (c := (-1)) (e := v + (-1)) (ls1 := [some (.ref 50), some (zi n), some (zi (J 56 6)), some (zi v), some (zi (v + (-1)))]) gi_215_61 rfl rfl rfl rfl ?_
      refine z_goto gi_215_64 ?_
      refine z_iload4 gi_215_28 ?_
      refine z_if_lt gi_215_30 (by omega) (fun h2 => ?_) (fun h2 => ?_)
      · refine z_aload0 gi_215_67 ?_
        refine z_getR (r := 56) gi_215_68 gk_50 (hR _ rm_50_7 (by decide)) ?_
        refine z_pushJ gp_215_71 ?_
        refine z_iload2 gi_215_73 ?_
        refine z_iast (e := J 56 6) gi_215_74 gk_56 (by decide) (by decide) rfl ?_
        refine z_iload3 gi_215_75 ?_
        refine z_iret gi_215_76 gr_215 ?_
        rw [zU_U, zU_U, zU_id rfl, ← wzz_is (v := v) (by omega) (by assumption) hv]
        exact hP _ (fun x h1 h2 => (funext fun y => zY_c h1 h2).trans (hM x h1 h2))
      · refine z_iload3 gi_215_33 ?_
        refine z_if_geT gi_215_34 (by omega) (by omega) ?_
        refine z_aload0 gi_215_67 ?_
        refine z_getR (r := 56) gi_215_68 gk_50 (hR _ rm_50_7 (by decide)) ?_
        refine z_pushJ gp_215_71 ?_
        refine z_iload2 gi_215_73 ?_
        refine z_iast (e := J 56 6) gi_215_74 gk_56 (by decide) (by decide) rfl ?_
        refine z_iload3 gi_215_75 ?_
        refine z_iret gi_215_76 gr_215 ?_
        rw [zU_U, zU_U, zU_id rfl, ← wzz_is (v := v) (by omega) (by assumption) hv]
        exact hP _ (fun x h1 h2 => (funext fun y => zY_c h1 h2).trans (hM x h1 h2))
theorem waits_r {X : Nat × (Nat → Int32)} {d : Nat} {J M : zA} {R : zR} {n : Int} (hR : zRoR R) (hb1 : bOk 0 (J 56 3) (J 56 4) (J 56 5)) (hw : -2147483648 ≤ J 56 6 ∧ J 56 6 < 2147483648) (hn : -2147483648 ≤ n ∧ n < 2147483648) : zW X (d + 4) 215 0 (gEn 215 [(.ref 50), (zi n)]) [] J M R (fun r J2 M2 R2 => r = some (zi (fwaits (J 56 3) (J 56 4) (J 56 5) n)) ∧ J2 = J ∧ (∀ x, x ≠ 73 → x ≠ 74 → M2 x = M x) ∧ R2 = R) := by
  show zW _ _ _ _ [some (.ref 50), some (zi n), none, none, none] _ _ _ _ _
  refine z_iload1 rfl ?_
  refine z_pushJ gp_215_1 ?_
  refine z_pushJ gp_215_2 ?_
  refine z_cS3 rfl (Nat.le_of_ble_eq_true rfl) gc_148_III ?_
  refine z_iload0 gi_148_0 ?_
  refine z_iload1 gi_148_1 ?_
  refine z_icmp_lt gi_148_2 (by omega) zr_1 (fun h1 => ?_) (fun h1 => ?_)
  · refine z_pushJ gp_148_14 ?_
    refine z_bret0 gi_148_15 gr_148 ?_
    show zW _ _ _ _ _ _ _ _ _ _
    refine z_if_neF gi_215_7 zr_0 (by decide) ?_
    refine z_pushJ gp_215_10 ?_
    refine z_iret gi_215_11 gr_215 ?_
    refine ⟨congrArg (fun v => some (zi v)) ?_, rfl, fun x _ _ => rfl, rfl⟩
    unfold fwaits
    rw [if_neg (by omega)]
  · refine z_iload0 gi_148_5 ?_
    refine z_iload2 gi_148_6 ?_
    refine z_icmp_gt gi_148_7 (by omega) zr_20 (fun h2 => ?_) (fun h2 => ?_)
    · refine z_pushJ gp_148_14 ?_
      refine z_bret0 gi_148_15 gr_148 ?_
      show zW _ _ _ _ _ _ _ _ _ _
      refine z_if_neF gi_215_7 zr_0 (by decide) ?_
      refine z_pushJ gp_215_10 ?_
      refine z_iret gi_215_11 gr_215 ?_
      refine ⟨congrArg (fun v => some (zi v)) ?_, rfl, fun x _ _ => rfl, rfl⟩
      unfold fwaits
      rw [if_neg (by omega)]
    · refine z_pushJ gp_148_10 ?_
      refine z_goto gi_148_11 ?_
      refine z_bret1 gi_148_15 gr_148 ?_
      show zW _ _ _ _ _ _ _ _ _ _
      refine z_if_neT gi_215_7 zr_1 (by decide) ?_
      refine z_aload0 rfl ?_
      refine z_getR (r := 56) rfl gk_50 (hR _ rm_50_7 (by decide)) ?_
      refine z_pushJ gp_215_16 ?_
      refine z_iald (v := J 56 6) rfl gk_56 (by decide) (by decide) (rfl) ?_
      refine z_istore (ls1 := [some (.ref 50), some (zi n), some (zi (J 56 6)), none, none]) rfl rfl ?_
      refine z_pushJ gp_215_20 ?_
      refine z_istore (ls1 := [some (.ref 50), some (zi n), some (zi (J 56 6)), some (zi (-2)), none]) rfl rfl ?_
      refine z_pushJ gp_215_23 ?_
      refine z_istore (ls1 := [some (.ref 50), some (zi n), some (zi (J 56 6)), some (zi (-2)), some (zi 9999)]) rfl rfl ?_
      show zW _ _ _ _ [some (.ref 50), some (zi n), some (zi (J 56 6)), some (zi (-2)), some (zi 9999)] [] _ _ _ _
      suffices h : zW X (d + 4) 215 28 [some (.ref 50), some (zi n), some (zi (J 56 6)), some (zi (-2)), some (zi 9999)] [] (zU J 56 6 (J 56 6)) M R (fun r J2 M2 R2 => r = some (zi (fwaits (J 56 3) (J 56 4) (J 56 5) n)) ∧ J2 = J ∧ (∀ x, x ≠ 73 → x ≠ 74 → M2 x = M x) ∧ R2 = R) by rw [zU_same] at h; exact h
      refine waits_z hR hb1 (by omega) (by omega) (fun M2 hM => ?_) 10000 9999 _ M (fun x _ _ => rfl) (by decide) (by decide) (fun t t1 t2 => by omega)
      refine ⟨congrArg (fun v => some (zi v)) ?_, rfl, hM, rfl⟩
      unfold fwaits
      rw [if_pos (by omega)]
