theorem bits_z {X : Nat × (Nat → Int32)} {d : Nat} {J M : zA} {R : zR} {x : Int} : ∀ (j : Nat) (c y : Int), (0 ≤ y ∧ y < 256) → bc y ≤ j → (0 ≤ c ∧ c + j ≤ 8) → zW X d 150 4 [some (zi x), some (zi c), some (zi y)] [] J M R (fun r J2 M2 R2 => ∃ v : Int, r = some (zi v) ∧ (0 ≤ v ∧ v ≤ 8) ∧ J2 = J ∧ M2 = M ∧ R2 = R) := by
  intro j
  induction j with
  | zero =>
    intro c y hy hb hc
    have y0 : y = 0 := by
      by_cases q : y = 0
      · exact q
      · have hl := la_s (u := y) (by omega)
        have h8 := bc_8 (zand y (y - 1))
        omega
    subst y0
    refine z_iload rfl rfl ?_
    refine z_if_eqT rfl (by decide) rfl ?_
    refine z_iload rfl rfl ?_
    exact z_iret rfl rfl ⟨_, rfl, (by omega), rfl, rfl, rfl⟩
  | succ j ih =>
    intro c y hy hb hc
    refine z_iload2 rfl ?_
    refine z_if_eq rfl (by omega) (fun h1 => ?_) (fun h1 => ?_)
    · refine z_iload1 rfl ?_
      refine z_iret rfl gr_150 ?_
      exact ⟨_, rfl, (by omega), rfl, rfl, rfl⟩
    · refine z_iinc (c := 1) (e := c + 1) (ls1 := [some (zi x), some (zi (c + 1)), some (zi y)]) rfl rfl rfl rfl rfl ?_
      refine z_iload2 rfl ?_
      refine z_iload2 rfl ?_
      refine z_pushJ gp_150_13 ?_
      refine z_isub (e := y - 1) rfl rfl ?_
      refine z_iand (e := zand y (y - 1)) rfl rfl ?_
      refine z_istore (ls1 := [some (zi x), some (zi (c + 1)), some (zi (zand y (y - 1)))]) rfl rfl ?_
      refine z_goto rfl ?_
      show zW _ _ _ _ [some (zi x), some (zi (c + 1)), some (zi (zand y (y - 1)))] [] _ _ _ _
      have hl := la_s (u := y) (by omega)
      exact ih (c + 1) (zand y (y - 1)) (by omega) (by omega) (by omega)
theorem bits_k {X : Nat × (Nat → Int32)} {d : Nat} {J M : zA} {R : zR} {x : Int} (hx : 0 ≤ x ∧ x < 256) : zW X d 150 0 (gEn 150 [(zi x)]) [] J M R (fun r J2 M2 R2 => ∃ v : Int, r = some (zi v) ∧ (0 ≤ v ∧ v ≤ 8) ∧ J2 = J ∧ M2 = M ∧ R2 = R) := by
  show zW _ _ _ _ [some (zi x), none, none] _ _ _ _ _
  refine z_pushJ gp_150_0 ?_
  refine z_istore (ls1 := [some (zi x), some (zi 0), none]) rfl rfl ?_
  refine z_iload0 rfl ?_
  refine z_istore (ls1 := [some (zi x), some (zi 0), some (zi x)]) rfl rfl ?_
  show zW _ _ _ _ [some (zi x), some (zi 0), some (zi x)] [] _ _ _ _
  have h8 := bc_8 x
  exact bits_z 8 0 x hx (by omega) (by decide)
/-- what goes orders keep: the calls' state, the best so far, the order's places below m -/
abbrev oR (A J : zA) (n m : Int) : Prop := zK kS A J ∧ (-1 ≤ J 50 38 ∧ J 50 38 ≤ 100000000) ∧ (∀ i, 0 ≤ i → i < m → 0 ≤ J 71 i ∧ J 71 i < n)
theorem tI_up {n a c : Int} {s : tR} (h : tI n s a) (hk : a ≤ c) : tI n s c := by
  obtain ⟨x1, x2, x3, x4, x5, x6⟩ := h
  refine ⟨x1, fun p => ?_, x3, x4, ?_, x6⟩
  · have := x2 p
    omega
  · omega
theorem tryO_z {X : Nat × (Nat → Int32)} {d : Nat} {M : zA} {R : zR} {P : zP} (hR : zRoR R) {A : zA} {N : Int → Int → Int} {n : Int} (hA : rN A = N) (hz : A 50 1 = n) (hN : zNr n N) {T : zX} (hT : LawR X A T) (hTr : Tok T) (h35 : A 50 35 = 0) {q : Int} (hq : 1 ≤ q ∧ q ≤ 99) {m g : Int} (hm8 : 0 ≤ m ∧ m ≤ 8) {e4 : Option Value} : ∀ (j : Nat) (k : Int) (S : tR) (J : zA), oR A J n m → rTr J n S 0 g → tI n S k → tMk S → k + j = m → 0 ≤ k → (∀ (JF : zA) (S2 : tR), oR A JF n m → rTr JF n S2 0 g → tI n S2 8 → (∀ i, JF 71 i = J 71 i) → ∀ k : Int, zW X (d + 8) 204 47 [some (.ref 50), some (zi m), some (zi q), some (zi k), e4] [] JF M R P) → zW X (d + 8) 204 11 [some (.ref 50), some (zi m), some (zi q), some (zi k), e4] [] J M R P := by
  intro j
  induction j with
  | zero =>
    intro k S J hJ hr hi hm hk h0 KK
    have qn := zNn hN
    refine z_iload rfl rfl ?_
    refine z_iload rfl rfl ?_
    refine z_icmp_geT rfl (by omega) (by omega) (by omega) ?_
    exact KK J S hJ hr (tI_up hi (by omega)) (fun _ => rfl) k
  | succ j ih =>
    intro k S J hJ hr hi hm hk h0 KK
    have qn := zNn hN
    have hV := zK_m hJ.1 kV_S
    have hA3 := (rN_V hV).trans hA
    have hz3 := (hJ.1 50 1 rfl).trans hz
    have i2 := hi.2.2
    have q71 := hJ.2.2 k h0 (by omega)
    refine z_iload3 rfl ?_
    refine z_iload1 rfl ?_
    refine z_icmp_geF rfl (by omega) (by omega) (by omega) ?_
    refine z_aload0 rfl ?_
    refine z_aload0 rfl ?_
    refine z_getR (r := 71) rfl gk_50 (hR _ rm_50_36 (by decide)) ?_
    refine z_iload3 rfl ?_
    refine z_iald (v := J 71 k) rfl gk_71 (by decide) (by omega) (rfl) ?_
    refine z_iload2 rfl ?_
    refine z_cV2 rfl gk_50 go_190 (Nat.le_of_ble_eq_true rfl) gc_190_RII ?_
    refine z_aload0 gi_190_0 ?_
    refine z_getI (v := tmi S) gi_190_1 gk_50 (hr.2.2.1) ?_
    refine z_aload0 gi_190_4 ?_
    refine z_iload1 gi_190_5 ?_
    refine z_callVP (As := [_]) (v := sWay N (tat S) (J 71 k)) gi_190_6 rfl gk_50 (Nat.le_of_ble_eq_true rfl) (Nat.le_of_ble_eq_true rfl) (wayTo_s hR hA3 hz3 hN hr (by omega) (by omega)) ?_
    have q1 := sWay_r hN (f := tat S) (p := J 71 k)
    refine z_iadd (e := (tmi S) + (sWay N (tat S) (J 71 k))) gi_190_9 rfl ?_
    refine z_iload2 gi_190_10 ?_
    refine z_iadd (e := (tmi S) + (sWay N (tat S) (J 71 k)) + q) gi_190_11 rfl ?_
    refine z_pushJ gp_190_12 ?_
    refine z_icmp_gt gi_190_15 (by omega) (by decide) (fun h2 => ?_) (fun h2 => ?_)
    · refine z_pushJ gp_190_22 ?_
      refine z_bret0 gi_190_23 gr_190 ?_
      show zW _ _ _ _ _ _ _ _ _ _
      refine z_if_eqT gi_204_27 zr_0 (by decide) ?_
      show zW _ _ _ _ [some (.ref 50), some (zi m), some (zi q), some (zi k), e4] [] _ _ _ _
      exact KK J S hJ hr (tI_up hi (by omega)) (fun _ => rfl) k
    · refine z_pushJ gp_190_18 ?_
      refine z_goto gi_190_19 ?_
      refine z_bret1 gi_190_23 gr_190 ?_
      show zW _ _ _ _ _ _ _ _ _ _
      refine z_if_eqF gi_204_27 zr_1 (by decide) ?_
      refine z_aload0 rfl ?_
      refine z_aload0 rfl ?_
      refine z_getR (r := 71) rfl gk_50 (hR _ rm_50_36 (by decide)) ?_
      refine z_iload3 rfl ?_
      refine z_iald (v := J 71 k) rfl gk_71 (by decide) (by omega) (rfl) ?_
      refine z_iload2 rfl ?_
      have hC : tC N n S (J 71 k) q := ⟨by omega, by omega, (show tmi S + sWay N (tat S) (J 71 k) + q ≤ 999 by omega)⟩
      have hi2 := tI_s (T := T) (w := 0) hN hi hm hC
      refine z_callV (As := [_, _]) _ rfl rfl rfl (Nat.le_of_ble_eq_true rfl) (Nat.le_of_ble_eq_true rfl) (goTo_k (s := S) (k := k.toNat) (w := 0) hR hA3 hz3 hN (LawR_V hT hV) hTr hr (by decide) (by rw [Int.toNat_of_nonneg h0]; exact hi) (by omega) hC) (fun r J5 M5 R5 h5 => ?_)
      obtain ⟨rfl, hk5, hr5, rfl, rfl⟩ := h5
      show zW _ _ _ _ _ _ _ _ _ _
      have e71 : ∀ i, J5 71 i = J 71 i := fun i => hk5 71 i rfl
      refine z_iinc (c := 1) (e := k + 1) (ls1 := [some (.ref 50), some (zi m), some (zi q), some (zi (k + 1)), e4]) rfl rfl rfl rfl rfl ?_
      refine z_goto rfl ?_
      show zW _ _ _ _ [some (.ref 50), some (zi m), some (zi q), some (zi (k + 1)), e4] [] _ _ _ _
      refine ih (k + 1) _ J5 ⟨zK_t hJ.1 (zK_m hk5 kS_Q), by rw [hk5 50 38 rfl]; exact hJ.2.1, fun i i1 i2 => by rw [e71]; exact hJ.2.2 i i1 i2⟩ hr5 hi2.1 hi2.2 (by omega) (by omega) (fun JF S2 a b c g => KK JF S2 a b c (fun i => (g i).trans (e71 i)))
theorem copyO_z {X : Nat × (Nat → Int32)} {d : Nat} {M : zA} {R : zR} (hR : zRoR R) {A : zA} {n m q k : Int} (hm8 : 0 ≤ m ∧ m ≤ 8) : ∀ (j : Nat) (i : Int) (J : zA), oR A J n m → i + j = m → 0 ≤ i → zW X (d + 8) 204 70 [some (.ref 50), some (zi m), some (zi q), some (zi k), some (zi i)] [] J M R (fun r J2 M2 R2 => r = none ∧ oR A J2 n m ∧ M2 = M ∧ R2 = R) := by
  intro j
  induction j with
  | zero =>
    intro i J hJ hi h0
    refine z_iload rfl rfl ?_
    refine z_iload rfl rfl ?_
    refine z_icmp_geT rfl (by omega) (by omega) (by omega) ?_
    exact z_vret rfl rfl ⟨rfl, hJ, rfl, rfl⟩
  | succ j ih =>
    intro i J hJ hi h0
    refine z_iload4 rfl ?_
    refine z_iload1 rfl ?_
    refine z_icmp_geF rfl (by omega) (by omega) (by omega) ?_
    refine z_aload0 rfl ?_
    refine z_getR (r := 72) rfl gk_50 (hR _ rm_50_37 (by decide)) ?_
    refine z_iload4 rfl ?_
    refine z_aload0 rfl ?_
    refine z_getR (r := 71) rfl gk_50 (hR _ rm_50_36 (by decide)) ?_
    refine z_iload4 rfl ?_
    refine z_iald (v := J 71 i) rfl gk_71 (by decide) (by omega) (rfl) ?_
    refine z_iast (e := J 71 i) rfl gk_72 (by decide) (by omega) rfl ?_
    refine z_iinc (c := 1) (e := i + 1) (ls1 := [some (.ref 50), some (zi m), some (zi q), some (zi k), some (zi (i + 1))]) rfl rfl rfl rfl rfl ?_
    refine z_goto rfl ?_
    show zW _ _ _ _ [some (.ref 50), some (zi m), some (zi q), some (zi k), some (zi (i + 1))] [] _ _ _ _
    refine ih (i + 1) _ ⟨zK_x (a := 72) (x := i) (v := J 71 i) hJ.1 rfl, (by rw [zU_n (by decide)]; exact hJ.2.1), fun i i1 i2 => by rw [zU_n (by decide)]; exact hJ.2.2 i i1 i2⟩ (by omega) (by omega)
theorem tryO_k {X : Nat × (Nat → Int32)} {d : Nat} {J M : zA} {R : zR} (hR : zRoR R) {A : zA} {N : Int → Int → Int} {n : Int} (hA : rN A = N) (hz : A 50 1 = n) (hN : zNr n N) {T : zX} (hT : LawR X A T) (hTr : Tok T) (h35 : A 50 35 = 0) {q : Int} (hq : 1 ≤ q ∧ q ≤ 99) {m : Int} (hm8 : 0 ≤ m ∧ m ≤ 8) (hJ : oR A J n m) : zW X (d + 8) 204 0 (gEn 204 [(.ref 50), (zi m), (zi q)]) [] J M R (fun r J2 M2 R2 => r = none ∧ oR A J2 n m ∧ M2 = M ∧ R2 = R) := by
  have hV := zK_m hJ.1 kV_S
  have hA3 := (rN_V hV).trans hA
  have hz3 := (hJ.1 50 1 rfl).trans hz
  show zW _ _ _ _ [some (.ref 50), some (zi m), some (zi q), none, none] _ _ _ _ _
  refine z_aload0 rfl ?_
  refine z_callV (As := []) _ rfl rfl rfl (Nat.le_of_ble_eq_true rfl) (Nat.le_of_ble_eq_true rfl) (beginR_k hR hA3 hz3 hN) (fun r J2 M2 R2 hr => ?_)
  obtain ⟨rfl, hk, d30, d31, d32, d33, d69, d70, rfl, rfl⟩ := hr
  show zW _ _ _ _ _ _ _ _ _ _
  refine z_aload0 rfl ?_
  refine z_pushJ gp_204_5 ?_
  refine z_putI (y := 34) rfl rfl gk_50 ?_
  refine z_pushJ gp_204_9 ?_
  refine z_istore (ls1 := [some (.ref 50), some (zi m), some (zi q), some (zi 0), none]) rfl rfl ?_
  show zW _ _ _ _ [some (.ref 50), some (zi m), some (zi q), some (zi 0), none] [] _ _ _ _
  have e34 : ∀ (x : Nat) (j : Int), x ≠ 50 → (zU J2 50 34 0) x j = J2 x j := fun x j h => zU_n h
  refine tryO_z (g := sGone N n) hR hA hz hN hT hTr h35 hq hm8 m.toNat 0 (t0 N n 0) (zU J2 50 34 0) ⟨zK_t hJ.1 (zK_x (a := 50) (x := 34) (v := 0) (zK_m hk kS_Q) rfl), ?_, fun i i1 i2 => ?_⟩ ⟨d33, d30, d31, d32, rfl, (hk 50 35 rfl).trans ((hJ.1 50 35 rfl).trans h35), fun p p1 p2 => ?_, fun p p1 p2 => d70 p p1 p2⟩ (tI_0 hN) (show (0 : Int) ≤ 0 by decide) (by omega) (by decide) (fun JF S2 hJ2 hr2 hi2 _ k2 => ?_)
  · rw [zU_x (by decide), hk 50 38 rfl]
    exact hJ.2.1
  · rw [zU_n (by decide), hk 71 i rfl]
    exact hJ.2.2 i i1 i2
  · refine (d69 p p1 p2).trans ?_
    show _ = (if 0 ≤ p ∧ p < n then sShare N n p else 0)
    rw [if_pos ⟨p1, p2⟩]
  · have i2 := hi2.2.2
    have j2 := hJ2.2.1
    show zW _ _ _ _ [some (.ref 50), some (zi m), some (zi q), some (zi k2), none] _ _ _ _ _
    refine z_aload0 rfl ?_
    refine z_getI (v := tfo S2) rfl gk_50 (hr2.2.2.2.1) ?_
    refine z_aload0 rfl ?_
    refine z_getI (v := JF 50 38) rfl gk_50 (rfl) ?_
    refine z_icmp_gt rfl (by omega) (by omega) (fun h1 => ?_) (fun h1 => ?_)
    · refine z_aload0 rfl ?_
      refine z_aload0 rfl ?_
      refine z_getI (v := tfo S2) rfl gk_50 (hr2.2.2.2.1) ?_
      refine z_putI (y := 38) rfl rfl gk_50 ?_
      refine z_pushJ gp_204_67 ?_
      refine z_istore (ls1 := [some (.ref 50), some (zi m), some (zi q), some (zi k2), some (zi 0)]) rfl rfl ?_
      show zW _ _ _ _ [some (.ref 50), some (zi m), some (zi q), some (zi k2), some (zi 0)] [] _ _ _ _
      refine copyO_z hR hm8 m.toNat 0 _ ⟨zK_x (a := 50) (x := 38) (v := tfo S2) hJ2.1 rfl, (by rw [zU_e]; omega), fun i i1 i2 => by rw [zU_n (by decide)]; exact hJ2.2.2 i i1 i2⟩ (by omega) (by decide)
    · refine z_vret rfl gr_204 ?_
      exact ⟨rfl, hJ2, rfl, rfl⟩
theorem goO_l {X : Nat × (Nat → Int32)} {e : Nat} {M : zA} {R : zR} (hR : zRoR R) {A : zA} {N : Int → Int → Int} {n : Int} (hA : rN A = N) (hz : A 50 1 = n) (hN : zNr n N) {T : zX} (hT : LawR X A T) (hTr : Tok T) (h35 : A 50 35 = 0) {q : Int} (hq : 1 ≤ q ∧ q ≤ 99) {st us m : Int} (hst : 0 ≤ st ∧ st < 256) (hus : 0 ≤ us ∧ us < 256) (hbc : bc us = m) (IH : ∀ (us : Int) (J : zA), oR A J n (m + 1) → (0 ≤ us ∧ us < 256) → bc us = m + 1 → zW X (e + 9) 205 0 (gEn 205 [(.ref 50), (zi st), (zi us), (zi (m + 1)), (zi q)]) [] J M R (fun r J2 M2 R2 => r = none ∧ oR A J2 n (m + 1) ∧ M2 = M ∧ R2 = R)) : ∀ (j : Nat) (p : Int) (J : zA), oR A J n m → p + j = n → 0 ≤ p → zW X (e + 10) 205 16 [some (.ref 50), some (zi st), some (zi us), some (zi m), some (zi q), some (zi p)] [] J M R (fun r J2 M2 R2 => r = none ∧ oR A J2 n m ∧ M2 = M ∧ R2 = R) := by
  have qn := zNn hN
  have qm := bc_8 us
  intro j
  induction j with
  | zero =>
    intro p J hJ hp h0
    refine z_iload rfl rfl ?_
    refine z_aload rfl rfl ?_
    refine z_getI (v := n) rfl rfl ((hJ.1 50 1 rfl).trans hz) ?_
    refine z_icmp_geT rfl (by omega) (by omega) (by omega) ?_
    exact z_vret rfl rfl ⟨rfl, hJ, rfl, rfl⟩
  | succ j ih =>
    intro p J hJ hp h0
    have qz1 := zand_r (zshr st p) 1
    have qz2 := zand_r (zshr us p) 1
    refine z_iload5 rfl ?_
    refine z_aload0 rfl ?_
    refine z_getI (v := n) rfl gk_50 ((hJ.1 50 1 rfl).trans hz) ?_
    refine z_icmp_geF rfl (by omega) (by omega) (by omega) ?_
    refine z_iload1 rfl ?_
    refine z_iload5 rfl ?_
    refine z_ishr (e := zshr st p) rfl rfl ?_
    refine z_pushJ gp_205_29 ?_
    refine z_iand (e := zand (zshr st p) 1) rfl rfl ?_
    refine z_if_eq rfl (by omega) (fun h1 => ?_) (fun h1 => ?_)
    · refine z_iinc (c := 1) (e := p + 1) (ls1 := [some (.ref 50), some (zi st), some (zi us), some (zi m), some (zi q), some (zi (p + 1))]) gi_205_71 rfl rfl rfl rfl ?_
      refine z_goto gi_205_74 ?_
      show zW _ _ _ _ [some (.ref 50), some (zi st), some (zi us), some (zi m), some (zi q), some (zi (p + 1))] [] _ _ _ _
      exact ih (p + 1) J hJ (by omega) (by omega)
    · refine z_iload2 rfl ?_
      refine z_iload5 rfl ?_
      refine z_ishr (e := zshr us p) rfl rfl ?_
      refine z_pushJ gp_205_38 ?_
      refine z_iand (e := zand (zshr us p) 1) rfl rfl ?_
      refine z_pushJ gp_205_40 ?_
      refine z_icmp_ne rfl (by omega) zr_1 (fun h2 => ?_) (fun h2 => ?_)
      · have hbm := bc_s hus (p := p) (by omega) (by omega)
        have hbm8 := bc_8 (zor us (zshl 1 p))
        refine z_aload0 rfl ?_
        refine z_getR (r := 71) rfl gk_50 (hR _ rm_50_36 (by decide)) ?_
        refine z_iload3 rfl ?_
        refine z_iload5 rfl ?_
        refine z_iast (e := p) rfl gk_71 (by decide) (by omega) rfl ?_
        refine z_aload0 rfl ?_
        refine z_iload1 rfl ?_
        refine z_iload2 rfl ?_
        refine z_pushJ gp_205_58 ?_
        refine z_iload5 rfl ?_
        refine z_ishl (e := zshl 1 p) rfl rfl ?_
        refine z_ior (e := zor us (zshl 1 p)) rfl rfl ?_
        refine z_iload3 rfl ?_
        refine z_pushJ gp_205_64 ?_
        refine z_iadd (e := m + 1) rfl rfl ?_
        refine z_iload4 rfl ?_
        have hb := bc_s hus (p := p) (by omega) (by omega)
        have hb8 := bc_8 (zor us (zshl 1 p))
        have hJp : oR A (zU J 71 m p) n (m + 1) := ⟨zK_x (a := 71) (x := m) (v := p) hJ.1 rfl, (by rw [zU_n (by decide)]; exact hJ.2.1), fun i i1 i2 => by rw [zU_i]; split; omega; exact hJ.2.2 i i1 (by omega)⟩
        refine z_callV (As := [_, _, _, _]) _ rfl rfl rfl (Nat.le_of_ble_eq_true rfl) (Nat.le_of_ble_eq_true rfl) (IH (zor us (zshl 1 p)) (zU J 71 m p) hJp hb.2 (by omega)) (fun r J3 M3 R3 h3 => ?_)
        obtain ⟨rfl, hJ3, rfl, rfl⟩ := h3
        show zW _ _ _ _ _ _ _ _ _ _
        refine z_iinc (c := 1) (e := p + 1) (ls1 := [some (.ref 50), some (zi st), some (zi us), some (zi m), some (zi q), some (zi (p + 1))]) gi_205_71 rfl rfl rfl rfl ?_
        refine z_goto gi_205_74 ?_
        show zW _ _ _ _ [some (.ref 50), some (zi st), some (zi us), some (zi m), some (zi q), some (zi (p + 1))] [] _ _ _ _
        exact ih (p + 1) J3 ⟨hJ3.1, hJ3.2.1, fun i i1 i2 => hJ3.2.2 i i1 (by omega)⟩ (by omega) (by omega)
      · refine z_goto rfl ?_
        refine z_iinc (c := 1) (e := p + 1) (ls1 := [some (.ref 50), some (zi st), some (zi us), some (zi m), some (zi q), some (zi (p + 1))]) gi_205_71 rfl rfl rfl rfl ?_
        refine z_goto gi_205_74 ?_
        show zW _ _ _ _ [some (.ref 50), some (zi st), some (zi us), some (zi m), some (zi q), some (zi (p + 1))] [] _ _ _ _
        exact ih (p + 1) J hJ (by omega) (by omega)
theorem goO_z {X : Nat × (Nat → Int32)} {M : zA} {R : zR} (hR : zRoR R) {A : zA} {N : Int → Int → Int} {n : Int} (hA : rN A = N) (hz : A 50 1 = n) (hN : zNr n N) {T : zX} (hT : LawR X A T) (hTr : Tok T) (h35 : A 50 35 = 0) {q : Int} (hq : 1 ≤ q ∧ q ≤ 99) {st : Int} (hst : 0 ≤ st ∧ st < 256) : ∀ (c D : Nat) (us m : Int) (J : zA), oR A J n m → (0 ≤ us ∧ us < 256) → bc us = m → (m + c = 9 ∧ 9 + c ≤ D) → zW X D 205 0 (gEn 205 [(.ref 50), (zi st), (zi us), (zi m), (zi q)]) [] J M R (fun r J2 M2 R2 => r = none ∧ oR A J2 n m ∧ M2 = M ∧ R2 = R) := by
  have qn := zNn hN
  intro c
  induction c with
  | zero =>
    intro D us m J hJ hus hbc hD
    exfalso
    have := bc_8 us
    omega
  | succ c ih =>
    intro D us m J hJ hus hbc hD
    obtain ⟨e, rfl⟩ : ∃ e, D = e + 10 := ⟨D - 10, by omega⟩
    have qm := bc_8 us
    show zW _ _ _ _ [some (.ref 50), some (zi st), some (zi us), some (zi m), some (zi q), none] _ _ _ _ _
    refine z_iload2 rfl ?_
    refine z_iload1 rfl ?_
    refine z_icmp_ne rfl (by omega) (by omega) (fun h1 => ?_) (fun h1 => ?_)
    · refine z_pushJ gp_205_13 ?_
      refine z_istore (ls1 := [some (.ref 50), some (zi st), some (zi us), some (zi m), some (zi q), some (zi 0)]) rfl rfl ?_
      show zW _ _ _ _ [some (.ref 50), some (zi st), some (zi us), some (zi m), some (zi q), some (zi 0)] [] _ _ _ _
      exact goO_l hR hA hz hN hT hTr h35 hq hst hus hbc (fun us J a b c => ih (e + 9) us (m + 1) J a b c (by omega)) n.toNat 0 J hJ (by omega) (by decide)
    · refine z_aload0 rfl ?_
      refine z_iload3 rfl ?_
      refine z_iload4 rfl ?_
      refine z_callV (As := [_, _]) _ rfl rfl rfl (Nat.le_of_ble_eq_true rfl) (Nat.le_of_ble_eq_true rfl) (tryO_k (d := e + 1) hR hA hz hN hT hTr h35 hq (by omega) hJ) (fun r J3 M3 R3 h3 => ?_)
      obtain ⟨rfl, hJ3, rfl, rfl⟩ := h3
      show zW _ _ _ _ _ _ _ _ _ _
      refine z_vret rfl gr_205 ?_
      exact ⟨rfl, hJ3, rfl, rfl⟩
