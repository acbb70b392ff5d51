theorem kP_b {x : Nat} {j : Int} (h : 18 ≤ x ∧ x ≤ 66) : kP x j = true := kP_o (kT_b (by omega)) (by omega)
theorem cN_P {A J : zA} (h : zK kP A J) : cN J = cN A := by
  funext p w
  unfold cN
  rw [h 8 2 rfl, h 9 _ rfl, h 9 _ rfl]
theorem LawC_P {X : Nat × (Nat → Int32)} {A J : zA} {R : zR} {T : zX} (h : LawC X A R T) (hk : zK kP A J) : LawC X J R T := LawC_A h (hk 1 5 rfl) (fun j => hk 3 j rfl) (fun j => hk 4 j rfl) (fun j => hk 5 j rfl) (fun j => hk 6 j rfl)
theorem begin_z {X : Nat × (Nat → Int32)} {d : Nat} {J0 M : zA} {R : zR} {P : zP} {N : Int → Int → Int} {n : Int} (hR : zRok R) (hA : cN J0 = N) (hz : J0 8 2 = n) (hN : zNr n N) {w : Int} : ∀ (j : Nat) (i : Int) (J : zA), zK kP J0 J → J 10 12 = w → i + j = 8 → 0 ≤ i → (∀ p, 0 ≤ p → p < i → J 11 p = (t0 N n w).1 p ∧ J 12 p = 0) → (∀ J2 : zA, zK kP J0 J2 → J2 10 12 = w → (∀ p, 0 ≤ p → p < 8 → J2 11 p = (t0 N n w).1 p ∧ J2 12 p = 0) → zW X (d + 7) 79 50 [some (.ref 10), some (zi 8)] [] J2 M R P) → zW X (d + 7) 79 2 [some (.ref 10), some (zi i)] [] J M R P := by
  intro j
  induction j with
  | zero =>
    intro i J hk hw hi h0 hf K
    refine z_iload rfl rfl ?_
    refine z_pushI (z := 8) rfl rfl ?_
    refine z_icmp_geT rfl (by omega) (by decide) (by omega) ?_
    obtain rfl : i = 8 := by omega
    exact K J hk hw hf
  | succ j ih =>
    intro i J hk hw hi h0 hf K
    have hA2 : cN J = N := (cN_P hk).trans hA
    have hz2 : J 8 2 = n := (hk 8 2 rfl).trans hz
    have hJ : zK kT J J := zK_r
    have hA : cN J = N := hA2
    have hz : J 8 2 = n := hz2
    have q1 := zNn hN
    refine z_iload1 rfl ?_
    refine z_pushJ gp_79_3 ?_
    refine z_icmp_geF rfl (by omega) zr_8 (by omega) ?_
    refine z_aload0 rfl ?_
    refine z_getR (r := 11) rfl gk_10 (hR _ rm_10_1) ?_
    refine z_iload1 rfl ?_
    refine z_aload0 rfl ?_
    refine z_getR (r := 8) rfl gk_10 (hR _ rm_10_0) ?_
    refine z_iload1 rfl ?_
    refine z_cV1 rfl gk_8 go_87 (Nat.le_of_ble_eq_true rfl) gc_87_RI ?_
    refine z_iload1 gi_87_0 ?_
    refine z_if_lt gi_87_1 (by omega) (fun h1 => ?_) (fun h1 => ?_)
    · refine z_pushJ gp_87_16 ?_
      refine z_bret0 gi_87_17 gr_87 ?_
      show zW _ _ _ _ _ _ _ _ _ _
      refine z_if_eqT gi_79_21 zr_0 (by decide) ?_
      refine z_pushJ gp_79_35 ?_
      refine z_iast (e := 0) gi_79_36 gk_11 (by decide) (by omega) rfl ?_
      refine z_aload0 gi_79_37 ?_
      refine z_getR (r := 12) gi_79_38 gk_10 (hR _ rm_10_2) ?_
      refine z_iload1 gi_79_41 ?_
      refine z_pushJ gp_79_42 ?_
      refine z_iast (e := 0) gi_79_43 gk_12 (by decide) (by omega) rfl ?_
      refine z_iinc (c := 1) (e := i + 1) (ls1 := [some (.ref 10), some (zi (i + 1))]) gi_79_44 rfl rfl rfl rfl ?_
      refine z_goto gi_79_47 ?_
      show zW _ _ _ _ [some (.ref 10), some (zi (i + 1))] [] _ _ _ _
      have e1 : (t0 N n w).1 i = 0 := by
        show (if 0 ≤ i ∧ i < n then sShare N n i else 0) = _
        split <;> first | rfl | (exfalso; omega)
      refine ih (i + 1) _ (zK_x (zK_x hk rfl) rfl) ((zU_n (by decide)).trans ((zU_n (by decide)).trans hw)) (by omega) (by omega) (fun p p1 p2 => ?_) K
      by_cases e : p = i
      · subst e
        exact ⟨((zU_n (by decide)).trans zU_e).trans e1.symm, zU_e⟩
      · exact ⟨(zU_n (by decide)).trans ((zU_x e).trans (hf p p1 (by omega)).1), (zU_x e).trans ((zU_n (by decide)).trans (hf p p1 (by omega)).2)⟩
    · refine z_iload1 gi_87_4 ?_
      refine z_aload0 gi_87_5 ?_
      refine z_getI (v := n) gi_87_6 gk_8 ((hJ 8 2 rfl).trans hz) ?_
      refine z_icmp_ge gi_87_9 (by omega) (by omega) (fun h2 => ?_) (fun h2 => ?_)
      · refine z_pushJ gp_87_16 ?_
        refine z_bret0 gi_87_17 gr_87 ?_
        show zW _ _ _ _ _ _ _ _ _ _
        refine z_if_eqT gi_79_21 zr_0 (by decide) ?_
        refine z_pushJ gp_79_35 ?_
        refine z_iast (e := 0) gi_79_36 gk_11 (by decide) (by omega) rfl ?_
        refine z_aload0 gi_79_37 ?_
        refine z_getR (r := 12) gi_79_38 gk_10 (hR _ rm_10_2) ?_
        refine z_iload1 gi_79_41 ?_
        refine z_pushJ gp_79_42 ?_
        refine z_iast (e := 0) gi_79_43 gk_12 (by decide) (by omega) rfl ?_
        refine z_iinc (c := 1) (e := i + 1) (ls1 := [some (.ref 10), some (zi (i + 1))]) gi_79_44 rfl rfl rfl rfl ?_
        refine z_goto gi_79_47 ?_
        show zW _ _ _ _ [some (.ref 10), some (zi (i + 1))] [] _ _ _ _
        have e1 : (t0 N n w).1 i = 0 := by
          show (if 0 ≤ i ∧ i < n then sShare N n i else 0) = _
          split <;> first | rfl | (exfalso; omega)
        refine ih (i + 1) _ (zK_x (zK_x hk rfl) rfl) ((zU_n (by decide)).trans ((zU_n (by decide)).trans hw)) (by omega) (by omega) (fun p p1 p2 => ?_) K
        by_cases e : p = i
        · subst e
          exact ⟨((zU_n (by decide)).trans zU_e).trans e1.symm, zU_e⟩
        · exact ⟨(zU_n (by decide)).trans ((zU_x e).trans (hf p p1 (by omega)).1), (zU_x e).trans ((zU_n (by decide)).trans (hf p p1 (by omega)).2)⟩
      · refine z_pushJ gp_87_12 ?_
        refine z_goto gi_87_13 ?_
        refine z_bret1 gi_87_17 gr_87 ?_
        show zW _ _ _ _ _ _ _ _ _ _
        refine z_if_eqF gi_79_21 zr_1 (by decide) ?_
        refine z_aload0 rfl ?_
        refine z_getR (r := 8) rfl gk_10 (hR _ rm_10_0) ?_
        refine z_iload1 rfl ?_
        refine z_callVP (As := [_]) (v := sShare N n i) rfl rfl gk_8 (Nat.le_of_ble_eq_true rfl) (Nat.le_of_ble_eq_true rfl) (shareBy_k hR zK_r hA2 hz2 hN (by omega)) ?_
        refine z_goto rfl ?_
        refine z_iast (e := sShare N n i) gi_79_36 gk_11 (by decide) (by omega) rfl ?_
        refine z_aload0 gi_79_37 ?_
        refine z_getR (r := 12) gi_79_38 gk_10 (hR _ rm_10_2) ?_
        refine z_iload1 gi_79_41 ?_
        refine z_pushJ gp_79_42 ?_
        refine z_iast (e := 0) gi_79_43 gk_12 (by decide) (by omega) rfl ?_
        refine z_iinc (c := 1) (e := i + 1) (ls1 := [some (.ref 10), some (zi (i + 1))]) gi_79_44 rfl rfl rfl rfl ?_
        refine z_goto gi_79_47 ?_
        show zW _ _ _ _ [some (.ref 10), some (zi (i + 1))] [] _ _ _ _
        have e1 : (t0 N n w).1 i = sShare N n i := by
          show (if 0 ≤ i ∧ i < n then sShare N n i else 0) = _
          split <;> first | rfl | (exfalso; omega)
        refine ih (i + 1) _ (zK_x (zK_x hk rfl) rfl) ((zU_n (by decide)).trans ((zU_n (by decide)).trans hw)) (by omega) (by omega) (fun p p1 p2 => ?_) K
        by_cases e : p = i
        · subst e
          exact ⟨((zU_n (by decide)).trans zU_e).trans e1.symm, zU_e⟩
        · exact ⟨(zU_n (by decide)).trans ((zU_x e).trans (hf p p1 (by omega)).1), (zU_x e).trans ((zU_n (by decide)).trans (hf p p1 (by omega)).2)⟩
theorem begin_k {X : Nat × (Nat → Int32)} {d : Nat} {J M : zA} {R : zR} {N : Int → Int → Int} {n : Int} (hR : zRok R) (hA : cN J = N) (hz : J 8 2 = n) (hN : zNr n N) {w : Int} (hw : J 10 12 = w) (hwr : 0 ≤ w ∧ w ≤ 1000000) : zW X (d + 7) 79 0 (gEn 79 [(.ref 10)]) [] J M R (fun r J2 M2 R2 => r = none ∧ zK kP J J2 ∧ cTr J2 (t0 N n w) 0 w ∧ M2 = M ∧ R2 = R) := by
  show zW _ _ _ _ [some (.ref 10), none] _ _ _ _ _
  refine z_pushJ gp_79_0 ?_
  refine z_istore (ls1 := [some (.ref 10), some (zi 0)]) rfl rfl ?_
  show zW _ _ _ _ [some (.ref 10), some (zi 0)] [] _ _ _ _
  refine begin_z hR hA hz hN 8 0 J zK_r hw (by decide) (by decide) (fun p p1 p2 => by omega) (fun J2 hk hw2 hf => ?_)
  have hJ2 : zK kT J2 J2 := zK_r
  refine z_aload0 rfl ?_
  refine z_pushJ gp_79_51 ?_
  refine z_putI (y := 8) rfl rfl gk_10 ?_
  refine z_aload0 rfl ?_
  refine z_pushJ gp_79_56 ?_
  refine z_putI (y := 9) rfl rfl gk_10 ?_
  refine z_aload0 rfl ?_
  refine z_pushJ gp_79_61 ?_
  refine z_putI (y := 10) rfl rfl gk_10 ?_
  refine z_aload0 rfl ?_
  refine z_pushJ gp_79_66 ?_
  refine z_putI (y := 11) rfl rfl gk_10 ?_
  refine z_aload0 rfl ?_
  refine z_aload0 rfl ?_
  refine z_getI (v := w) rfl gk_10 ((zU_x (by decide)).trans ((zU_x (by decide)).trans ((zU_x (by decide)).trans ((zU_x (by decide)).trans (hw2))))) ?_
  refine z_if_gt rfl (by omega) (fun h1 => ?_) (fun h1 => ?_)
  · refine z_pushJ gp_79_82 ?_
    refine z_putI (y := 13) gi_79_84 rfl gk_10 ?_
    refine z_vret gi_79_87 gr_79 ?_
    refine ⟨rfl, zK_x (zK_x (zK_x (zK_x (zK_x hk rfl) rfl) rfl) rfl) rfl, ⟨?_, ?_, ?_, ?_, ?_, ?_, fun p p1 p2 => ?_, fun p p1 p2 => ?_⟩, rfl, rfl⟩
    · rfl
    · rfl
    · rfl
    · rfl
    · exact hw2
    · show (-2) = (if w ≤ 0 then (0 : Int) else -2)
      split <;> first | rfl | (exfalso; omega)
    · exact (hf p p1 p2).1
    · exact (hf p p1 p2).2
  · refine z_pushJ gp_79_78 ?_
    refine z_goto rfl ?_
    refine z_putI (y := 13) gi_79_84 rfl gk_10 ?_
    refine z_vret gi_79_87 gr_79 ?_
    refine ⟨rfl, zK_x (zK_x (zK_x (zK_x (zK_x hk rfl) rfl) rfl) rfl) rfl, ⟨?_, ?_, ?_, ?_, ?_, ?_, fun p p1 p2 => ?_, fun p p1 p2 => ?_⟩, rfl, rfl⟩
    · rfl
    · rfl
    · rfl
    · rfl
    · exact hw2
    · show 0 = (if w ≤ 0 then (0 : Int) else -2)
      split <;> first | rfl | (exfalso; omega)
    · exact (hf p p1 p2).1
    · exact (hf p p1 p2).2
theorem follow_z {X : Nat × (Nat → Int32)} {d : Nat} {J0 M : zA} {R : zR} {N : Int → Int → Int} {n : Int} (hR : zRok R) (hA : cN J0 = N) (hz : J0 8 2 = n) (hN : zNr n N) {T : zX} (hT : LawC X J0 R T) (hTr : Tok T) {s w z : Int} {b : Int → Int} (hs : 0 ≤ s ∧ s < 6) (hb : ∀ i, 0 ≤ i → i < z → M (39 + 2 * s.toNat) i = b i) (hbr : ∀ i, 0 ≤ i → i < z → -128 ≤ b i ∧ b i ≤ 127) (hz0 : J0 (38 + 2 * s.toNat) 3 = z) (hzr : 0 ≤ z ∧ z ≤ 60) (hw2 : 0 ≤ w ∧ w ≤ 1000000) : ∀ (j k : Nat) (J : zA), zK kP J0 J → cTr J (tS T N n b w k) k w → cTw J T N n b w k → (∀ i, i < k → tOk T N n b w z i) → k + j = 31 → zW X (d + 8) 78 20 [some (.ref 10), some (.ref (38 + 2 * s.toNat)), some (zi 0), some (zi 1), some (zi (2 * (k : Int)))] [] J M R (fun r J2 M2 R2 => r = some (zi 0) ∧ ∃ K : Nat, tEnd T N n b w z K ∧ K ≤ 30 ∧ zK kP J0 J2 ∧ cTr J2 (tS T N n b w K) K w ∧ cTw J2 T N n b w K ∧ M2 = M ∧ R2 = R) := by
  intro j
  induction j with
  | zero =>
    intro k J hk hc hcw hok hj
    exfalso
    have := (hok 30 (by omega)).1
    omega
  | succ j ih =>
    intro k J hk hc hcw hok hj
    have hA2 : cN J = N := (cN_P hk).trans hA
    have hz2 : J 8 2 = n := (hk 8 2 rfl).trans hz
    have hsz : J (38 + 2 * s.toNat) 3 = z := (hk _ 3 (kP_b (by omega))).trans hz0
    have hi := tS_r (T := T) (n := n) (b := b) (w := w) (z := z) hN k hok
    refine z_iload4 gi_78_20 ?_
    refine z_pushJ gp_78_22 ?_
    refine z_iadd (e := 2 * (k : Int) + 1) gi_78_23 rfl ?_
    refine z_aload1 gi_78_24 ?_
    refine z_getI (v := z) gi_78_25 (zk_shelf (by omega)) (hsz) ?_
    refine z_icmp_ge gi_78_28 (by omega) (by omega) (fun h1 => ?_) (fun h1 => ?_)
    · refine z_pushJ gp_78_62 ?_
      refine z_iret gi_78_63 gr_78 ?_
      refine ⟨rfl, k, ⟨hok, ?_⟩, by omega, hk, hc, hcw, rfl, rfl⟩
      intro hh
      first | exact hC hh.2 | (exact absurd hh.1 (by omega))
    · refine z_iload3 gi_78_31 ?_
      refine z_if_eqF gi_78_32 zr_1 (by decide) ?_
      refine z_aload0 rfl ?_
      refine z_aload1 rfl ?_
      refine z_iload4 rfl ?_
      refine z_callVi (As := [_]) (le := [some _, some _]) rfl rfl (zk_shelf (by omega)) (Nat.le_of_ble_eq_true rfl) (Nat.le_of_ble_eq_true rfl) rfl ?_
      refine z_iload1 gi_72_0 ?_
      refine z_if_ltF gi_72_1 (by omega) (by omega) ?_
      refine z_iload1 gi_72_4 ?_
      refine z_aload0 gi_72_5 ?_
      refine z_getI (v := z) gi_72_6 (zk_shelf (by omega)) (hsz) ?_
      refine z_icmp_geF gi_72_9 (by omega) (by omega) (by omega) ?_
      refine z_aload0 gi_72_12 ?_
      refine z_getR (r := 39 + 2 * s.toNat) gi_72_13 (zk_shelf (by omega)) (rr_cells hR (by omega)) ?_
      refine z_iload1 gi_72_16 ?_
      refine z_lald (v := b (2 * (k : Int))) gi_72_17 (zk_cells (by omega)) (by decide) (by omega) (hb _ (by omega) (by omega)) ?_
      refine z_goto gi_72_18 ?_
      refine z_lret gi_72_22 gr_72 ?_
      show zW _ _ _ _ _ _ _ _ _ _
      refine z_l2i rfl ?_
      refine z_aload1 rfl ?_
      refine z_iload4 rfl ?_
      refine z_pushJ gp_78_46 ?_
      refine z_iadd (e := 2 * (k : Int) + 1) rfl rfl ?_
      refine z_callVi (As := [_]) (le := [some _, some _]) rfl rfl (zk_shelf (by omega)) (Nat.le_of_ble_eq_true rfl) (Nat.le_of_ble_eq_true rfl) rfl ?_
      refine z_iload1 gi_72_0 ?_
      refine z_if_ltF gi_72_1 (by omega) (by omega) ?_
      refine z_iload1 gi_72_4 ?_
      refine z_aload0 gi_72_5 ?_
      refine z_getI (v := z) gi_72_6 (zk_shelf (by omega)) (hsz) ?_
      refine z_icmp_geF gi_72_9 (by omega) (by omega) (by omega) ?_
      refine z_aload0 gi_72_12 ?_
      refine z_getR (r := 39 + 2 * s.toNat) gi_72_13 (zk_shelf (by omega)) (rr_cells hR (by omega)) ?_
      refine z_iload1 gi_72_16 ?_
      refine z_lald (v := b (2 * (k : Int) + 1)) gi_72_17 (zk_cells (by omega)) (by decide) (by omega) (hb _ (by omega) (by omega)) ?_
      refine z_goto gi_72_18 ?_
      refine z_lret gi_72_22 gr_72 ?_
      show zW _ _ _ _ _ _ _ _ _ _
      refine z_l2i rfl ?_
      refine z_callV (As := [_, _]) _ rfl rfl rfl (Nat.le_of_ble_eq_true rfl) (Nat.le_of_ble_eq_true rfl) (goOn_k (s := (tS T N n b w k)) (k := k) (w := w) hR hA2 hz2 hN (LawC_P hT hk) hTr hc (by omega) hw2 hi.1 (by have := hbr (2 * (k : Int)) (by omega) (by omega); omega) (by have := hbr (2 * (k : Int) + 1) (by omega) (by omega); omega)) (fun r J2 M2 R2 hr => ?_)
      rcases hr with ⟨rfl, hC, hk2, hc2, ho, o13, o14, o15, o16, o17, rfl, rfl⟩ | ⟨rfl, hC, rfl, rfl, rfl⟩
      · show zW _ _ _ _ _ (_ :: _) _ _ _ _
        refine z_istore (ls1 := [some (.ref 10), some (.ref (38 + 2 * s.toNat)), some (zi 0), some (zi 1), some (zi (2 * (k : Int)))]) gi_78_55 rfl ?_
        refine z_iinc (c := 2) (e := 2 * (k : Int) + 2) (ls1 := [some (.ref 10), some (.ref (38 + 2 * s.toNat)), some (zi 0), some (zi 1), some (zi (2 * (k : Int) + 2))]) gi_78_56 rfl rfl rfl rfl ?_
        refine z_goto gi_78_59 ?_
        show zW _ _ _ _ [some (.ref 10), some (.ref (38 + 2 * s.toNat)), some (zi 0), some (zi 1), some (zi (2 * (k : Int) + 2))] [] _ _ _ _
        rw [show 2 * (k : Int) + 2 = 2 * ((k + 1 : Nat) : Int) by omega]
        refine ih (k + 1) J2 (zK_t hk hk2) hc2 (fun t ht => ?_) (fun i hi => ?_) (by omega)
        · by_cases e : t = k
          · subst e
            exact ⟨o13, o14, o15, o16, o17⟩
          · obtain ⟨a1, a2, a3, a4, a5⟩ := ho t (by omega)
            obtain ⟨b1, b2, b3, b4, b5⟩ := hcw t (by omega)
            exact ⟨a1.trans b1, a2.trans b2, a3.trans b3, a4.trans b4, a5.trans b5⟩
        · by_cases e : i = k
          · subst e
            exact ⟨h1, hC⟩
          · exact hok i (by omega)
      · show zW _ _ _ _ _ (_ :: _) _ _ _ _
        refine z_istore (ls1 := [some (.ref 10), some (.ref (38 + 2 * s.toNat)), some (zi 0), some (zi 0), some (zi (2 * (k : Int)))]) gi_78_55 rfl ?_
        refine z_iinc (c := 2) (e := 2 * (k : Int) + 2) (ls1 := [some (.ref 10), some (.ref (38 + 2 * s.toNat)), some (zi 0), some (zi 0), some (zi (2 * (k : Int) + 2))]) gi_78_56 rfl rfl rfl rfl ?_
        refine z_goto gi_78_59 ?_
        refine z_iload4 gi_78_20 ?_
        refine z_pushJ gp_78_22 ?_
        refine z_iadd (e := 2 * (k : Int) + 2 + 1) gi_78_23 rfl ?_
        refine z_aload1 gi_78_24 ?_
        refine z_getI (v := z) gi_78_25 (zk_shelf (by omega)) (hsz) ?_
        refine z_icmp_ge gi_78_28 (by omega) (by omega) (fun h2 => ?_) (fun h2 => ?_)
        · refine z_pushJ gp_78_62 ?_
          refine z_iret gi_78_63 gr_78 ?_
          refine ⟨rfl, k, ⟨hok, ?_⟩, by omega, hk, hc, hcw, rfl, rfl⟩
          intro hh
          first | exact hC hh.2 | (exact absurd hh.1 (by omega))
        · refine z_iload3 gi_78_31 ?_
          refine z_if_eqT gi_78_32 zr_0 (by decide) ?_
          refine z_pushJ gp_78_62 ?_
          refine z_iret gi_78_63 gr_78 ?_
          refine ⟨rfl, k, ⟨hok, ?_⟩, by omega, hk, hc, hcw, rfl, rfl⟩
          intro hh
          first | exact hC hh.2 | (exact absurd hh.1 (by omega))
theorem follow_k {X : Nat × (Nat → Int32)} {d : Nat} {J M : zA} {R : zR} {N : Int → Int → Int} {n : Int} (hR : zRok R) (hA : cN J = N) (hz : J 8 2 = n) (hN : zNr n N) {T : zX} (hT : LawC X J R T) (hTr : Tok T) {s w z : Int} {b : Int → Int} (hs : 0 ≤ s ∧ s < 6) (hb : ∀ i, 0 ≤ i → i < z → M (39 + 2 * s.toNat) i = b i) (hbr : ∀ i, 0 ≤ i → i < z → -128 ≤ b i ∧ b i ≤ 127) (hz0 : J (38 + 2 * s.toNat) 3 = z) (hzr : 0 ≤ z ∧ z ≤ 60) (hh : J (38 + 2 * s.toNat) 0 = 2) (hso : J (38 + 2 * s.toNat) 2 = 0) (hw : J 10 12 = w) (hw2 : 0 ≤ w ∧ w ≤ 1000000) : zW X (d + 8) 78 0 (gEn 78 [(.ref 10), (.ref (38 + 2 * s.toNat))]) [] J M R (fun r J2 M2 R2 => r = some (zi 0) ∧ ∃ K : Nat, tEnd T N n b w z K ∧ K ≤ 30 ∧ zK kP J J2 ∧ cTr J2 (tS T N n b w K) K w ∧ cTw J2 T N n b w K ∧ M2 = M ∧ R2 = R) := by
  show zW _ _ _ _ [some (.ref 10), some (.ref (38 + 2 * s.toNat)), none, none, none] _ _ _ _ _
  refine z_aload1 gi_78_0 ?_
  refine z_callVi (As := []) (le := [some _]) gi_78_1 rfl (zk_shelf (by omega)) (Nat.le_of_ble_eq_true rfl) (Nat.le_of_ble_eq_true rfl) rfl ?_
  refine z_aload0 gi_69_0 ?_
  refine z_getI (v := 2) gi_69_1 (zk_shelf (by omega)) (hh) ?_
  refine z_if_neT gi_69_4 zr_2 (by decide) ?_
  refine z_aload0 gi_69_10 ?_
  refine z_callVi (As := []) (le := [some _]) gi_69_11 rfl (zk_shelf (by omega)) (Nat.le_of_ble_eq_true rfl) (Nat.le_of_ble_eq_true rfl) rfl ?_
  refine z_aload0 gi_64_0 ?_
  refine z_getI (v := 2) gi_64_1 (zk_shelf (by omega)) (hh) ?_
  refine z_pushJ gp_64_4 ?_
  refine z_icmp_neF gi_64_5 zr_2 zr_2 (by decide) ?_
  refine z_aload0 gi_64_8 ?_
  refine z_getI (v := 0) gi_64_9 (zk_shelf (by omega)) (hso) ?_
  refine z_if_neF gi_64_12 zr_0 (by decide) ?_
  refine z_pushJ gp_64_15 ?_
  refine z_goto gi_64_16 ?_
  refine z_bret1 gi_64_20 gr_64 ?_
  show zW _ _ _ _ _ _ _ _ _ _
  refine z_if_eqF gi_69_14 zr_1 (by decide) ?_
  refine z_pushJ gp_69_17 ?_
  refine z_goto gi_69_18 ?_
  refine z_iret gi_69_23 gr_69 ?_
  show zW _ _ _ _ _ _ _ _ _ _
  refine z_istore (ls1 := [some (.ref 10), some (.ref (38 + 2 * s.toNat)), some (zi 0), none, none]) gi_78_4 rfl ?_
  refine z_iload2 gi_78_5 ?_
  refine z_if_geT gi_78_6 zr_0 (by decide) ?_
  refine z_aload0 rfl ?_
  refine z_callV (As := []) _ rfl rfl rfl (Nat.le_of_ble_eq_true rfl) (Nat.le_of_ble_eq_true rfl) (begin_k hR hA hz hN hw hw2) (fun r J2 M2 R2 hr => ?_)
  obtain ⟨rfl, hk, hc, rfl, rfl⟩ := hr
  show zW _ _ _ _ _ _ _ _ _ _
  refine z_pushJ gp_78_15 ?_
  refine z_istore (ls1 := [some (.ref 10), some (.ref (38 + 2 * s.toNat)), some (zi 0), some (zi 1), none]) rfl rfl ?_
  refine z_pushJ gp_78_17 ?_
  refine z_istore (ls1 := [some (.ref 10), some (.ref (38 + 2 * s.toNat)), some (zi 0), some (zi 1), some (zi 0)]) rfl rfl ?_
  show zW _ _ _ _ [some (.ref 10), some (.ref (38 + 2 * s.toNat)), some (zi 0), some (zi 1), some (zi 0)] [] _ _ _ _
  exact follow_z hR hA hz hN hT hTr hs hb hbr hz0 hzr hw2 31 0 J2 hk hc (fun t ht => by omega) (fun i hi => by omega) (by omega)
theorem follow_n {X : Nat × (Nat → Int32)} {d : Nat} {J M : zA} {R : zR} {s : Int} (hR : zRok R) (hs : 0 ≤ s ∧ s < 6) (h0 : 0 ≤ J (38 + 2 * s.toNat) 0 ∧ J (38 + 2 * s.toNat) 0 ≤ 2) (h2 : 0 ≤ J (38 + 2 * s.toNat) 2 ∧ J (38 + 2 * s.toNat) 2 ≤ 4) (hh : ¬ (J (38 + 2 * s.toNat) 0 = 2 ∧ J (38 + 2 * s.toNat) 2 = 0)) : zW X (d + 8) 78 0 (gEn 78 [(.ref 10), (.ref (38 + 2 * s.toNat))]) [] J M R (zPu (if J (38 + 2 * s.toNat) 0 = 0 then -11 else -12) J M R) := by
  show zW _ _ _ _ [some (.ref 10), some (.ref (38 + 2 * s.toNat)), none, none, none] _ _ _ _ _
  refine z_aload1 gi_78_0 ?_
  refine z_callVi (As := []) (le := [some _]) gi_78_1 rfl (zk_shelf (by omega)) (Nat.le_of_ble_eq_true rfl) (Nat.le_of_ble_eq_true rfl) rfl ?_
  refine z_aload0 gi_69_0 ?_
  refine z_getI (v := J (38 + 2 * s.toNat) 0) gi_69_1 (zk_shelf (by omega)) (rfl) ?_
  refine z_if_ne gi_69_4 (by omega) (fun h1 => ?_) (fun h1 => ?_)
  · refine z_aload0 gi_69_10 ?_
    refine z_callVi (As := []) (le := [some _]) gi_69_11 rfl (zk_shelf (by omega)) (Nat.le_of_ble_eq_true rfl) (Nat.le_of_ble_eq_true rfl) rfl ?_
    refine z_aload0 gi_64_0 ?_
    refine z_getI (v := J (38 + 2 * s.toNat) 0) gi_64_1 (zk_shelf (by omega)) (rfl) ?_
    refine z_pushJ gp_64_4 ?_
    refine z_icmp_ne gi_64_5 (by omega) zr_2 (fun h2 => ?_) (fun h2 => ?_)
    · refine z_pushJ gp_64_19 ?_
      refine z_bret0 gi_64_20 gr_64 ?_
      show zW _ _ _ _ _ _ _ _ _ _
      refine z_if_eqT gi_69_14 zr_0 (by decide) ?_
      refine z_pushJ gp_69_21 ?_
      refine z_iret gi_69_23 gr_69 ?_
      show zW _ _ _ _ _ _ _ _ _ _
      refine z_istore (ls1 := [some (.ref 10), some (.ref (38 + 2 * s.toNat)), some (zi (-12)), none, none]) gi_78_4 rfl ?_
      refine z_iload2 gi_78_5 ?_
      refine z_if_geF gi_78_6 zrn_12 (by decide) ?_
      refine z_iload2 gi_78_9 ?_
      refine z_iret gi_78_10 gr_78 ?_
      refine ⟨congrArg (fun v => some (zi v)) ?_, rfl, rfl, rfl⟩
      split <;> first | rfl | (exfalso; omega)
    · refine z_aload0 gi_64_8 ?_
      refine z_getI (v := J (38 + 2 * s.toNat) 2) gi_64_9 (zk_shelf (by omega)) (rfl) ?_
      refine z_if_ne gi_64_12 (by omega) (fun h3 => ?_) (fun h3 => ?_)
      · refine z_pushJ gp_64_19 ?_
        refine z_bret0 gi_64_20 gr_64 ?_
        show zW _ _ _ _ _ _ _ _ _ _
        refine z_if_eqT gi_69_14 zr_0 (by decide) ?_
        refine z_pushJ gp_69_21 ?_
        refine z_iret gi_69_23 gr_69 ?_
        show zW _ _ _ _ _ _ _ _ _ _
        refine z_istore (ls1 := [some (.ref 10), some (.ref (38 + 2 * s.toNat)), some (zi (-12)), none, none]) gi_78_4 rfl ?_
        refine z_iload2 gi_78_5 ?_
        refine z_if_geF gi_78_6 zrn_12 (by decide) ?_
        refine z_iload2 gi_78_9 ?_
        refine z_iret gi_78_10 gr_78 ?_
        refine ⟨congrArg (fun v => some (zi v)) ?_, rfl, rfl, rfl⟩
        split <;> first | rfl | (exfalso; omega)
      · refine z_pushJ gp_64_15 ?_
        refine z_goto gi_64_16 ?_
        refine z_bret1 gi_64_20 gr_64 ?_
        show zW _ _ _ _ _ _ _ _ _ _
        refine z_if_eqF gi_69_14 zr_1 (by decide) ?_
        refine z_pushJ gp_69_17 ?_
        refine z_goto gi_69_18 ?_
        refine z_iret gi_69_23 gr_69 ?_
        show zW _ _ _ _ _ _ _ _ _ _
        refine z_istore (ls1 := [some (.ref 10), some (.ref (38 + 2 * s.toNat)), some (zi 0), none, none]) gi_78_4 rfl ?_
        refine z_iload2 gi_78_5 ?_
        refine z_if_geT gi_78_6 zr_0 (by decide) ?_
        show zW _ _ _ _ [some (.ref 10), some (.ref (38 + 2 * s.toNat)), some (zi 0), none, none] [] _ _ _ _
        exfalso
        omega
  · refine z_pushJ gp_69_7 ?_
    refine z_iret gi_69_9 gr_69 ?_
    show zW _ _ _ _ _ _ _ _ _ _
    refine z_istore (ls1 := [some (.ref 10), some (.ref (38 + 2 * s.toNat)), some (zi (-11)), none, none]) gi_78_4 rfl ?_
    refine z_iload2 gi_78_5 ?_
    refine z_if_geF gi_78_6 zrn_11 (by decide) ?_
    refine z_iload2 gi_78_9 ?_
    refine z_iret gi_78_10 gr_78 ?_
    refine ⟨congrArg (fun v => some (zi v)) ?_, rfl, rfl, rfl⟩
    split <;> first | rfl | (exfalso; omega)
