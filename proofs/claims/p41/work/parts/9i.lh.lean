theorem linea {X : Nat × (Nat → Int32)} {M : zA} {R : zR} (hds : R 1 6 = some 5) (hdv : R 1 7 = some 6) (hR : zRok R) {A : zA} {c : Int → Int} {f : Int} (hf : A 1 1 = f) (hc : ∀ i, 0 ≤ i → i < f → A 2 i = c i) (ht : tp c f) {a k : Int} {D : Nat} {J : zA} (hJ : zK (kL [5, 6] [(1, 2), (1, 8)]) A J) (hat : J 1 2 = a) (ha : 0 ≤ a ∧ a ≤ f) (hkk : J 1 8 = k) (hk0 : 0 ≤ k ∧ k ≤ a) (hD : 106 ≤ D) : zW X D 29 0 (gEn 29 [.ref 1]) [] J M R (rda c k (lrs c a) J M R) := by
  obtain ⟨D, rfl⟩ : ∃ e, D = e + 6 := ⟨D - 6, by omega⟩
  have tf := ht.1
  show zW _ _ _ _ [some (.ref 1)] _ _ _ _ _
  refine z_aload0 gi_29_0 ?_
  refine z_pushJ gp_29_1 ?_
  refine z_pushJ gp_29_2 ?_
  have gx := (pE_g ht 48 0 0 a (by omega) ha).1
  have gl : (pE c 48 0 0 a).1 = true → (a < (pE c 48 0 0 a).2.1 ∧ ((pE c 48 0 0 a).2.2.length : Int) ≤ (pE c 48 0 0 a).2.1 - a) := fun t => (pE_gd ht ha t).1
  refine z_callV (As := [_, _]) _ gi_29_3 rfl rfl (Nat.le_of_ble_eq_true rfl) (Nat.le_of_ble_eq_true rfl) ((rdAlla hds hdv hR hf hc ht 48).2 0 0 a k _ _ (by omega) hJ hat ha hkk hk0 (by omega)) (fun r J2 M2 R2 hr => ?_)
  obtain ⟨⟨hk2, h22, hke, eM, eR⟩, hr⟩ := hr
  obtain rfl : M = M2 := eM.symm
  obtain rfl : R = R2 := eR.symm
  have hJ2 : zK (kL [5, 6] [(1, 2), (1, 8)]) J J2 := zK_t zK_r hk2
  have hJ3 : zK (kL [5, 6] [(1, 2), (1, 8)]) A J2 := zK_t hJ hJ2
  have hb0 : ∀ j, j < k → J 5 j = J 5 j ∧ J 6 j = J 6 j := fun j hj => ⟨rfl, rfl⟩
  have hke2 : ∀ j, j < k → J2 5 j = J 5 j ∧ J2 6 j = J 6 j := fun j hj => ⟨(hke j hj).1.trans (hb0 j hj).1, (hke j hj).2.trans (hb0 j hj).2⟩
  rcases hr with ⟨ok, rfl, h28, hl⟩ | ⟨ok, h28, rfl | ⟨rfl, qd⟩⟩
  · show zW _ _ _ _ _ (_ :: _) _ _ _ _
    have gl2 := gl ok
    refine z_if_neT gi_29_6 zr_1 (by decide) ?_
    refine z_aload0 gi_29_11 ?_
    refine z_callVP (As := []) (v := c ((pE c 48 0 0 a).2.1)) gi_29_12 rfl gk_1 (Nat.le_of_ble_eq_true rfl) (Nat.le_of_ble_eq_true rfl) (here_a hds hdv hR hf hc ht hJ3 (by exact h22) (by omega)) ?_
    have q1 := tp_r ht ((pE c 48 0 0 a).2.1) (by omega)
    refine z_pushJ gp_29_15 ?_
    refine z_icmp_eq gi_29_17 (by omega) zr_63 (fun h2 => ?_) (fun h2 => ?_)
    · refine z_aload0 gi_29_22 ?_
      refine z_dup gi_29_23 rfl ?_
      refine z_getI (v := (pE c 48 0 0 a).2.1) gi_29_24 gk_1 (h22) ?_
      refine z_pushJ gp_29_27 ?_
      refine z_iadd (e := ((pE c 48 0 0 a).2.1) + 1) gi_29_28 rfl ?_
      refine z_putI (y := 2) gi_29_29 rfl gk_1 ?_
      refine z_aload0 gi_29_32 ?_
      refine z_pushJ gp_29_33 ?_
      refine z_pushJ gp_29_35 ?_
      refine z_callVx (As := [_, _]) gi_29_36 rfl gk_1 (Nat.le_of_ble_eq_true rfl) (Nat.le_of_ble_eq_true rfl) (addCode_a (k := k + ((pE c 48 0 0 a).2.2.length : Int)) (s := 63) (v := 0) hds hdv (by exact (zU_x (by decide)).trans (h28)) (by omega)) ?_
      show zW _ _ _ _ _ _ _ _ _ _
      refine z_aload0 gi_29_39 ?_
      refine z_pushJ gp_29_40 ?_
      refine z_pushJ gp_29_41 ?_
      have hl2 : lay (zU (zU (zU (zU J2 1 2 (((pE c 48 0 0 a).2.1) + 1)) 5 (k + ((pE c 48 0 0 a).2.2.length : Int)) 63) 6 (k + ((pE c 48 0 0 a).2.2.length : Int)) 0) 1 8 (k + ((pE c 48 0 0 a).2.2.length : Int) + 1)) 5 6 k ((pE c 48 0 0 a).2.2 ++ [(63, 0)]) := lay_app _ _ k (lay_keep _ k _ hl (Int.le_refl _) (fun j hj => ⟨(zU_n (by decide)).trans ((zU_n (by decide)).trans ((zU_x (by omega)).trans (zU_n (by decide)))), (zU_n (by decide)).trans ((zU_x (by omega)).trans ((zU_n (by decide)).trans (zU_n (by decide))))⟩)) ⟨⟨(zU_n (by decide)).trans ((zU_n (by decide)).trans (zU_e)), (zU_n (by decide)).trans (zU_e)⟩, trivial⟩
      have e1 : k + ((pE c 48 0 0 a).2.2.length : Int) + 1 = k + (((pE c 48 0 0 a).2.2 ++ [(63, 0)]).length : Int) := by rw [List.length_append, List.length_singleton]; omega
      have hp := tp_lt ht (show ¬ c (pE c 48 0 0 a).2.1 = -1 by omega)
      refine z_callV (As := [_, _]) _ gi_29_42 rfl rfl (Nat.le_of_ble_eq_true rfl) (Nat.le_of_ble_eq_true rfl) ((rdAlla hds hdv hR hf hc ht 48).2 0 0 ((pE c 48 0 0 a).2.1 + 1) (k + (((pE c 48 0 0 a).2.2 ++ [(63, 0)]).length : Int)) _ (zU (zU (zU (zU J2 1 2 (((pE c 48 0 0 a).2.1) + 1)) 5 (k + ((pE c 48 0 0 a).2.2.length : Int)) 63) 6 (k + ((pE c 48 0 0 a).2.2.length : Int)) 0) 1 8 (k + ((pE c 48 0 0 a).2.2.length : Int) + 1)) (by omega) (zK_x (a := 1) (x := 8) (v := (k + ((pE c 48 0 0 a).2.2.length : Int) + 1)) (zK_x (a := 6) (x := (k + ((pE c 48 0 0 a).2.2.length : Int))) (v := 0) (zK_x (a := 5) (x := (k + ((pE c 48 0 0 a).2.2.length : Int))) (v := 63) (zK_x (a := 1) (x := 2) (v := ((pE c 48 0 0 a).2.1) + 1) hJ3 rfl) rfl) rfl) rfl) ((zU_x (by decide)).trans ((zU_n (by decide)).trans ((zU_n (by decide)).trans (zU_e)))) (by omega) (zU_e.trans e1) (by omega) (by omega)) (fun r J6 M6 R6 hr6 => ?_)
      have hr7 := rdca ((zK_x (a := 1) (x := 8) (v := (k + ((pE c 48 0 0 a).2.2.length : Int) + 1)) (zK_x (a := 6) (x := (k + ((pE c 48 0 0 a).2.2.length : Int))) (v := 0) (zK_x (a := 5) (x := (k + ((pE c 48 0 0 a).2.2.length : Int))) (v := 63) (zK_x (a := 1) (x := 2) (v := ((pE c 48 0 0 a).2.1) + 1) hJ2 rfl) rfl) rfl) rfl)) (fun j hj => ⟨(zU_n (by decide)).trans ((zU_n (by decide)).trans ((zU_x (by omega)).trans ((zU_n (by decide)).trans ((hke2 j hj).1)))), (zU_n (by decide)).trans ((zU_x (by omega)).trans ((zU_n (by decide)).trans ((zU_n (by decide)).trans ((hke2 j hj).2))))⟩) hl2 hr6
      obtain ⟨v, rfl, hv⟩ := rdva hr6
      show zW _ _ _ _ _ (_ :: _) _ _ _ _
      refine z_bret gi_29_45 gr_29 (by omega) ?_
      rw [lrs_t ht ha ok (by omega), show (pE c 48 0 0 a).2.2 ++ (63, 0) :: (pE c 48 0 0 ((pE c 48 0 0 a).2.1 + 1)).2.2 = ((pE c 48 0 0 a).2.2 ++ [(63, 0)]) ++ (pE c 48 0 0 ((pE c 48 0 0 a).2.1 + 1)).2.2 by rw [List.append_assoc]; rfl]
      exact hr7
    · refine z_pushJ gp_29_20 ?_
      refine z_bret1 gi_29_21 gr_29 ?_
      rw [lrs_n ok (by omega)]
      exact ⟨⟨hJ2, h22, hke2, rfl, rfl⟩, Or.inl ⟨rfl, rfl, h28, hl⟩⟩
  · show zW _ _ _ _ _ (_ :: _) _ _ _ _
    refine z_if_neF gi_29_6 zr_0 (by decide) ?_
    refine z_pushJ gp_29_9 ?_
    refine z_bret0 gi_29_10 gr_29 ?_
    rw [lrs_f ok]
    exact ⟨⟨hJ2, h22, hke2, rfl, rfl⟩, Or.inr ⟨rfl, h28, Or.inl rfl⟩⟩
  · show zW _ _ _ _ _ (_ :: _) _ _ _ _
    refine z_if_neT gi_29_6 zr_1 (by decide) ?_
    refine z_aload0 gi_29_11 ?_
    refine z_callVP (As := []) (v := c ((pE c 48 0 0 a).2.1)) gi_29_12 rfl gk_1 (Nat.le_of_ble_eq_true rfl) (Nat.le_of_ble_eq_true rfl) (here_a hds hdv hR hf hc ht hJ3 (by exact h22) (by omega)) ?_
    have q1 := tp_r ht ((pE c 48 0 0 a).2.1) (by omega)
    refine z_pushJ gp_29_15 ?_
    refine z_icmp_eqF gi_29_17 (by omega) zr_63 (by omega) ?_
    refine z_pushJ gp_29_20 ?_
    refine z_bret1 gi_29_21 gr_29 ?_
    rw [lrs_f ok]
    exact ⟨⟨hJ2, h22, hke2, rfl, rfl⟩, Or.inr ⟨rfl, h28, Or.inr ⟨rfl, qd⟩⟩⟩
noncomputable def rta (k : Int) (x : Bool × Int × List lnT) (J M : zA) (R : zR) : zP := fun r J2 M2 R2 => (zK (kL [5, 6] [(1, 2), (1, 8)]) J J2 ∧ J2 1 2 = x.2.1 ∧ (∀ j, j < k → J2 5 j = J 5 j ∧ J2 6 j = J 6 j) ∧ M2 = M ∧ R2 = R) ∧ ((x.1 = true ∧ r = some (zi 1) ∧ J2 1 8 = k + ((tcs x.2.2).length : Int) ∧ lay J2 5 6 k (tcs x.2.2)) ∨ (x.1 = false ∧ r = some (zi 0)))
theorem rtca {k : Int} {l : lnT} {y : Bool × Int × List lnT} {J J3 M J2 M2 : zA} {R R2 : zR} {r : Option Value} (h3 : zK (kL [5, 6] [(1, 2), (1, 8)]) J J3) (hke : ∀ j, j < k → J3 5 j = J 5 j ∧ J3 6 j = J 6 j) (hl : lay J3 5 6 k (lcs l ++ [(59, 0)])) (h : rta (k + ((lcs l ++ [(59, 0)]).length : Int)) y J3 M R r J2 M2 R2) : rta k (y.1, y.2.1, l :: y.2.2) J M R r J2 M2 R2 := by
  obtain ⟨⟨a1, a2, a3, a4, a5⟩, b⟩ := h
  refine ⟨⟨zK_t h3 a1, a2, fun j hj => ?_, a4, a5⟩, ?_⟩
  · have q1 := a3 j (by omega)
    have q2 := hke j hj
    exact ⟨q1.1.trans q2.1, q1.2.trans q2.2⟩
  · rcases b with ⟨b1, b2, b3, b4⟩ | ⟨b1, b2⟩
    · refine Or.inl ⟨b1, b2, ?_, lay_app (lcs l ++ [(59, 0)]) (tcs y.2.2) k (lay_keep _ k _ hl (Int.le_refl _) a3) b4⟩
      rw [b3]
      show k + ((lcs l ++ [(59, 0)]).length : Int) + ((tcs y.2.2).length : Int) = k + (((lcs l ++ [(59, 0)]) ++ tcs y.2.2).length : Int)
      rw [List.length_append (as := lcs l ++ [(59, 0)])]
      omega
    · exact Or.inr ⟨b1, b2⟩
theorem texta {X : Nat × (Nat → Int32)} {M : zA} {R : zR} (hds : R 1 6 = some 5) (hdv : R 1 7 = some 6) (hR : zRok R) {A : zA} {c : Int → Int} {f : Int} (hf : A 1 1 = f) (hc : ∀ i, 0 ≤ i → i < f → A 2 i = c i) (ht : tp c f) : ∀ (m : Nat) (i a k : Int) (D : Nat) (J : zA), (i + m = 121 ∧ 0 ≤ i ∧ 121 ≤ a + m) → zK (kL [5, 6] [(1, 2), (1, 8)]) A J → J 1 2 = a → (0 ≤ a ∧ a ≤ f) → J 1 8 = k → (0 ≤ k ∧ k ≤ a) → 107 ≤ D → zW X D 28 12 [some (.ref 1), some (zi i)] [] J M R (rta k (pT c f m a) J M R) := by
  intro m
  induction m with
  | zero =>
    intro i a k D J him hJ hat ha hkk hk0 hD
    have tf := ht.1
    exfalso
    omega
  | succ m ih =>
    intro i a k D J him hJ hat ha hkk hk0 hD
    obtain ⟨D, rfl⟩ : ∃ e, D = e + 6 := ⟨D - 6, by omega⟩
    have tf := ht.1
    refine z_iload1 gi_28_12 ?_
    refine z_pushJ gp_28_13 ?_
    refine z_icmp_gtF gi_28_15 (by omega) zr_120 (by omega) ?_
    refine z_aload0 gi_28_18 ?_
    have gx := (pLn_g ht ha).1
    have gl : (lrs c a).1 = true → (a < (lrs c a).2.1 ∧ ((lrs c a).2.2.length : Int) ≤ (lrs c a).2.1 - a) := fun t => ((pLn_g ht ha).2 t).1
    have gx2 : a ≤ (lrs c a).2.1 ∧ (lrs c a).2.1 ≤ f := gx
    refine z_callV (As := []) _ gi_28_19 rfl rfl (Nat.le_of_ble_eq_true rfl) (Nat.le_of_ble_eq_true rfl) (linea hds hdv hR hf hc ht hJ hat ha hkk hk0 (by omega)) (fun r J2 M2 R2 hr => ?_)
    obtain ⟨⟨hk2, h22, hke, eM, eR⟩, hr⟩ := hr
    obtain rfl : M = M2 := eM.symm
    obtain rfl : R = R2 := eR.symm
    have hJ2 : zK (kL [5, 6] [(1, 2), (1, 8)]) J J2 := zK_t zK_r hk2
    have hJ3 : zK (kL [5, 6] [(1, 2), (1, 8)]) A J2 := zK_t hJ hJ2
    have hb0 : ∀ j, j < k → J 5 j = J 5 j ∧ J 6 j = J 6 j := fun j hj => ⟨rfl, rfl⟩
    have hke2 : ∀ j, j < k → J2 5 j = J 5 j ∧ J2 6 j = J 6 j := fun j hj => ⟨(hke j hj).1.trans (hb0 j hj).1, (hke j hj).2.trans (hb0 j hj).2⟩
    rcases hr with ⟨ok, rfl, h28, hl⟩ | ⟨ok, h28, rfl | ⟨rfl, qd⟩⟩
    · show zW _ _ _ _ _ (_ :: _) _ _ _ _
      have gl2 := gl ok
      refine z_if_neT gi_28_22 zr_1 (by decide) ?_
      refine z_aload0 gi_28_27 ?_
      refine z_pushJ gp_28_28 ?_
      refine z_pushJ gp_28_30 ?_
      refine z_callVx (As := [_, _]) gi_28_31 rfl gk_1 (Nat.le_of_ble_eq_true rfl) (Nat.le_of_ble_eq_true rfl) (addCode_a (k := k + ((lrs c a).2.2.length : Int)) (s := 59) (v := 0) hds hdv (by exact h28) (by omega)) ?_
      show zW _ _ _ _ _ _ _ _ _ _
      refine z_aload0 gi_28_34 ?_
      refine z_getI (v := (lrs c a).2.1) gi_28_35 gk_1 ((zU_x (by decide)).trans ((zU_n (by decide)).trans ((zU_n (by decide)).trans (h22)))) ?_
      refine z_aload0 gi_28_38 ?_
      refine z_getI (v := f) gi_28_39 gk_1 ((zU_x (by decide)).trans ((zU_n (by decide)).trans ((zU_n (by decide)).trans ((hJ3 1 1 rfl).trans hf)))) ?_
      refine z_icmp_lt gi_28_42 (by omega) (by omega) (fun h1 => ?_) (fun h1 => ?_)
      · refine z_aload0 gi_28_47 ?_
        refine z_callVP (As := []) (v := c ((lrs c a).2.1)) gi_28_48 rfl gk_1 (Nat.le_of_ble_eq_true rfl) (Nat.le_of_ble_eq_true rfl) (here_a hds hdv hR hf hc ht (zK_x (a := 1) (x := 8) (v := (k + ((lrs c a).2.2.length : Int) + 1)) (zK_x (a := 6) (x := (k + ((lrs c a).2.2.length : Int))) (v := 0) (zK_x (a := 5) (x := (k + ((lrs c a).2.2.length : Int))) (v := 59) hJ3 rfl) rfl) rfl) (by exact (zU_x (by decide)).trans ((zU_n (by decide)).trans ((zU_n (by decide)).trans (h22)))) (by omega)) ?_
        have q2 := tp_r ht ((lrs c a).2.1) (by omega)
        refine z_pushJ gp_28_51 ?_
        refine z_icmp_eq gi_28_53 (by omega) zr_59 (fun h3 => ?_) (fun h3 => ?_)
        · refine z_aload0 gi_28_58 ?_
          refine z_dup gi_28_59 rfl ?_
          refine z_getI (v := (lrs c a).2.1) gi_28_60 gk_1 ((zU_x (by decide)).trans ((zU_n (by decide)).trans ((zU_n (by decide)).trans (h22)))) ?_
          refine z_pushJ gp_28_63 ?_
          refine z_iadd (e := ((lrs c a).2.1) + 1) gi_28_64 rfl ?_
          refine z_putI (y := 2) gi_28_65 rfl gk_1 ?_
          refine z_iinc (c := 1) (e := i + 1) (ls1 := [some (.ref 1), some (zi (i + 1))]) gi_28_68 rfl rfl rfl rfl ?_
          refine z_goto gi_28_71 ?_
          show zW _ _ _ _ [some (.ref 1), some (zi (i + 1))] [] _ _ _ _
          have hl2 : lay (zU (zU (zU (zU J2 5 (k + ((lrs c a).2.2.length : Int)) 59) 6 (k + ((lrs c a).2.2.length : Int)) 0) 1 8 (k + ((lrs c a).2.2.length : Int) + 1)) 1 2 (((lrs c a).2.1) + 1)) 5 6 k ((lrs c a).2.2 ++ [(59, 0)]) := lay_app _ _ k (lay_keep _ k _ hl (Int.le_refl _) (fun j hj => ⟨(zU_n (by decide)).trans ((zU_n (by decide)).trans ((zU_n (by decide)).trans (zU_x (by omega)))), (zU_n (by decide)).trans ((zU_n (by decide)).trans ((zU_x (by omega)).trans (zU_n (by decide))))⟩)) ⟨⟨(zU_n (by decide)).trans ((zU_n (by decide)).trans ((zU_n (by decide)).trans (zU_e))), (zU_n (by decide)).trans ((zU_n (by decide)).trans (zU_e))⟩, trivial⟩
          have e1 : k + ((lrs c a).2.2.length : Int) + 1 = k + (((lrs c a).2.2 ++ [(59, 0)]).length : Int) := by rw [List.length_append, List.length_singleton]; omega
          have hz := ih (i + 1) ((lrs c a).2.1 + 1) (k + (((lrs c a).2.2 ++ [(59, 0)]).length : Int)) (D + 6) (zU (zU (zU (zU J2 5 (k + ((lrs c a).2.2.length : Int)) 59) 6 (k + ((lrs c a).2.2.length : Int)) 0) 1 8 (k + ((lrs c a).2.2.length : Int) + 1)) 1 2 (((lrs c a).2.1) + 1)) (by omega) (zK_x (a := 1) (x := 2) (v := ((lrs c a).2.1) + 1) (zK_x (a := 1) (x := 8) (v := (k + ((lrs c a).2.2.length : Int) + 1)) (zK_x (a := 6) (x := (k + ((lrs c a).2.2.length : Int))) (v := 0) (zK_x (a := 5) (x := (k + ((lrs c a).2.2.length : Int))) (v := 59) hJ3 rfl) rfl) rfl) rfl) (zU_e) (by omega) (((zU_x (by decide)).trans (zU_e)).trans e1) (by omega) hD
          rw [pT_t ok (show ¬ f ≤ (pLn c a).2.1 by have h : ¬ f ≤ (lrs c a).2.1 := (by omega); exact h) (show c (pLn c a).2.1 = 59 by have h : c (lrs c a).2.1 = 59 := (by omega); exact h)]
          exact zW_m hz (fun r6 J6 M6 R6 h => rtca (l := (pLn c a).2.2) ((zK_x (a := 1) (x := 2) (v := ((lrs c a).2.1) + 1) (zK_x (a := 1) (x := 8) (v := (k + ((lrs c a).2.2.length : Int) + 1)) (zK_x (a := 6) (x := (k + ((lrs c a).2.2.length : Int))) (v := 0) (zK_x (a := 5) (x := (k + ((lrs c a).2.2.length : Int))) (v := 59) hJ2 rfl) rfl) rfl) rfl)) (fun j hj => ⟨(zU_n (by decide)).trans ((zU_n (by decide)).trans ((zU_n (by decide)).trans ((zU_x (by omega)).trans ((hke2 j hj).1)))), (zU_n (by decide)).trans ((zU_n (by decide)).trans ((zU_x (by omega)).trans ((zU_n (by decide)).trans ((hke2 j hj).2))))⟩) hl2 h)
        · refine z_pushJ gp_28_56 ?_
          refine z_bret0 gi_28_57 gr_28 ?_
          rw [pT_n ok (show ¬ f ≤ (pLn c a).2.1 by have h : ¬ f ≤ (lrs c a).2.1 := (by omega); exact h) (show ¬ c (pLn c a).2.1 = 59 by have h : ¬ c (lrs c a).2.1 = 59 := (by omega); exact h)]
          exact ⟨⟨(zK_x (a := 1) (x := 8) (v := (k + ((lrs c a).2.2.length : Int) + 1)) (zK_x (a := 6) (x := (k + ((lrs c a).2.2.length : Int))) (v := 0) (zK_x (a := 5) (x := (k + ((lrs c a).2.2.length : Int))) (v := 59) hJ2 rfl) rfl) rfl), (zU_x (by decide)).trans ((zU_n (by decide)).trans ((zU_n (by decide)).trans (h22))), fun j hj => ⟨(zU_n (by decide)).trans ((zU_n (by decide)).trans ((zU_x (by omega)).trans ((hke2 j hj).1))), (zU_n (by decide)).trans ((zU_x (by omega)).trans ((zU_n (by decide)).trans ((hke2 j hj).2)))⟩, rfl, rfl⟩, Or.inr ⟨rfl, rfl⟩⟩
      · refine z_pushJ gp_28_45 ?_
        refine z_bret1 gi_28_46 gr_28 ?_
        have hl2 : lay (zU (zU (zU J2 5 (k + ((lrs c a).2.2.length : Int)) 59) 6 (k + ((lrs c a).2.2.length : Int)) 0) 1 8 (k + ((lrs c a).2.2.length : Int) + 1)) 5 6 k ((lrs c a).2.2 ++ [(59, 0)]) := lay_app _ _ k (lay_keep _ k _ hl (Int.le_refl _) (fun j hj => ⟨(zU_n (by decide)).trans ((zU_n (by decide)).trans (zU_x (by omega))), (zU_n (by decide)).trans ((zU_x (by omega)).trans (zU_n (by decide)))⟩)) ⟨⟨(zU_n (by decide)).trans ((zU_n (by decide)).trans (zU_e)), (zU_n (by decide)).trans (zU_e)⟩, trivial⟩
        have e1 : k + ((lrs c a).2.2.length : Int) + 1 = k + (((lrs c a).2.2 ++ [(59, 0)]).length : Int) := by rw [List.length_append, List.length_singleton]; omega
        rw [pT_e ok (show f ≤ (pLn c a).2.1 by have h : f ≤ (lrs c a).2.1 := (by omega); exact h)]
        refine ⟨⟨(zK_x (a := 1) (x := 8) (v := (k + ((lrs c a).2.2.length : Int) + 1)) (zK_x (a := 6) (x := (k + ((lrs c a).2.2.length : Int))) (v := 0) (zK_x (a := 5) (x := (k + ((lrs c a).2.2.length : Int))) (v := 59) hJ2 rfl) rfl) rfl), (zU_x (by decide)).trans ((zU_n (by decide)).trans ((zU_n (by decide)).trans (h22))), fun j hj => ⟨(zU_n (by decide)).trans ((zU_n (by decide)).trans ((zU_x (by omega)).trans ((hke2 j hj).1))), (zU_n (by decide)).trans ((zU_x (by omega)).trans ((zU_n (by decide)).trans ((hke2 j hj).2)))⟩, rfl, rfl⟩, Or.inl ⟨rfl, rfl, ?_, ?_⟩⟩
        · show _ = k + ((((lrs c a).2.2 ++ [(59, 0)]) ++ []).length : Int)
          rw [List.append_nil, ← e1]
          exact zU_e
        · show lay _ _ _ k (((lrs c a).2.2 ++ [(59, 0)]) ++ [])
          rw [List.append_nil]
          exact hl2
    · show zW _ _ _ _ _ (_ :: _) _ _ _ _
      refine z_if_neF gi_28_22 zr_0 (by decide) ?_
      refine z_pushJ gp_28_25 ?_
      refine z_bret0 gi_28_26 gr_28 ?_
      rw [pT_f ok]
      exact ⟨⟨hJ2, h22, hke2, rfl, rfl⟩, Or.inr ⟨rfl, rfl⟩⟩
    · show zW _ _ _ _ _ (_ :: _) _ _ _ _
      refine z_if_neT gi_28_22 zr_1 (by decide) ?_
      refine z_aload0 gi_28_27 ?_
      refine z_pushJ gp_28_28 ?_
      refine z_pushJ gp_28_30 ?_
      have qlt := tp_lt ht (show ¬ c ((lrs c a).2.1) = -1 by omega)
      refine z_callV (As := [_, _]) _ gi_28_31 rfl rfl (Nat.le_of_ble_eq_true rfl) (Nat.le_of_ble_eq_true rfl) (addAny_a (J := J2) hds hdv rfl (by omega)) (fun r J5 M5 R5 h5 => ?_)
      obtain ⟨rfl, k5, e5, b5, r5, eM5, eR5⟩ := h5
      obtain rfl : M = M5 := eM5.symm
      obtain rfl : R = R5 := eR5.symm
      show zW _ _ _ _ _ _ _ _ _ _
      refine z_aload0 gi_28_34 ?_
      refine z_getI (v := (lrs c a).2.1) gi_28_35 gk_1 (e5.trans h22) ?_
      refine z_aload0 gi_28_38 ?_
      refine z_getI (v := f) gi_28_39 gk_1 ((zK_t hJ3 k5 1 1 rfl).trans hf) ?_
      refine z_icmp_lt gi_28_42 (by omega) (by omega) (fun h1 => ?_) (fun h1 => ?_)
      · refine z_aload0 gi_28_47 ?_
        refine z_callVP (As := []) (v := c ((lrs c a).2.1)) gi_28_48 rfl gk_1 (Nat.le_of_ble_eq_true rfl) (Nat.le_of_ble_eq_true rfl) (here_a hds hdv hR hf hc ht (zK_t hJ3 k5) (by exact (e5.trans h22)) (by omega)) ?_
        have q2 := tp_r ht ((lrs c a).2.1) (by omega)
        refine z_pushJ gp_28_51 ?_
        refine z_icmp_eq gi_28_53 (by omega) zr_59 (fun h3 => ?_) (fun h3 => ?_)
        · refine z_aload0 gi_28_58 ?_
          refine z_dup gi_28_59 rfl ?_
          refine z_getI (v := (lrs c a).2.1) gi_28_60 gk_1 (e5.trans h22) ?_
          refine z_pushJ gp_28_63 ?_
          refine z_iadd (e := ((lrs c a).2.1) + 1) gi_28_64 rfl ?_
          refine z_putI (y := 2) gi_28_65 rfl gk_1 ?_
          refine z_iinc (c := 1) (e := i + 1) (ls1 := [some (.ref 1), some (zi (i + 1))]) gi_28_68 rfl rfl rfl rfl ?_
          refine z_goto gi_28_71 ?_
          show zW _ _ _ _ [some (.ref 1), some (zi (i + 1))] [] _ _ _ _
          exfalso
          omega
        · refine z_pushJ gp_28_56 ?_
          refine z_bret0 gi_28_57 gr_28 ?_
          rw [pT_f ok]
          exact ⟨⟨zK_t hJ2 k5, e5.trans h22, fun j hj => ⟨(b5 j (by omega)).1.trans (hke2 j hj).1, (b5 j (by omega)).2.trans (hke2 j hj).2⟩, rfl, rfl⟩, Or.inr ⟨rfl, rfl⟩⟩
      · refine z_pushJ gp_28_45 ?_
        refine z_bret1 gi_28_46 gr_28 ?_
        exfalso
        omega
theorem readTexta {X : Nat × (Nat → Int32)} {M : zA} {R : zR} (hds : R 1 6 = some 5) (hdv : R 1 7 = some 6) (hR : zRok R) {A : zA} {c : Int → Int} {f : Int} (hf : A 1 1 = f) (hc : ∀ i, 0 ≤ i → i < f → A 2 i = c i) (ht : tp c f) {D : Nat} (hD : 107 ≤ D) : zW X D 28 0 (gEn 28 [.ref 1]) [] A M R (rta 0 (pT c f 121 0) A M R) := by
  have tf := ht.1
  show zW _ _ _ _ [some (.ref 1), none] _ _ _ _ _
  refine z_aload0 gi_28_0 ?_
  refine z_pushJ gp_28_1 ?_
  refine z_putI (y := 2) gi_28_2 rfl gk_1 ?_
  refine z_aload0 gi_28_5 ?_
  refine z_pushJ gp_28_6 ?_
  refine z_putI (y := 8) gi_28_7 rfl gk_1 ?_
  refine z_pushJ gp_28_10 ?_
  refine z_istore (ls1 := [some (.ref 1), some (zi 0)]) gi_28_11 rfl ?_
  show zW _ _ _ _ [some (.ref 1), some (zi 0)] [] _ _ _ _
  have hz := texta (X := X) (M := M) hds hdv hR hf hc ht 121 0 0 0 D (zU (zU A 1 2 0) 1 8 0) (by omega) (zK_x (a := 1) (x := 8) (v := 0) (zK_x (a := 1) (x := 2) (v := 0) zK_r rfl) rfl) ((zU_x (by decide)).trans zU_e) (by omega) zU_e (by omega) hD
  refine zW_m hz (fun r6 J6 M6 R6 h => ⟨⟨zK_t (zK_x (a := 1) (x := 8) (v := 0) (zK_x (a := 1) (x := 2) (v := 0) zK_r rfl) rfl) h.1.1, h.1.2.1, fun j hj => h.1.2.2.1 j hj, h.1.2.2.2.1, h.1.2.2.2.2⟩, h.2⟩)
