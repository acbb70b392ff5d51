noncomputable def sSum (f : Int → Int) : Nat → Int
  | 0 => 0
  | k + 1 => sSum f k + f k
theorem sSum_c {f g : Int → Int} : ∀ k : Nat, (∀ p : Nat, p < k → f p = g p) → sSum f k = sSum g k := by
  intro k
  induction k with
  | zero => intro _; rfl
  | succ k ih =>
    intro h
    show sSum f k + f k = sSum g k + g k
    rw [ih (fun p hp => h p (by omega)), h k (by omega)]
theorem sSum_z {f : Int → Int} {n : Nat} : ∀ m : Nat, (∀ p : Nat, n ≤ p → p < n + m → f p = 0) → sSum f (n + m) = sSum f n := by
  intro m
  induction m with
  | zero => intro _; rfl
  | succ m ih =>
    intro h
    show sSum f (n + m) + f ((n + m : Nat) : Int) = _
    rw [ih (fun p a b => h p a (by omega)), h (n + m) (by omega) (by omega)]
    omega
theorem zK_Su {k : Nat → Int → Bool} {A J : zA} {c : Nat} {f : Int → Int} {n : Int} (h : zK k A J) : zK k (zS A c f n) (zS J c f n) := fun x y q => by
  unfold zS
  by_cases e : x = c
  · rw [if_pos e, if_pos e]
    split
    · rfl
    · rw [← e]; exact h x y q
  · rw [if_neg e, if_neg e]; exact h x y q
theorem cN_8 {A J : zA} (h1 : J 8 2 = A 8 2) (h2 : ∀ y, J 9 y = A 9 y) : cN J = cN A := by
  funext p w
  unfold cN
  rw [h1, h2, h2]
theorem kS_Q : ∀ x j, kS x j = true → kQ x j = true := by
  intro x j h
  unfold kQ
  rw [kS_T x j h]
  by_cases h1 : x = 69
  · subst h1; cases h
  · by_cases h2 : x = 70
    · subst h2; cases h
    · rw [beq_f h1, beq_f h2]
      by_cases h3 : x = 50
      · subst h3
        have h : k50 j = true := h
        have q : ¬ (30 ≤ j ∧ j ≤ 34) := by
          intro q
          unfold k50 at h
          simp only [Bool.or_eq_true, decide_eq_true_eq] at h
          omega
        show (true && !(false || false || (true && (decide (30 ≤ j) && decide (j ≤ 34))))) = true
        by_cases a : 30 ≤ j
        · rw [decide_eq_true a, decide_eq_false (by omega : ¬ j ≤ 34)]; rfl
        · rw [decide_eq_false a]; rfl
      · rw [beq_f h3]; rfl
theorem againC_z {X : Nat × (Nat → Int32)} {d : Nat} {J M : zA} {R : zR} {P : zP} {N : Int → Int → Int} {n : Int} (hR : zRok R) (hA : cN J = N) (hz : J 8 2 = n) (hN : zNr n N) : ∀ (j : Nat) (i : Int) (k : Nat), i + j = 8 → i = k → 0 ≤ i → zW X (d + 6) 22 61 [some (.ref 23), some (zi (sSum (fun p => if p < n then sShare N n p else 0) 8)), some (zi 8)] [] (zS (zS J 24 (fun p => if p < n then sShare N n p else 0) 8) 25 (fun _ => 0) 8) M R P → zW X (d + 6) 22 4 [some (.ref 23), some (zi (sSum (fun p => if p < n then sShare N n p else 0) k)), some (zi i)] [] (zS (zS J 24 (fun p => if p < n then sShare N n p else 0) i) 25 (fun _ => 0) i) M R P := by
  intro j
  induction j with
  | zero =>
    intro i k hi hi2 h0 K
    obtain rfl : k = 8 := by omega
    obtain rfl : i = 8 := by omega
    refine z_iload rfl rfl ?_
    refine z_pushI (z := 8) rfl rfl ?_
    exact z_icmp_geT rfl (by omega) (by decide) (by omega) K
  | succ j ih =>
    intro i k hi hi2 h0 K
    have qn := zNn hN
    have hA2 : cN (zS (zS J 24 (fun p => if p < n then sShare N n p else 0) i) 25 (fun _ => 0) i) = N := (cN_8 (by exact (zS_n (by decide)).trans (zS_n (by decide))) (fun y => by exact (zS_n (by decide)).trans (zS_n (by decide)))).trans hA
    have hz2 : (zS (zS J 24 (fun p => if p < n then sShare N n p else 0) i) 25 (fun _ => 0) i) 8 2 = n := ((zS_n (by decide)).trans (zS_n (by decide))).trans hz
    refine z_iload2 rfl ?_
    refine z_pushJ gp_22_5 ?_
    refine z_icmp_geF rfl (by omega) zr_8 (by omega) ?_
    refine z_aload0 rfl ?_
    refine z_getR (r := 24) rfl gk_23 (hR _ rm_23_1) ?_
    refine z_iload2 rfl ?_
    refine z_aload0 rfl ?_
    refine z_getR (r := 8) rfl gk_23 (hR _ rm_23_0) ?_
    refine z_iload2 rfl ?_
    refine z_cV1 rfl gk_8 go_87 (Nat.le_of_ble_eq_true rfl) gc_87_RI ?_
    refine z_iload1 gi_87_0 ?_
    refine z_if_lt gi_87_1 (by omega) (fun h1 => ?_) (fun h1 => ?_)
    · refine z_pushJ gp_87_16 ?_
      refine z_bret0 gi_87_17 gr_87 ?_
      show zW _ _ _ _ _ _ _ _ _ _
      refine z_if_eqT gi_22_23 zr_0 (by decide) ?_
      refine z_pushJ gp_22_37 ?_
      refine z_iast (e := 0) gi_22_38 gk_24 (by decide) (by omega) rfl ?_
      refine z_aload0 gi_22_39 ?_
      refine z_getR (r := 25) gi_22_40 gk_23 (hR _ rm_23_2) ?_
      refine z_iload2 gi_22_43 ?_
      refine z_pushJ gp_22_44 ?_
      refine z_iast (e := 0) gi_22_45 gk_25 (by decide) (by omega) rfl ?_
      refine z_iload1 gi_22_46 ?_
      refine z_aload0 gi_22_47 ?_
      refine z_getR (r := 24) gi_22_48 gk_23 (hR _ rm_23_1) ?_
      refine z_iload2 gi_22_51 ?_
      refine z_iald (v := 0) gi_22_52 gk_24 (by decide) (by omega) ((zU_n (by decide)).trans (zU_e)) ?_
      refine z_iadd (e := (sSum (fun p => if p < n then sShare N n p else 0) k) + 0) gi_22_53 rfl ?_
      refine z_istore (ls1 := [some (.ref 23), some (zi ((sSum (fun p => if p < n then sShare N n p else 0) k) + 0)), some (zi i)]) gi_22_54 rfl ?_
      refine z_iinc (c := 1) (e := i + 1) (ls1 := [some (.ref 23), some (zi ((sSum (fun p => if p < n then sShare N n p else 0) k) + 0)), some (zi (i + 1))]) gi_22_55 rfl rfl rfl rfl ?_
      refine z_goto gi_22_58 ?_
      show zW _ _ _ _ [some (.ref 23), some (zi ((sSum (fun p => if p < n then sShare N n p else 0) k) + 0)), some (zi (i + 1))] [] _ _ _ _
      rw [zU_S (by decide), zS_s (f := (fun _ => 0)) h0 rfl, zS_s (f := (fun p => if p < n then sShare N n p else 0)) h0 (show (if i < n then sShare N n i else 0) = 0 by rw [if_neg (by omega)])]
      have e : sSum (fun p => if p < n then sShare N n p else 0) k + 0 = sSum (fun p => if p < n then sShare N n p else 0) (k + 1) := by
        obtain rfl : i = (k : Int) := hi2
        show _ = sSum (fun p => if p < n then sShare N n p else 0) k + (if (k : Int) < n then sShare N n k else 0)
        rw [if_neg (by omega)]
      rw [e]
      exact ih (i + 1) (k + 1) (by omega) (by omega) (by omega) K
    · refine z_iload1 gi_87_4 ?_
      refine z_aload0 gi_87_5 ?_
      refine z_getI (v := n) gi_87_6 gk_8 (((zS_n (by decide)).trans (zS_n (by decide))).trans hz) ?_
      refine z_icmp_ge gi_87_9 (by omega) (by omega) (fun h2 => ?_) (fun h2 => ?_)
      · refine z_pushJ gp_87_16 ?_
        refine z_bret0 gi_87_17 gr_87 ?_
        show zW _ _ _ _ _ _ _ _ _ _
        refine z_if_eqT gi_22_23 zr_0 (by decide) ?_
        refine z_pushJ gp_22_37 ?_
        refine z_iast (e := 0) gi_22_38 gk_24 (by decide) (by omega) rfl ?_
        refine z_aload0 gi_22_39 ?_
        refine z_getR (r := 25) gi_22_40 gk_23 (hR _ rm_23_2) ?_
        refine z_iload2 gi_22_43 ?_
        refine z_pushJ gp_22_44 ?_
        refine z_iast (e := 0) gi_22_45 gk_25 (by decide) (by omega) rfl ?_
        refine z_iload1 gi_22_46 ?_
        refine z_aload0 gi_22_47 ?_
        refine z_getR (r := 24) gi_22_48 gk_23 (hR _ rm_23_1) ?_
        refine z_iload2 gi_22_51 ?_
        refine z_iald (v := 0) gi_22_52 gk_24 (by decide) (by omega) ((zU_n (by decide)).trans (zU_e)) ?_
        refine z_iadd (e := (sSum (fun p => if p < n then sShare N n p else 0) k) + 0) gi_22_53 rfl ?_
        refine z_istore (ls1 := [some (.ref 23), some (zi ((sSum (fun p => if p < n then sShare N n p else 0) k) + 0)), some (zi i)]) gi_22_54 rfl ?_
        refine z_iinc (c := 1) (e := i + 1) (ls1 := [some (.ref 23), some (zi ((sSum (fun p => if p < n then sShare N n p else 0) k) + 0)), some (zi (i + 1))]) gi_22_55 rfl rfl rfl rfl ?_
        refine z_goto gi_22_58 ?_
        show zW _ _ _ _ [some (.ref 23), some (zi ((sSum (fun p => if p < n then sShare N n p else 0) k) + 0)), some (zi (i + 1))] [] _ _ _ _
        rw [zU_S (by decide), zS_s (f := (fun _ => 0)) h0 rfl, zS_s (f := (fun p => if p < n then sShare N n p else 0)) h0 (show (if i < n then sShare N n i else 0) = 0 by rw [if_neg (by omega)])]
        have e : sSum (fun p => if p < n then sShare N n p else 0) k + 0 = sSum (fun p => if p < n then sShare N n p else 0) (k + 1) := by
          obtain rfl : i = (k : Int) := hi2
          show _ = sSum (fun p => if p < n then sShare N n p else 0) k + (if (k : Int) < n then sShare N n k else 0)
          rw [if_neg (by omega)]
        rw [e]
        exact ih (i + 1) (k + 1) (by omega) (by omega) (by omega) K
      · refine z_pushJ gp_87_12 ?_
        refine z_goto gi_87_13 ?_
        refine z_bret1 gi_87_17 gr_87 ?_
        show zW _ _ _ _ _ _ _ _ _ _
        refine z_if_eqF gi_22_23 zr_1 (by decide) ?_
        refine z_aload0 rfl ?_
        refine z_getR (r := 8) rfl gk_23 (hR _ rm_23_0) ?_
        refine z_iload2 rfl ?_
        refine z_callVP (As := [_]) (v := sShare N n i) rfl rfl gk_8 (Nat.le_of_ble_eq_true rfl) (Nat.le_of_ble_eq_true rfl) (shareBy_k (A := (zS (zS J 24 (fun p => if p < n then sShare N n p else 0) i) 25 (fun _ => 0) i)) hR zK_r hA2 hz2 hN (by omega)) ?_
        refine z_goto rfl ?_
        refine z_iast (e := sShare N n i) gi_22_38 gk_24 (by decide) (by omega) rfl ?_
        refine z_aload0 gi_22_39 ?_
        refine z_getR (r := 25) gi_22_40 gk_23 (hR _ rm_23_2) ?_
        refine z_iload2 gi_22_43 ?_
        refine z_pushJ gp_22_44 ?_
        refine z_iast (e := 0) gi_22_45 gk_25 (by decide) (by omega) rfl ?_
        refine z_iload1 gi_22_46 ?_
        refine z_aload0 gi_22_47 ?_
        refine z_getR (r := 24) gi_22_48 gk_23 (hR _ rm_23_1) ?_
        refine z_iload2 gi_22_51 ?_
        refine z_iald (v := sShare N n i) gi_22_52 gk_24 (by decide) (by omega) ((zU_n (by decide)).trans (zU_e)) ?_
        refine z_iadd (e := (sSum (fun p => if p < n then sShare N n p else 0) k) + (sShare N n i)) gi_22_53 rfl ?_
        refine z_istore (ls1 := [some (.ref 23), some (zi ((sSum (fun p => if p < n then sShare N n p else 0) k) + (sShare N n i))), some (zi i)]) gi_22_54 rfl ?_
        refine z_iinc (c := 1) (e := i + 1) (ls1 := [some (.ref 23), some (zi ((sSum (fun p => if p < n then sShare N n p else 0) k) + (sShare N n i))), some (zi (i + 1))]) gi_22_55 rfl rfl rfl rfl ?_
        refine z_goto gi_22_58 ?_
        show zW _ _ _ _ [some (.ref 23), some (zi ((sSum (fun p => if p < n then sShare N n p else 0) k) + (sShare N n i))), some (zi (i + 1))] [] _ _ _ _
        rw [zU_S (by decide), zS_s (f := (fun _ => 0)) h0 rfl, zS_s (f := (fun p => if p < n then sShare N n p else 0)) h0 (show (if i < n then sShare N n i else 0) = sShare N n i by rw [if_pos (by omega)])]
        have e : sSum (fun p => if p < n then sShare N n p else 0) k + (sShare N n i) = sSum (fun p => if p < n then sShare N n p else 0) (k + 1) := by
          obtain rfl : i = (k : Int) := hi2
          show _ = sSum (fun p => if p < n then sShare N n p else 0) k + (if (k : Int) < n then sShare N n k else 0)
          rw [if_pos (by omega)]
        rw [e]
        exact ih (i + 1) (k + 1) (by omega) (by omega) (by omega) K
