/-- before a line: ps read so far -/
abbrev lS (A J : zA) (ps : List lnT) (a : Int) : Prop := (zK (kL [62, 63, 64, 65, 66] [(50, 16), (50, 17), (50, 18), (50, 19)]) A J ∧ J 64 0 = A 64 0 ∧ (∀ j, j < 130 → J 62 j = A 62 j ∧ J 63 j = A 63 j) ∧ (∀ j, j < 61 → J 65 j = A 65 j ∧ J 66 j = A 66 j)) ∧ J 50 16 = a ∧ J 50 17 = -1 ∧ J 50 18 = 0 ∧ J 50 19 = nst ps ∧ J 64 1 = (ps.length : Int) ∧ lnl J 130 61 0 0 ps ∧ (2 * (ps.length : Int) ≤ a ∧ nst ps ≤ a)
/-- behind the last line -/
abbrev lE (A J : zA) (f : Int) (ps : List lnT) (x : Bool × Int × List lnT) : Prop := (zK (kL [62, 63, 64, 65, 66] [(50, 16), (50, 17), (50, 18), (50, 19)]) A J ∧ J 64 0 = A 64 0 ∧ (∀ j, j < 130 → J 62 j = A 62 j ∧ J 63 j = A 63 j) ∧ (∀ j, j < 61 → J 65 j = A 65 j ∧ J 66 j = A 66 j)) ∧ J 50 16 = x.2.1 ∧ ((x.1 = true ∧ J 50 17 = -1 ∧ f ≤ x.2.1 ∧ J 50 19 = nst (ps ++ x.2.2) ∧ J 64 1 = ((ps ++ x.2.2).length : Int) ∧ lnl J 130 61 0 0 (ps ++ x.2.2) ∧ (2 * (((ps ++ x.2.2).length : Int) - 1) ≤ f ∧ nst (ps ++ x.2.2) ≤ f)) ∨ (x.1 = false ∧ (J 50 17 = x.2.1 ∨ (J 50 17 = -1 ∧ x.2.1 < f))))
theorem lE_c {A J : zA} {f : Int} {ps : List lnT} {l : lnT} {y : Bool × Int × List lnT} (h : lE A J f (ps ++ [l]) y) : lE A J f ps (y.1, y.2.1, l :: y.2.2) := by
  have e : ps ++ [l] ++ y.2.2 = ps ++ l :: y.2.2 := by rw [List.append_assoc]; rfl
  unfold lE at h ⊢
  rw [e] at h
  exact h
theorem nst_app : ∀ l m : List lnT, nst (l ++ m) = nst l + nst m := by
  intro l m
  induction l with
  | nil => exact (Int.zero_add _).symm
  | cons x t ih =>
    show (x.1.length : Int) + (x.2.length : Int) + nst (t ++ m) = (x.1.length : Int) + (x.2.length : Int) + nst t + nst m
    omega
theorem lcs_len (l : lnT) : (l.1.length : Int) + (l.2.length : Int) ≤ ((lcs l).length : Int) := by
  obtain ⟨t, b⟩ := l
  cases t with
  | nil =>
    show ((([] : List (Int × Int)).length : Nat) : Int) + (b.length : Int) ≤ (b.length : Int)
    rw [List.length_nil]
    omega
  | cons x t =>
    show (((x :: t).length : Nat) : Int) + (b.length : Int) ≤ (((x :: t) ++ (63, 0) :: b).length : Int)
    rw [List.length_append, List.length_cons (a := ((63 : Int), (0 : Int)))]
    omega
theorem rtx57 {X : Nat × (Nat → Int32)} {M : zA} {R : zR} (hR : zRoR R) {A : zA} {c : Int → Int} {f : Int} (hf : A 50 15 = f) (hc : ∀ i, 0 ≤ i → i < f → A 61 i = zb (c i)) (ht : tp c f) {D : Nat} (hD : 65 ≤ D) {u : Int} {e2 : Option Value} {P : zP} : ∀ m : Nat, ∀ (ps : List lnT) (a : Int) (J : zA), lS A J ps a → (0 ≤ a ∧ a ≤ f) → 121 ≤ a + m → (∀ JF : zA, lE A JF f ps (pT c f m a) → zW X D 178 64 [some (.ref 50), some (zi u), e2] [] JF M R P) → zW X D 178 57 [some (.ref 50), some (zi u), e2] [] J M R P := by
  intro m
  induction m with
  | zero =>
    intro ps a J hS ha hm KK
    have tf := ht.1
    exfalso
    omega
  | succ m W57 =>
    intro ps a J hS ha hm KK
    obtain ⟨D, rfl⟩ : ∃ e, D = e + 6 := ⟨D - 6, by omega⟩
    have tf := ht.1
    refine z_aload0 rfl ?_
    obtain ⟨⟨s1, s2, s3, s4⟩, hat, hfa, hop, hkk, hln, hll, hb1, hb2⟩ := hS
    have nsp := nst_p ps
    have gx := pLn_g ht ha
    refine z_callV (As := []) _ rfl rfl rfl (Nat.le_of_ble_eq_true rfl) (Nat.le_of_ble_eq_true rfl) (rline hR ((s1 50 15 rfl).trans hf) (fun i i1 i2 => (s1 61 _ rfl).trans (hc i i1 i2)) ht hat hfa hop hkk hln ha (by omega) (by omega) (by omega)) (fun r J2 M2 R2 hr => ?_)
    obtain ⟨⟨rfl, k2, h16, b2, ee2, z2, n2, eM, eR⟩, hr⟩ := hr
    obtain rfl : M = M2 := eM.symm
    obtain rfl : R = R2 := eR.symm
    have t1 : zK (kL [62, 63, 64, 65, 66] [(50, 16), (50, 17), (50, 18), (50, 19)]) A J2 ∧ J2 64 0 = A 64 0 ∧ (∀ j, j < 130 → J2 62 j = A 62 j ∧ J2 63 j = A 63 j) ∧ (∀ j, j < 61 → J2 65 j = A 65 j ∧ J2 66 j = A 66 j) := ⟨zK_t s1 k2, z2.trans s2, fun j hj => ⟨(b2 j (by omega)).1.trans (s3 j hj).1, (b2 j (by omega)).2.trans (s3 j hj).2⟩, fun j hj => ⟨(ee2 j (by omega)).1.trans (s4 j hj).1, (ee2 j (by omega)).2.trans (s4 j hj).2⟩⟩
    rcases hr with ⟨ok, h17, h18, h19, hl2⟩ | ⟨ok, h17⟩
    · show zW _ _ _ _ _ _ _ _ _ _
      have g2 := gx.2 ok
      have gl := lcs_len (pLn c a).2.2
      have ep : nst (ps ++ [(pLn c a).2.2]) = nst ps + (((pLn c a).2.2.1.length : Int) + ((pLn c a).2.2.2.length : Int)) := by rw [nst_app]; show nst ps + (((pLn c a).2.2.1.length : Int) + ((pLn c a).2.2.2.length : Int) + 0) = _; omega
      have el : ((ps ++ [(pLn c a).2.2]).length : Int) = (ps.length : Int) + 1 := by rw [List.length_append, List.length_singleton]; omega
      have hl3 : lnl J2 130 61 0 0 (ps ++ [(pLn c a).2.2]) := lnl_app ps _ 0 0 (lnl_keep ps 0 0 hll (fun j hj => b2 j (by omega)) (fun j hj => ee2 j (by omega))) (by rw [Int.zero_add, Int.zero_add]; exact hl2)
      refine z_goto gi_178_61 ?_
      show zW _ _ _ _ [some (.ref 50), some (zi u), e2] [] _ _ _ _
      refine z_aload0 gi_178_31 ?_
      refine z_getI (v := (-1)) gi_178_32 gk_50 (h17) ?_
      refine z_if_geF gi_178_35 zrn_1 (by decide) ?_
      refine z_aload0 gi_178_38 ?_
      refine z_callVP (As := []) (v := lo (c ((pLn c a).2.1))) gi_178_39 rfl gk_50 (Nat.le_of_ble_eq_true rfl) (Nat.le_of_ble_eq_true rfl) (look_k (A := J2) hR ((t1.1 50 15 rfl).trans hf) (fun i i1 i2 => (t1.1 61 _ rfl).trans (hc i i1 i2)) ht zK_r h16 (by omega)) ?_
      have q1 := tp_r ht ((pLn c a).2.1) (by omega)
      have q2 := lo_r (c ((pLn c a).2.1))
      refine z_pushJ gp_178_42 ?_
      refine z_icmp_ne gi_178_44 (by omega) zr_59 (fun h3 => ?_) (fun h3 => ?_)
      · show zW _ _ _ _ [some (.ref 50), some (zi u), e2] [] _ _ _ _
        by_cases q : f ≤ (pLn c a).2.1
        · rw [pT_e ok q] at KK
          refine KK J2 ⟨t1, h16, Or.inl ⟨rfl, h17, q, ?_, ?_, hl3, ?_⟩⟩
          · rw [h19]
            exact (by omega : _ = nst ps + (((pLn c a).2.2.1.length : Int) + ((pLn c a).2.2.2.length : Int))).trans ep.symm
          · rw [n2]
            exact el.symm
          · show 2 * (((ps ++ [(pLn c a).2.2]).length : Int) - 1) ≤ f ∧ nst (ps ++ [(pLn c a).2.2]) ≤ f
            omega
        · rw [pT_n ok q (by omega)] at KK
          exact KK J2 ⟨t1, h16, Or.inr ⟨rfl, Or.inr ⟨h17, by show (pLn c a).2.1 < f; omega⟩⟩⟩
      · refine z_aload0 gi_178_47 ?_
        refine z_dup gi_178_48 rfl ?_
        refine z_getI (v := (pLn c a).2.1) gi_178_49 gk_50 (h16) ?_
        refine z_pushJ gp_178_52 ?_
        refine z_iadd (e := ((pLn c a).2.1) + 1) gi_178_53 rfl ?_
        refine z_putI (y := 16) gi_178_54 rfl gk_50 ?_
        show zW _ _ _ _ [some (.ref 50), some (zi u), e2] [] _ _ _ _
        have qp := tp_lt ht (show ¬ c (pLn c a).2.1 = -1 by omega)
        rw [pT_t ok (by omega) (by omega)] at KK
        refine W57 (ps ++ [(pLn c a).2.2]) ((pLn c a).2.1 + 1) (zU J2 50 16 ((pLn c a).2.1 + 1)) ⟨⟨zK_x (a := 50) (x := 16) (v := (pLn c a).2.1 + 1) t1.1 rfl, (zU_n (by decide)).trans t1.2.1, fun j hj => ⟨(zU_n (by decide)).trans (t1.2.2.1 j hj).1, (zU_n (by decide)).trans (t1.2.2.1 j hj).2⟩, fun j hj => ⟨(zU_n (by decide)).trans (t1.2.2.2 j hj).1, (zU_n (by decide)).trans (t1.2.2.2 j hj).2⟩⟩, zU_e, (zU_x (by decide)).trans h17, (zU_x (by decide)).trans h18, ?_, ?_, lnl_keep _ 0 0 hl3 (fun j _ => ⟨zU_n (by decide), zU_n (by decide)⟩) (fun j _ => ⟨zU_n (by decide), zU_n (by decide)⟩), (by omega)⟩ (by omega) (by omega) (fun JF hF => KK JF ?_)
        · refine ((zU_x (by decide)).trans h19).trans ?_
          rw [ep]
          omega
        · refine ((zU_n (by decide)).trans n2).trans ?_
          exact el.symm
        · exact lE_c hF
    · show zW _ _ _ _ _ _ _ _ _ _
      refine z_goto gi_178_61 ?_
      show zW _ _ _ _ [some (.ref 50), some (zi u), e2] [] _ _ _ _
      refine z_aload0 gi_178_31 ?_
      refine z_getI (v := (pLn c a).2.1) gi_178_32 gk_50 (h17) ?_
      refine z_if_geT gi_178_35 (by omega) (by omega) ?_
      show zW _ _ _ _ [some (.ref 50), some (zi u), e2] [] _ _ _ _
      rw [pT_f ok] at KK
      exact KK J2 ⟨t1, h16, Or.inr ⟨rfl, Or.inl h17⟩⟩
theorem rtx27 {X : Nat × (Nat → Int32)} {M : zA} {R : zR} (hR : zRoR R) {A : zA} {c : Int → Int} {f : Int} (hf : A 50 15 = f) (hc : ∀ i, 0 ≤ i → i < f → A 61 i = zb (c i)) (ht : tp c f) {D : Nat} (hD : 65 ≤ D) {u : Int} {e2 : Option Value} {P : zP} {m : Nat} : ∀ (ps : List lnT) (a : Int) (J : zA), lS A J ps a → (0 ≤ a ∧ a ≤ f) → 121 ≤ a + (m + 1 : Nat) → (∀ JF : zA, lE A JF f ps (pT c f (m + 1) a) → zW X D 178 64 [some (.ref 50), some (zi u), e2] [] JF M R P) → zW X D 178 27 [some (.ref 50), some (zi u), e2] [] J M R P := by
    intro ps a J hS ha hm KK
    have W57 := rtx57 (X := X) (M := M) hR hf hc ht hD (u := u) (e2 := e2) (P := P)
    obtain ⟨D, rfl⟩ : ∃ e, D = e + 6 := ⟨D - 6, by omega⟩
    have tf := ht.1
    refine z_aload0 rfl ?_
    obtain ⟨⟨s1, s2, s3, s4⟩, hat, hfa, hop, hkk, hln, hll, hb1, hb2⟩ := hS
    have nsp := nst_p ps
    have gx := pLn_g ht ha
    refine z_callV (As := []) _ rfl rfl rfl (Nat.le_of_ble_eq_true rfl) (Nat.le_of_ble_eq_true rfl) (rline hR ((s1 50 15 rfl).trans hf) (fun i i1 i2 => (s1 61 _ rfl).trans (hc i i1 i2)) ht hat hfa hop hkk hln ha (by omega) (by omega) (by omega)) (fun r J2 M2 R2 hr => ?_)
    obtain ⟨⟨rfl, k2, h16, b2, ee2, z2, n2, eM, eR⟩, hr⟩ := hr
    obtain rfl : M = M2 := eM.symm
    obtain rfl : R = R2 := eR.symm
    have t1 : zK (kL [62, 63, 64, 65, 66] [(50, 16), (50, 17), (50, 18), (50, 19)]) A J2 ∧ J2 64 0 = A 64 0 ∧ (∀ j, j < 130 → J2 62 j = A 62 j ∧ J2 63 j = A 63 j) ∧ (∀ j, j < 61 → J2 65 j = A 65 j ∧ J2 66 j = A 66 j) := ⟨zK_t s1 k2, z2.trans s2, fun j hj => ⟨(b2 j (by omega)).1.trans (s3 j hj).1, (b2 j (by omega)).2.trans (s3 j hj).2⟩, fun j hj => ⟨(ee2 j (by omega)).1.trans (s4 j hj).1, (ee2 j (by omega)).2.trans (s4 j hj).2⟩⟩
    rcases hr with ⟨ok, h17, h18, h19, hl2⟩ | ⟨ok, h17⟩
    · show zW _ _ _ _ _ _ _ _ _ _
      have g2 := gx.2 ok
      have gl := lcs_len (pLn c a).2.2
      have ep : nst (ps ++ [(pLn c a).2.2]) = nst ps + (((pLn c a).2.2.1.length : Int) + ((pLn c a).2.2.2.length : Int)) := by rw [nst_app]; show nst ps + (((pLn c a).2.2.1.length : Int) + ((pLn c a).2.2.2.length : Int) + 0) = _; omega
      have el : ((ps ++ [(pLn c a).2.2]).length : Int) = (ps.length : Int) + 1 := by rw [List.length_append, List.length_singleton]; omega
      have hl3 : lnl J2 130 61 0 0 (ps ++ [(pLn c a).2.2]) := lnl_app ps _ 0 0 (lnl_keep ps 0 0 hll (fun j hj => b2 j (by omega)) (fun j hj => ee2 j (by omega))) (by rw [Int.zero_add, Int.zero_add]; exact hl2)
      refine z_aload0 gi_178_31 ?_
      refine z_getI (v := (-1)) gi_178_32 gk_50 (h17) ?_
      refine z_if_geF gi_178_35 zrn_1 (by decide) ?_
      refine z_aload0 gi_178_38 ?_
      refine z_callVP (As := []) (v := lo (c ((pLn c a).2.1))) gi_178_39 rfl gk_50 (Nat.le_of_ble_eq_true rfl) (Nat.le_of_ble_eq_true rfl) (look_k (A := J2) hR ((t1.1 50 15 rfl).trans hf) (fun i i1 i2 => (t1.1 61 _ rfl).trans (hc i i1 i2)) ht zK_r h16 (by omega)) ?_
      have q1 := tp_r ht ((pLn c a).2.1) (by omega)
      have q2 := lo_r (c ((pLn c a).2.1))
      refine z_pushJ gp_178_42 ?_
      refine z_icmp_ne gi_178_44 (by omega) zr_59 (fun h3 => ?_) (fun h3 => ?_)
      · show zW _ _ _ _ [some (.ref 50), some (zi u), e2] [] _ _ _ _
        by_cases q : f ≤ (pLn c a).2.1
        · rw [pT_e ok q] at KK
          refine KK J2 ⟨t1, h16, Or.inl ⟨rfl, h17, q, ?_, ?_, hl3, ?_⟩⟩
          · rw [h19]
            exact (by omega : _ = nst ps + (((pLn c a).2.2.1.length : Int) + ((pLn c a).2.2.2.length : Int))).trans ep.symm
          · rw [n2]
            exact el.symm
          · show 2 * (((ps ++ [(pLn c a).2.2]).length : Int) - 1) ≤ f ∧ nst (ps ++ [(pLn c a).2.2]) ≤ f
            omega
        · rw [pT_n ok q (by omega)] at KK
          exact KK J2 ⟨t1, h16, Or.inr ⟨rfl, Or.inr ⟨h17, by show (pLn c a).2.1 < f; omega⟩⟩⟩
      · refine z_aload0 gi_178_47 ?_
        refine z_dup gi_178_48 rfl ?_
        refine z_getI (v := (pLn c a).2.1) gi_178_49 gk_50 (h16) ?_
        refine z_pushJ gp_178_52 ?_
        refine z_iadd (e := ((pLn c a).2.1) + 1) gi_178_53 rfl ?_
        refine z_putI (y := 16) gi_178_54 rfl gk_50 ?_
        show zW _ _ _ _ [some (.ref 50), some (zi u), e2] [] _ _ _ _
        have qp := tp_lt ht (show ¬ c (pLn c a).2.1 = -1 by omega)
        rw [pT_t ok (by omega) (by omega)] at KK
        refine W57 m (ps ++ [(pLn c a).2.2]) ((pLn c a).2.1 + 1) (zU J2 50 16 ((pLn c a).2.1 + 1)) ⟨⟨zK_x (a := 50) (x := 16) (v := (pLn c a).2.1 + 1) t1.1 rfl, (zU_n (by decide)).trans t1.2.1, fun j hj => ⟨(zU_n (by decide)).trans (t1.2.2.1 j hj).1, (zU_n (by decide)).trans (t1.2.2.1 j hj).2⟩, fun j hj => ⟨(zU_n (by decide)).trans (t1.2.2.2 j hj).1, (zU_n (by decide)).trans (t1.2.2.2 j hj).2⟩⟩, zU_e, (zU_x (by decide)).trans h17, (zU_x (by decide)).trans h18, ?_, ?_, lnl_keep _ 0 0 hl3 (fun j _ => ⟨zU_n (by decide), zU_n (by decide)⟩) (fun j _ => ⟨zU_n (by decide), zU_n (by decide)⟩), (by omega)⟩ (by omega) (by omega) (fun JF hF => KK JF ?_)
        · refine ((zU_x (by decide)).trans h19).trans ?_
          rw [ep]
          omega
        · refine ((zU_n (by decide)).trans n2).trans ?_
          exact el.symm
        · exact lE_c hF
    · show zW _ _ _ _ _ _ _ _ _ _
      refine z_aload0 gi_178_31 ?_
      refine z_getI (v := (pLn c a).2.1) gi_178_32 gk_50 (h17) ?_
      refine z_if_geT gi_178_35 (by omega) (by omega) ?_
      show zW _ _ _ _ [some (.ref 50), some (zi u), e2] [] _ _ _ _
      rw [pT_f ok] at KK
      exact KK J2 ⟨t1, h16, Or.inr ⟨rfl, Or.inl h17⟩⟩
