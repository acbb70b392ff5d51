theorem pT_len {c : Int → Int} {f : Int} (ht : tp c f) : ∀ (m : Nat) (a : Int), (0 ≤ a ∧ a ≤ f) → (pT c f m a).1 = true → ((tcs (pT c f m a).2.2).length : Int) ≤ f - a + 1 := by
  intro m
  induction m with
  | zero => exact fun a h t => by cases t
  | succ m ih =>
    intro a h
    have g := pLn_g ht h
    show (if (pLn c a).1 = true then (if f ≤ (pLn c a).2.1 then (true, (pLn c a).2.1, [(pLn c a).2.2]) else if c (pLn c a).2.1 = 59 then ((pT c f m ((pLn c a).2.1 + 1)).1, (pT c f m ((pLn c a).2.1 + 1)).2.1, (pLn c a).2.2 :: (pT c f m ((pLn c a).2.1 + 1)).2.2) else (false, (pLn c a).2.1, [])) else (false, (pLn c a).2.1, [])).1 = true → _
    have hE : pT c f (m + 1) a = (if (pLn c a).1 = true then (if f ≤ (pLn c a).2.1 then (true, (pLn c a).2.1, [(pLn c a).2.2]) else if c (pLn c a).2.1 = 59 then ((pT c f m ((pLn c a).2.1 + 1)).1, (pT c f m ((pLn c a).2.1 + 1)).2.1, (pLn c a).2.2 :: (pT c f m ((pLn c a).2.1 + 1)).2.2) else (false, (pLn c a).2.1, [])) else (false, (pLn c a).2.1, [])) := rfl
    rw [hE]
    cases q : (pLn c a).1 with
    | false =>
      rw [if_neg (by decide)]
      exact fun t => by cases t
    | true =>
      have gg := g.2 q
      rw [if_pos rfl]
      by_cases h1 : f ≤ (pLn c a).2.1
      · rw [if_pos h1]
        intro _
        show (((lcs (pLn c a).2.2 ++ [(59, 0)]) ++ []).length : Int) ≤ f - a + 1
        rw [List.append_nil, List.length_append, List.length_singleton]
        omega
      · rw [if_neg h1]
        by_cases h2 : c (pLn c a).2.1 = 59
        · rw [if_pos h2]
          intro t
          have := ih ((pLn c a).2.1 + 1) (by omega) t
          show (((lcs (pLn c a).2.2 ++ [(59, 0)]) ++ tcs (pT c f m ((pLn c a).2.1 + 1)).2.2).length : Int) ≤ f - a + 1
          rw [List.length_append, List.length_append, List.length_singleton]
          omega
        · rw [if_neg h2]
          exact fun t => by cases t
/-- the class's two halves changed about -/
noncomputable def rsw (R : zR) (a b c e : Nat) : zR := gU (gU (gU (gU R 1 3 (some a)) 1 4 (some b)) 1 6 (some c)) 1 7 (some e)
theorem zRok_sw {R : zR} (h : zRok R) {a b c e : Nat} : zRok (rsw R a b c e) := by
  intro q hq
  have g := (show ∀ q ∈ zFR, ¬ (q.1 = 1 ∧ (q.2.1 = 3 ∨ q.2.1 = 4 ∨ q.2.1 = 6 ∨ q.2.1 = 7)) by decide) q hq
  by_cases n1 : q.1 = 1
  · have n3 : ¬ q.2.1 = 3 := fun k => g ⟨n1, Or.inl k⟩
    have n4 : ¬ q.2.1 = 4 := fun k => g ⟨n1, Or.inr (Or.inl k)⟩
    have n6 : ¬ q.2.1 = 6 := fun k => g ⟨n1, Or.inr (Or.inr (Or.inl k))⟩
    have n7 : ¬ q.2.1 = 7 := fun k => g ⟨n1, Or.inr (Or.inr (Or.inr k))⟩
    simp only [rsw, gU, if_pos n1, if_neg n3, if_neg n4, if_neg n6, if_neg n7]
    exact h q hq
  · simp only [rsw, gU, if_neg n1]
    exact h q hq
theorem bla {X : Nat × (Nat → Int32)} {d : Nat} {J M : zA} {R : zR} (g3 : R 1 3 = some 3) (g4 : R 1 4 = some 4) (g6 : R 1 6 = some 5) (g7 : R 1 7 = some 6) (hR : zRok R) {L : Int} (h8 : J 1 8 = L) : zW X d 27 0 (gEn 27 [.ref 1]) [] J M R (zPx none (zU J 1 5 L) M (rsw R 5 6 3 4)) := by
  show zW _ _ _ _ [some (.ref 1), none, none] _ _ _ _ _
  refine z_aload0 gi_27_0 ?_
  refine z_getR (r := 3) gi_27_1 gk_1 (g3) ?_
  refine z_astore (ls1 := [some (.ref 1), some (.ref 3), none]) gi_27_4 rfl ?_
  refine z_aload0 gi_27_5 ?_
  refine z_getR (r := 4) gi_27_6 gk_1 (g4) ?_
  refine z_astore (ls1 := [some (.ref 1), some (.ref 3), some (.ref 4)]) gi_27_9 rfl ?_
  refine z_aload0 gi_27_10 ?_
  refine z_aload0 gi_27_11 ?_
  refine z_getR (r := 5) gi_27_12 gk_1 (g6) ?_
  refine z_putR gi_27_15 gk_1 ?_
  refine z_aload0 gi_27_18 ?_
  refine z_aload0 gi_27_19 ?_
  refine z_getR (r := 6) gi_27_20 gk_1 ((gU_k (by decide)).trans (g7)) ?_
  refine z_putR gi_27_23 gk_1 ?_
  refine z_aload0 gi_27_26 ?_
  refine z_aload0 gi_27_27 ?_
  refine z_getI (v := L) gi_27_28 gk_1 (h8) ?_
  refine z_putI (y := 5) gi_27_31 rfl gk_1 ?_
  refine z_aload0 gi_27_34 ?_
  refine z_aload1 gi_27_35 ?_
  refine z_putR gi_27_36 gk_1 ?_
  refine z_aload0 gi_27_39 ?_
  refine z_aload2 gi_27_40 ?_
  refine z_putR gi_27_41 gk_1 ?_
  refine z_vret gi_27_44 gr_27 ?_
  exact ⟨rfl, rfl, rfl, rfl⟩
theorem tka {X : Nat × (Nat → Int32)} {d : Nat} {J M : zA} {R : zR} {P : zP} (g3 : R 1 3 = some 3) (g4 : R 1 4 = some 4) (g6 : R 1 6 = some 5) (g7 : R 1 7 = some 6) (hR : zRok R) {c : Int → Int} {f : Int} (hf : J 1 1 = f) (hc : ∀ i, 0 ≤ i → i < f → J 2 i = c i) (ht : tp c f) (KT : (pT c f 121 0).1 = true → ∀ J2 : zA, zK (kL [5, 6] [(1, 2), (1, 8)]) J J2 → lay J2 5 6 0 (tcs (pT c f 121 0).2.2) → P (some (zi 1)) (zU (zU J2 1 5 (0 + ((tcs (pT c f 121 0).2.2).length : Int))) 1 1 0) M (rsw R 5 6 3 4)) (KF : (pT c f 121 0).1 = false → ∀ J2 : zA, zK (kL [5, 6] [(1, 2), (1, 8)]) J J2 → P (some (zi (-100 - (pT c f 121 0).2.1))) (zU J2 1 1 0) M R) : zW X (d + 120) 26 0 (gEn 26 [.ref 1]) [] J M R P := by
  have pg := (pT_g ht 121 0 (by omega)).1
  have tf := ht.1
  show zW _ _ _ _ [some (.ref 1), none] _ _ _ _ _
  refine z_aload rfl rfl ?_
  refine z_callV (As := []) _ rfl rfl rfl (Nat.le_of_ble_eq_true rfl) (Nat.le_of_ble_eq_true rfl) (readTexta g6 g7 hR (A := J) hf hc ht (by omega)) (fun r J2 M2 R2 hr => ?_)
  obtain ⟨⟨k2, a2, _, hM, hR2⟩, hr⟩ := hr
  subst M2 R2
  rcases hr with ⟨x1, hr, e8, hl⟩ | ⟨x1, hr⟩
  · subst r
    refine z_istore rfl rfl ?_
    show zW _ _ _ _ [some (.ref 1), some (zi 1)] _ _ _ _ _
    refine z_iload1 gi_26_5 ?_
    refine z_if_eqF gi_26_6 zr_1 (by decide) ?_
    refine z_aload0 gi_26_9 ?_
    refine z_callV (As := []) _ gi_26_10 rfl rfl (Nat.le_of_ble_eq_true rfl) (Nat.le_of_ble_eq_true rfl) (bla g3 g4 g6 g7 hR e8) (fun r J3 M3 R3 hr => ?_)
    obtain ⟨rfl, rfl, rfl, rfl⟩ := hr
    show zW _ _ _ _ _ _ _ _ _ _
    refine z_aload0 gi_26_13 ?_
    refine z_pushJ gp_26_14 ?_
    refine z_putI (y := 1) gi_26_15 rfl gk_1 ?_
    refine z_iload1 gi_26_18 ?_
    refine z_if_eqF gi_26_19 zr_1 (by decide) ?_
    refine z_pushJ gp_26_22 ?_
    refine z_goto gi_26_23 ?_
    refine z_iret gi_26_33 gr_26 ?_
    exact KT x1 J2 k2 hl
  · subst r
    refine z_istore rfl rfl ?_
    show zW _ _ _ _ [some (.ref 1), some (zi 0)] _ _ _ _ _
    refine z_iload1 gi_26_5 ?_
    refine z_if_eqT gi_26_6 zr_0 (by decide) ?_
    refine z_aload0 gi_26_13 ?_
    refine z_pushJ gp_26_14 ?_
    refine z_putI (y := 1) gi_26_15 rfl gk_1 ?_
    refine z_iload1 gi_26_18 ?_
    refine z_if_eqT gi_26_19 zr_0 (by decide) ?_
    refine z_pushJ gp_26_26 ?_
    refine z_aload0 gi_26_28 ?_
    refine z_getI (v := (pT c f 121 0).2.1) gi_26_29 gk_1 ((zU_x (by decide)).trans (a2)) ?_
    refine z_isub (e := (-100) - ((pT c f 121 0).2.1)) gi_26_32 rfl ?_
    refine z_iret gi_26_33 gr_26 ?_
    exact KF x1 J2 k2
theorem blb {X : Nat × (Nat → Int32)} {d : Nat} {J M : zA} {R : zR} (g3 : R 1 3 = some 5) (g4 : R 1 4 = some 6) (g6 : R 1 6 = some 3) (g7 : R 1 7 = some 4) (hR : zRok R) {L : Int} (h8 : J 1 8 = L) : zW X d 27 0 (gEn 27 [.ref 1]) [] J M R (zPx none (zU J 1 5 L) M (rsw R 3 4 5 6)) := by
  show zW _ _ _ _ [some (.ref 1), none, none] _ _ _ _ _
  refine z_aload0 gi_27_0 ?_
  refine z_getR (r := 5) gi_27_1 gk_1 (g3) ?_
  refine z_astore (ls1 := [some (.ref 1), some (.ref 5), none]) gi_27_4 rfl ?_
  refine z_aload0 gi_27_5 ?_
  refine z_getR (r := 6) gi_27_6 gk_1 (g4) ?_
  refine z_astore (ls1 := [some (.ref 1), some (.ref 5), some (.ref 6)]) gi_27_9 rfl ?_
  refine z_aload0 gi_27_10 ?_
  refine z_aload0 gi_27_11 ?_
  refine z_getR (r := 3) gi_27_12 gk_1 (g6) ?_
  refine z_putR gi_27_15 gk_1 ?_
  refine z_aload0 gi_27_18 ?_
  refine z_aload0 gi_27_19 ?_
  refine z_getR (r := 4) gi_27_20 gk_1 ((gU_k (by decide)).trans (g7)) ?_
  refine z_putR gi_27_23 gk_1 ?_
  refine z_aload0 gi_27_26 ?_
  refine z_aload0 gi_27_27 ?_
  refine z_getI (v := L) gi_27_28 gk_1 (h8) ?_
  refine z_putI (y := 5) gi_27_31 rfl gk_1 ?_
  refine z_aload0 gi_27_34 ?_
  refine z_aload1 gi_27_35 ?_
  refine z_putR gi_27_36 gk_1 ?_
  refine z_aload0 gi_27_39 ?_
  refine z_aload2 gi_27_40 ?_
  refine z_putR gi_27_41 gk_1 ?_
  refine z_vret gi_27_44 gr_27 ?_
  exact ⟨rfl, rfl, rfl, rfl⟩
theorem tkb {X : Nat × (Nat → Int32)} {d : Nat} {J M : zA} {R : zR} {P : zP} (g3 : R 1 3 = some 5) (g4 : R 1 4 = some 6) (g6 : R 1 6 = some 3) (g7 : R 1 7 = some 4) (hR : zRok R) {c : Int → Int} {f : Int} (hf : J 1 1 = f) (hc : ∀ i, 0 ≤ i → i < f → J 2 i = c i) (ht : tp c f) (KT : (pT c f 121 0).1 = true → ∀ J2 : zA, zK (kL [3, 4] [(1, 2), (1, 8)]) J J2 → lay J2 3 4 0 (tcs (pT c f 121 0).2.2) → P (some (zi 1)) (zU (zU J2 1 5 (0 + ((tcs (pT c f 121 0).2.2).length : Int))) 1 1 0) M (rsw R 3 4 5 6)) (KF : (pT c f 121 0).1 = false → ∀ J2 : zA, zK (kL [3, 4] [(1, 2), (1, 8)]) J J2 → P (some (zi (-100 - (pT c f 121 0).2.1))) (zU J2 1 1 0) M R) : zW X (d + 120) 26 0 (gEn 26 [.ref 1]) [] J M R P := by
  have pg := (pT_g ht 121 0 (by omega)).1
  have tf := ht.1
  show zW _ _ _ _ [some (.ref 1), none] _ _ _ _ _
  refine z_aload rfl rfl ?_
  refine z_callV (As := []) _ rfl rfl rfl (Nat.le_of_ble_eq_true rfl) (Nat.le_of_ble_eq_true rfl) (readTextb g6 g7 hR (A := J) hf hc ht (by omega)) (fun r J2 M2 R2 hr => ?_)
  obtain ⟨⟨k2, a2, _, hM, hR2⟩, hr⟩ := hr
  subst M2 R2
  rcases hr with ⟨x1, hr, e8, hl⟩ | ⟨x1, hr⟩
  · subst r
    refine z_istore rfl rfl ?_
    show zW _ _ _ _ [some (.ref 1), some (zi 1)] _ _ _ _ _
    refine z_iload1 gi_26_5 ?_
    refine z_if_eqF gi_26_6 zr_1 (by decide) ?_
    refine z_aload0 gi_26_9 ?_
    refine z_callV (As := []) _ gi_26_10 rfl rfl (Nat.le_of_ble_eq_true rfl) (Nat.le_of_ble_eq_true rfl) (blb g3 g4 g6 g7 hR e8) (fun r J3 M3 R3 hr => ?_)
    obtain ⟨rfl, rfl, rfl, rfl⟩ := hr
    show zW _ _ _ _ _ _ _ _ _ _
    refine z_aload0 gi_26_13 ?_
    refine z_pushJ gp_26_14 ?_
    refine z_putI (y := 1) gi_26_15 rfl gk_1 ?_
    refine z_iload1 gi_26_18 ?_
    refine z_if_eqF gi_26_19 zr_1 (by decide) ?_
    refine z_pushJ gp_26_22 ?_
    refine z_goto gi_26_23 ?_
    refine z_iret gi_26_33 gr_26 ?_
    exact KT x1 J2 k2 hl
  · subst r
    refine z_istore rfl rfl ?_
    show zW _ _ _ _ [some (.ref 1), some (zi 0)] _ _ _ _ _
    refine z_iload1 gi_26_5 ?_
    refine z_if_eqT gi_26_6 zr_0 (by decide) ?_
    refine z_aload0 gi_26_13 ?_
    refine z_pushJ gp_26_14 ?_
    refine z_putI (y := 1) gi_26_15 rfl gk_1 ?_
    refine z_iload1 gi_26_18 ?_
    refine z_if_eqT gi_26_19 zr_0 (by decide) ?_
    refine z_pushJ gp_26_26 ?_
    refine z_aload0 gi_26_28 ?_
    refine z_getI (v := (pT c f 121 0).2.1) gi_26_29 gk_1 ((zU_x (by decide)).trans (a2)) ?_
    refine z_isub (e := (-100) - ((pT c f 121 0).2.1)) gi_26_32 rfl ?_
    refine z_iret gi_26_33 gr_26 ?_
    exact KF x1 J2 k2
theorem lawR_k {X : Nat × (Nat → Int32)} {d : Nat} {J M : zA} {R : zR} {P : zP} (hR : zRoR R) {c : Int → Int} {f : Int} (hf : J 50 15 = f) (hc : ∀ i, 0 ≤ i → i < f → J 61 i = zb (c i)) (ht : tp c f) (KT : (pT c f 121 0).1 = true → ∀ J2 : zA, zK (kL [62, 63, 64, 65, 66] [(50, 16), (50, 17), (50, 18), (50, 19), (50, 15)]) J J2 → J2 50 15 = 0 → J2 64 0 = ((pT c f 121 0).2.2.length : Int) → lnl J2 0 0 0 0 (pT c f 121 0).2.2 → (((pT c f 121 0).2.2.length : Int) ≤ 61 ∧ nst (pT c f 121 0).2.2 ≤ 120) → P (some (zi 1)) (zU J2 50 27 1) M R) (KF : (pT c f 121 0).1 = false → ∀ J2 : zA, zK (kL [62, 63, 64, 65, 66] [(50, 16), (50, 17), (50, 18), (50, 19), (50, 15)]) J J2 → J2 50 15 = 0 → J2 64 0 = J 64 0 → (∀ j, j < 130 → J2 62 j = J 62 j ∧ J2 63 j = J 63 j) → (∀ j, j < 61 → J2 65 j = J 65 j ∧ J2 66 j = J 66 j) → P (some (zi (-100 - (pT c f 121 0).2.1))) J2 M R) : zW X (d + 120) 182 0 (gEn 182 [.ref 50]) [] J M R P := by
  have pg := (pT_g ht 121 0 (by omega)).1
  have tf := ht.1
  show zW _ _ _ _ [some (.ref 50), none] _ _ _ _ _
  refine z_aload rfl rfl ?_
  refine z_pushI (z := 0) rfl rfl ?_
  refine z_callV (As := [_]) _ rfl rfl rfl (Nat.le_of_ble_eq_true rfl) (Nat.le_of_ble_eq_true rfl) (rtext hR (A := J) hf hc ht (by omega)) (fun r J2 M2 R2 hr => ?_)
  obtain ⟨⟨k2, a2, hM, hR2⟩, hr⟩ := hr
  subst M2 R2
  rcases hr with ⟨x1, hr, e1, e2, e3⟩ | ⟨x1, hr, e1, e2, e3⟩
  · subst r
    refine z_istore rfl rfl ?_
    show zW _ _ _ _ [some (.ref 50), some (zi (-1))] _ _ _ _ _
    refine z_iload1 gi_182_6 ?_
    refine z_if_ltT gi_182_7 zrn_1 (by decide) ?_
    refine z_aload0 rfl ?_
    refine z_pushJ gp_182_16 ?_
    refine z_putZ (y := 27) rfl rfl gk_50 (by decide) ?_
    refine z_pushJ gp_182_20 ?_
    refine z_iret rfl gr_182 ?_
    exact KT x1 J2 k2 a2 e1 e2 e3
  · subst r
    refine z_istore rfl rfl ?_
    show zW _ _ _ _ [some (.ref 50), some (zi ((pT c f 121 0).2.1))] _ _ _ _ _
    refine z_iload1 gi_182_6 ?_
    refine z_if_ltF gi_182_7 (by omega) (by omega) ?_
    refine z_pushJ gp_182_10 ?_
    refine z_iload1 rfl ?_
    refine z_isub (e := (-100) - ((pT c f 121 0).2.1)) rfl rfl ?_
    refine z_iret rfl gr_182 ?_
    exact KF x1 J2 k2 a2 e1 e2 e3
