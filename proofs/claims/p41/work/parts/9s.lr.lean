theorem kT_W : ∀ x j, kT x j = true → (kL [7] [(1, 10)]) x j = true := by
  intro x j h
  unfold kT at h
  unfold kL
  simp only [List.any_cons, List.any_nil, Bool.or_false]
  by_cases e7 : x = 7
  · subst e7
    exact Bool.noConfusion (show false = true from h)
  · rw [beq_f e7]
    by_cases e1 : x = 1
    · subst e1
      by_cases g : 10 ≤ j
      · rw [decide_eq_true g] at h
        exact absurd h (by decide)
      · rw [decide_eq_false (show ¬ j = 10 by omega)]
        rfl
    · rw [beq_f e1]
      rfl
theorem tcs_pos {ls : List lnT} (h : ls ≠ []) : 1 ≤ ((tcs ls).length : Int) := by
  cases ls with
  | nil => exact absurd rfl h
  | cons x t =>
    show 1 ≤ (((lcs x ++ [(59, 0)]) ++ tcs t).length : Int)
    rw [List.length_append, List.length_append, List.length_singleton]
    omega
/-- the new law -/
noncomputable def lawT (ls : List lnT) : zX := fun h d k m c p => zn (evl (h, d, k, m, c, p) ls)
theorem lawT_ok (ls : List lnT) : Tok (lawT ls) := fun _ _ _ _ _ _ => zn_r _
theorem lawCa {X : Nat × (Nat → Int32)} {A : zA} {R : zR} {ls : List lnT} (h3 : R 1 3 = some 5) (h4 : R 1 4 = some 6) (hR : zRok R) (hg : ∀ x ∈ ls, gdl x) (hne : ls ≠ []) (hN : A 1 5 = ((tcs ls).length : Int)) (hl : lay A 5 6 0 (tcs ls)) (h121 : ((tcs ls).length : Int) ≤ 121) : LawC X A R (lawT ls) := by
  refine ⟨5, 6, ⟨h3, h4, Or.inr ⟨rfl, rfl⟩⟩, ?_⟩
  intro d J M h dd k m c p g1 g5 g6 r1 r2 r3 r4 r5 r6
  have tp1 := tcs_pos hne
  show zW _ _ _ _ [some (.ref 1), some (zi h), some (zi dd), some (zi k), some (zi m), some (zi c), some (zi p), none, none, none] _ _ _ _ _
  refine z_aload0 gi_38_0 ?_
  refine z_getI (v := ((tcs ls).length : Int)) gi_38_1 gk_1 (g1.trans hN) ?_
  refine z_if_neT gi_38_4 (by omega) (by omega) ?_
  refine z_aload0 gi_38_15 ?_
  refine z_iload1 gi_38_16 ?_
  refine z_putI (y := 11) gi_38_17 rfl gk_1 ?_
  refine z_aload0 gi_38_20 ?_
  refine z_iload2 gi_38_21 ?_
  refine z_putI (y := 12) gi_38_22 rfl gk_1 ?_
  refine z_aload0 gi_38_25 ?_
  refine z_iload3 gi_38_26 ?_
  refine z_putI (y := 13) gi_38_27 rfl gk_1 ?_
  refine z_aload0 gi_38_30 ?_
  refine z_iload4 gi_38_31 ?_
  refine z_putI (y := 14) gi_38_33 rfl gk_1 ?_
  refine z_aload0 gi_38_36 ?_
  refine z_iload5 gi_38_37 ?_
  refine z_putI (y := 15) gi_38_39 rfl gk_1 ?_
  refine z_aload0 gi_38_42 ?_
  refine z_iload6 gi_38_43 ?_
  refine z_putI (y := 16) gi_38_45 rfl gk_1 ?_
  refine z_aload0 gi_38_48 ?_
  refine z_pushJ gp_38_49 ?_
  refine z_putI (y := 10) gi_38_50 rfl gk_1 ?_
  refine z_pushJ gp_38_53 ?_
  refine z_istore (ls1 := [some (.ref 1), some (zi h), some (zi dd), some (zi k), some (zi m), some (zi c), some (zi p), some (zi 0), none, none]) gi_38_54 rfl ?_
  refine z_pushJ gp_38_56 ?_
  refine z_istore (ls1 := [some (.ref 1), some (zi h), some (zi dd), some (zi k), some (zi m), some (zi c), some (zi p), some (zi 0), some (zi 0), none]) gi_38_57 rfl ?_
  show zW _ _ _ _ [some (.ref 1), some (zi h), some (zi dd), some (zi k), some (zi m), some (zi c), some (zi p), some (zi 0), some (zi 0), none] [] _ _ _ _
  refine wkla (d := d) h3 h4 hR (B := (zU (zU (zU (zU (zU (zU (zU J 1 11 h) 1 12 dd) 1 13 k) 1 14 m) 1 15 c) 1 16 p) 1 10 0)) (e := (h, dd, k, m, c, p)) ⟨rfl, rfl, rfl, rfl, rfl, rfl⟩ ⟨r1, r2, r3, r4, r5, r6⟩ (by exact (zU_x (by decide)).trans ((zU_x (by decide)).trans ((zU_x (by decide)).trans ((zU_x (by decide)).trans ((zU_x (by decide)).trans ((zU_x (by decide)).trans ((zU_x (by decide)).trans (g1.trans hN)))))))) (by omega) ls 0 none _ zK_r ⟨rfl, trivial, fun w hw => by cases hw⟩ hg (lay_eq (fun j => (zU_n (by decide)).trans ((zU_n (by decide)).trans ((zU_n (by decide)).trans ((zU_n (by decide)).trans ((zU_n (by decide)).trans ((zU_n (by decide)).trans ((zU_n (by decide)).trans (g5 j)))))))) (fun j => (zU_n (by decide)).trans ((zU_n (by decide)).trans ((zU_n (by decide)).trans ((zU_n (by decide)).trans ((zU_n (by decide)).trans ((zU_n (by decide)).trans ((zU_n (by decide)).trans (g6 j)))))))) _ 0 hl) (by omega) (fun J2 k2 => ⟨?_, zK_t (zK_x (a := 1) (x := 10) (v := 0) (zK_x (a := 1) (x := 16) (v := p) (zK_x (a := 1) (x := 15) (v := c) (zK_x (a := 1) (x := 14) (v := m) (zK_x (a := 1) (x := 13) (v := k) (zK_x (a := 1) (x := 12) (v := dd) (zK_x (a := 1) (x := 11) (v := h) zK_r rfl) rfl) rfl) rfl) rfl) rfl) rfl) (zK_m k2 kT_W), rfl, rfl⟩)
  show some (zi (evl (h, dd, k, m, c, p) ls)) = some (zi (zn (evl (h, dd, k, m, c, p) ls)))
  rw [zi_zn]
theorem lawCb {X : Nat × (Nat → Int32)} {A : zA} {R : zR} {ls : List lnT} (h3 : R 1 3 = some 3) (h4 : R 1 4 = some 4) (hR : zRok R) (hg : ∀ x ∈ ls, gdl x) (hne : ls ≠ []) (hN : A 1 5 = ((tcs ls).length : Int)) (hl : lay A 3 4 0 (tcs ls)) (h121 : ((tcs ls).length : Int) ≤ 121) : LawC X A R (lawT ls) := by
  refine ⟨3, 4, ⟨h3, h4, Or.inl ⟨rfl, rfl⟩⟩, ?_⟩
  intro d J M h dd k m c p g1 g3 g4 r1 r2 r3 r4 r5 r6
  have tp1 := tcs_pos hne
  show zW _ _ _ _ [some (.ref 1), some (zi h), some (zi dd), some (zi k), some (zi m), some (zi c), some (zi p), none, none, none] _ _ _ _ _
  refine z_aload0 gi_38_0 ?_
  refine z_getI (v := ((tcs ls).length : Int)) gi_38_1 gk_1 (g1.trans hN) ?_
  refine z_if_neT gi_38_4 (by omega) (by omega) ?_
  refine z_aload0 gi_38_15 ?_
  refine z_iload1 gi_38_16 ?_
  refine z_putI (y := 11) gi_38_17 rfl gk_1 ?_
  refine z_aload0 gi_38_20 ?_
  refine z_iload2 gi_38_21 ?_
  refine z_putI (y := 12) gi_38_22 rfl gk_1 ?_
  refine z_aload0 gi_38_25 ?_
  refine z_iload3 gi_38_26 ?_
  refine z_putI (y := 13) gi_38_27 rfl gk_1 ?_
  refine z_aload0 gi_38_30 ?_
  refine z_iload4 gi_38_31 ?_
  refine z_putI (y := 14) gi_38_33 rfl gk_1 ?_
  refine z_aload0 gi_38_36 ?_
  refine z_iload5 gi_38_37 ?_
  refine z_putI (y := 15) gi_38_39 rfl gk_1 ?_
  refine z_aload0 gi_38_42 ?_
  refine z_iload6 gi_38_43 ?_
  refine z_putI (y := 16) gi_38_45 rfl gk_1 ?_
  refine z_aload0 gi_38_48 ?_
  refine z_pushJ gp_38_49 ?_
  refine z_putI (y := 10) gi_38_50 rfl gk_1 ?_
  refine z_pushJ gp_38_53 ?_
  refine z_istore (ls1 := [some (.ref 1), some (zi h), some (zi dd), some (zi k), some (zi m), some (zi c), some (zi p), some (zi 0), none, none]) gi_38_54 rfl ?_
  refine z_pushJ gp_38_56 ?_
  refine z_istore (ls1 := [some (.ref 1), some (zi h), some (zi dd), some (zi k), some (zi m), some (zi c), some (zi p), some (zi 0), some (zi 0), none]) gi_38_57 rfl ?_
  show zW _ _ _ _ [some (.ref 1), some (zi h), some (zi dd), some (zi k), some (zi m), some (zi c), some (zi p), some (zi 0), some (zi 0), none] [] _ _ _ _
  refine wklb (d := d) h3 h4 hR (B := (zU (zU (zU (zU (zU (zU (zU J 1 11 h) 1 12 dd) 1 13 k) 1 14 m) 1 15 c) 1 16 p) 1 10 0)) (e := (h, dd, k, m, c, p)) ⟨rfl, rfl, rfl, rfl, rfl, rfl⟩ ⟨r1, r2, r3, r4, r5, r6⟩ (by exact (zU_x (by decide)).trans ((zU_x (by decide)).trans ((zU_x (by decide)).trans ((zU_x (by decide)).trans ((zU_x (by decide)).trans ((zU_x (by decide)).trans ((zU_x (by decide)).trans (g1.trans hN)))))))) (by omega) ls 0 none _ zK_r ⟨rfl, trivial, fun w hw => by cases hw⟩ hg (lay_eq (fun j => (zU_n (by decide)).trans ((zU_n (by decide)).trans ((zU_n (by decide)).trans ((zU_n (by decide)).trans ((zU_n (by decide)).trans ((zU_n (by decide)).trans ((zU_n (by decide)).trans (g3 j)))))))) (fun j => (zU_n (by decide)).trans ((zU_n (by decide)).trans ((zU_n (by decide)).trans ((zU_n (by decide)).trans ((zU_n (by decide)).trans ((zU_n (by decide)).trans ((zU_n (by decide)).trans (g4 j)))))))) _ 0 hl) (by omega) (fun J2 k2 => ⟨?_, zK_t (zK_x (a := 1) (x := 10) (v := 0) (zK_x (a := 1) (x := 16) (v := p) (zK_x (a := 1) (x := 15) (v := c) (zK_x (a := 1) (x := 14) (v := m) (zK_x (a := 1) (x := 13) (v := k) (zK_x (a := 1) (x := 12) (v := dd) (zK_x (a := 1) (x := 11) (v := h) zK_r rfl) rfl) rfl) rfl) rfl) rfl) rfl) (zK_m k2 kT_W), rfl, rfl⟩)
  show some (zi (evl (h, dd, k, m, c, p) ls)) = some (zi (zn (evl (h, dd, k, m, c, p) ls)))
  rw [zi_zn]
