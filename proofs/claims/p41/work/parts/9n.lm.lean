theorem enc_r {y : Int × Int} (h : okc y) : 0 ≤ (enc y).1 ∧ (enc y).1 ≤ 127 := by
  unfold enc
  by_cases h1 : y.1 = 48
  · rw [if_pos h1]; show (0 : Int) ≤ 1 ∧ (1 : Int) ≤ 127; decide
  · rw [if_neg h1]
    by_cases h2 : nmd y.1
    · rw [if_pos h2]; show (0 : Int) ≤ 2 ∧ (2 : Int) ≤ 127; decide
    · rw [if_neg h2]
      by_cases h3 : y.1 = 33
      · rw [if_pos h3]; exact ⟨by decide, by decide⟩
      · rw [if_neg h3]
        by_cases h4 : y.1 = 95
        · rw [if_pos h4]; exact ⟨by decide, by decide⟩
        · rw [if_neg h4]
          rcases h with h | h | h | h
          · exact absurd h.1 h1
          · exact absurd h.1 h2
          · exact absurd h.1 (fun g => g.elim h3 h4)
          · exact rk_b h.1
theorem lay_rng {J : zA} {p q : Nat} : ∀ (l : List (Int × Int)) (i : Int), lay J p q i (l.map enc) → (∀ y ∈ l, okc y) → ∀ j, i ≤ j → j < i + (l.length : Int) → 0 ≤ J p j ∧ J p j ≤ 127 := by
  intro l
  induction l with
  | nil =>
    intro i _ _ j h1 h2
    rw [List.length_nil] at h2
    exfalso
    omega
  | cons x l ih =>
    intro i h hy j h1 h2
    rw [List.length_cons] at h2
    by_cases e : j = i
    · subst e
      have a : J p j = (enc x).1 := h.1.1
      rw [a]
      exact enc_r (hy x (List.mem_cons_self ..))
    · exact ih (i + 1) h.2 (fun y hm => hy y (List.mem_cons_of_mem _ hm)) j (by omega) (by omega)
theorem lay_shift {J J2 : zA} {p q : Nat} {P : Int} : ∀ (l : List (Int × Int)) (i : Int), lay J p q (P + i) l → (∀ j, i ≤ j → j < i + (l.length : Int) → J2 p j = J p (P + j) ∧ J2 q j = J q (P + j)) → lay J2 p q i l := by
  intro l
  induction l with
  | nil => exact fun _ _ _ => trivial
  | cons x l ih =>
    intro i h hk
    rw [List.length_cons] at hk
    have q := hk i (Int.le_refl i) (by omega)
    refine ⟨⟨q.1.trans h.1.1, q.2.trans h.1.2⟩, ih (i + 1) ?_ (fun j h1 h2 => hk j (by omega) (by omega))⟩
    have h2 := h.2
    rw [show P + i + 1 = P + (i + 1) by omega] at h2
    exact h2
theorem lnl_rng {J : zA} {P Q : Int} : ∀ (t : List lnT) (l s : Int), lnl J P Q l s t → (∀ x ∈ t, gdl x) → 0 ≤ s → s + nst t ≤ 255 → (∀ j, P + s ≤ j → j < P + s + nst t → 0 ≤ J 62 j ∧ J 62 j ≤ 127) ∧ (∀ j, Q + l ≤ j → j < Q + l + (t.length : Int) → (0 ≤ J 65 j ∧ J 65 j ≤ 255) ∧ (0 ≤ J 66 j ∧ J 66 j ≤ 255)) := by
  intro t
  induction t with
  | nil =>
    intro l s _ _ _ _
    refine ⟨fun j h1 h2 => ?_, fun j h1 h2 => ?_⟩
    · have e : nst [] = 0 := rfl
      exfalso
      omega
    · rw [List.length_nil] at h2
      exfalso
      omega
  | cons x t ih =>
    intro l s h hx hs hn
    have e : nst (x :: t) = (x.1.length : Int) + (x.2.length : Int) + nst t := rfl
    have np := nst_p t
    obtain ⟨⟨a, b, c⟩, d⟩ := h
    have g := ih (l + 1) _ d (fun y hy => hx y (List.mem_cons_of_mem _ hy)) (by omega) (by omega)
    have gx := hx x (List.mem_cons_self ..)
    have hok : ∀ y ∈ x.1 ++ x.2, okc y := by
      intro y hy
      rcases List.mem_append.mp hy with k | k
      · rcases gx.1 with k2 | k2
        · rw [k2] at k; cases k
        · exact k2.1 y k
      · exact gx.2.1 y k
    have r := lay_rng (x.1 ++ x.2) (P + s) c hok
    rw [List.length_append] at r
    refine ⟨fun j h1 h2 => ?_, fun j h1 h2 => ?_⟩
    · by_cases q : j < P + s + ((x.1.length : Int) + (x.2.length : Int))
      · exact r j h1 (by omega)
      · exact g.1 j (by omega) (by omega)
    · rw [List.length_cons] at h2
      by_cases q : j = Q + l
      · rw [q, a, b]
        omega
      · exact g.2 j (by omega) (by omega)
theorem lnl_shift {J J2 : zA} {P Q : Int} : ∀ (t : List lnT) (l s : Int), lnl J P Q l s t → (∀ j, s ≤ j → j < s + nst t → J2 62 j = J 62 (P + j) ∧ J2 63 j = J 63 (P + j)) → (∀ j, l ≤ j → j < l + (t.length : Int) → J2 65 j = J 65 (Q + j) ∧ J2 66 j = J 66 (Q + j)) → lnl J2 0 0 l s t := by
  intro t
  induction t with
  | nil => exact fun _ _ _ _ _ => trivial
  | cons x t ih =>
    intro l s h h1 h2
    have e : nst (x :: t) = (x.1.length : Int) + (x.2.length : Int) + nst t := rfl
    have np := nst_p t
    rw [List.length_cons] at h2
    obtain ⟨⟨a, b, c⟩, d⟩ := h
    have q := h2 l (Int.le_refl l) (by omega)
    refine ⟨⟨?_, ?_, ?_⟩, ih (l + 1) _ d (fun j g1 g2 => h1 j (by omega) (by omega)) (fun j g1 g2 => h2 j (by omega) (by omega))⟩
    · rw [Int.zero_add]
      exact q.1.trans a
    · rw [Int.zero_add]
      exact q.2.trans b
    · rw [Int.zero_add]
      refine lay_shift _ s c (fun j g1 g2 => h1 j g1 ?_)
      rw [List.length_map, List.length_append] at g2
      omega
theorem kLM {J J2 : zA} (h : zK (kL [62, 63, 64, 65, 66] [(50, 16), (50, 17), (50, 18), (50, 19)]) J J2) : zK (kL [62, 63, 64, 65, 66] [(50, 16), (50, 17), (50, 18), (50, 19), (50, 15)]) J J2 := by
  refine zK_m h (fun x j q => ?_)
  unfold kL at q ⊢
  simp only [List.any_cons, List.any_nil, Bool.not_or, Bool.and_eq_true, Bool.or_false] at q ⊢
  obtain ⟨q5, q6, q7, q8, q9, q10⟩ := q
  exact ⟨q5, q6, q7, q8, q9⟩
/-- what readText leaves of the reference -/
noncomputable def rtp (x : Bool × Int × List lnT) (A M : zA) (R : zR) : zP := fun r J2 M2 R2 => (zK (kL [62, 63, 64, 65, 66] [(50, 16), (50, 17), (50, 18), (50, 19), (50, 15)]) A J2 ∧ J2 50 15 = 0 ∧ M2 = M ∧ R2 = R) ∧ ((x.1 = true ∧ r = some (zi (-1)) ∧ J2 64 0 = (x.2.2.length : Int) ∧ lnl J2 0 0 0 0 x.2.2 ∧ ((x.2.2.length : Int) ≤ 61 ∧ nst x.2.2 ≤ 120)) ∨ (x.1 = false ∧ r = some (zi x.2.1) ∧ J2 64 0 = A 64 0 ∧ (∀ j, j < 130 → J2 62 j = A 62 j ∧ J2 63 j = A 63 j) ∧ (∀ j, j < 61 → J2 65 j = A 65 j ∧ J2 66 j = A 66 j)))
theorem rtext {X : Nat × (Nat → Int32)} {M : zA} {R : zR} (hR : zRoR R) {A : zA} {c : Int → Int} {f : Int} (hf : A 50 15 = f) (hc : ∀ i, 0 ≤ i → i < f → A 61 i = zb (c i)) (ht : tp c f) {D : Nat} (hD : 65 ≤ D) : zW X D 178 0 (gEn 178 [.ref 50, zi 0]) [] A M R (rtp (pT c f 121 0) A M R) := by
  obtain ⟨D, rfl⟩ : ∃ e, D = e + 6 := ⟨D - 6, by omega⟩
  have tf := ht.1
  show zW _ _ _ _ [some (.ref 50), some (zi 0), none] _ _ _ _ _
  refine z_aload0 rfl ?_
  refine z_pushJ gp_178_1 ?_
  refine z_putI (y := 16) rfl rfl gk_50 ?_
  refine z_aload0 rfl ?_
  refine z_pushJ gp_178_6 ?_
  refine z_putI (y := 17) rfl rfl gk_50 ?_
  refine z_aload0 rfl ?_
  refine z_pushJ gp_178_11 ?_
  refine z_putI (y := 18) rfl rfl gk_50 ?_
  refine z_aload0 rfl ?_
  refine z_pushJ gp_178_16 ?_
  refine z_putI (y := 19) rfl rfl gk_50 ?_
  refine z_aload0 rfl ?_
  refine z_getR (r := 64) rfl gk_50 (hR _ rm_50_22 (by decide)) ?_
  refine z_pushJ gp_178_24 ?_
  refine z_pushJ gp_178_25 ?_
  refine z_iast (e := 0) rfl gk_64 (by decide) (by decide) rfl ?_
  show zW _ _ _ _ [some (.ref 50), some (zi 0), none] [] _ _ _ _
  refine rtx27 (m := 120) hR hf hc ht (by omega) [] 0 _ ⟨⟨(zK_x (a := 64) (x := 1) (v := 0) (zK_x (a := 50) (x := 19) (v := 0) (zK_x (a := 50) (x := 18) (v := 0) (zK_x (a := 50) (x := 17) (v := (-1)) (zK_x (a := 50) (x := 16) (v := 0) zK_r rfl) rfl) rfl) rfl) rfl), (zU_x (by omega)).trans ((zU_n (by decide)).trans ((zU_n (by decide)).trans ((zU_n (by decide)).trans ((zU_n (by decide)).trans (rfl))))), fun j hj => ⟨rfl, rfl⟩, fun j hj => ⟨rfl, rfl⟩⟩, (zU_n (by decide)).trans ((zU_x (by decide)).trans ((zU_x (by decide)).trans ((zU_x (by decide)).trans (zU_e)))), (zU_n (by decide)).trans ((zU_x (by decide)).trans ((zU_x (by decide)).trans (zU_e))), (zU_n (by decide)).trans ((zU_x (by decide)).trans (zU_e)), (zU_n (by decide)).trans (zU_e), zU_e, trivial, ⟨by decide, by decide⟩⟩ (by omega) (by decide) (fun JF hE => ?_)
  obtain ⟨hE1, h16, hE⟩ := hE
  have px := (pT_g ht 121 0 (by omega)).1
  rcases hE with ⟨ok, h17, hfx, h19, h641, hl, hb⟩ | ⟨ok, h17 | ⟨h17, hlt⟩⟩
  · show zW _ _ _ _ [some (.ref 50), some (zi 0), none] _ _ _ _ _
    have hfx2 : f ≤ (pT c f 121 0).2.1 := hfx
    have hl : lnl JF 130 61 0 0 (pT c f 121 0).2.2 := hl
    have hb : 2 * (((pT c f 121 0).2.2.length : Int) - 1) ≤ f ∧ nst (pT c f 121 0).2.2 ≤ f := hb
    have h19 : JF 50 19 = nst (pT c f 121 0).2.2 := h19
    have h641 : JF 64 1 = ((pT c f 121 0).2.2.length : Int) := h641
    refine z_aload0 gi_178_64 ?_
    refine z_getI (v := (-1)) gi_178_65 gk_50 (h17) ?_
    refine z_if_geF gi_178_68 zrn_1 (by decide) ?_
    refine z_aload0 gi_178_71 ?_
    refine z_getI (v := (pT c f 121 0).2.1) gi_178_72 gk_50 (h16) ?_
    refine z_aload0 gi_178_75 ?_
    refine z_getI (v := f) gi_178_76 gk_50 ((hE1.1 50 15 rfl).trans hf) ?_
    refine z_icmp_geT gi_178_79 (by omega) (by omega) (by omega) ?_
    refine z_aload0 gi_178_86 ?_
    refine z_pushJ gp_178_87 ?_
    refine z_putI (y := 15) gi_178_88 rfl gk_50 ?_
    refine z_aload0 gi_178_91 ?_
    refine z_getI (v := (-1)) gi_178_92 gk_50 ((zU_x (by decide)).trans (h17)) ?_
    refine z_if_ltT gi_178_95 zrn_1 (by decide) ?_
    refine z_pushJ gp_178_103 ?_
    refine z_istore (ls1 := [some (.ref 50), some (zi 0), some (zi 0)]) rfl rfl ?_
    show zW _ _ _ _ [some (.ref 50), some (zi 0), some (zi 0)] [] _ _ _ _
    have rg := lnl_rng (pT c f 121 0).2.2 0 0 hl ((pT_g ht 121 0 (by omega)).2 ok).1 (by decide) (by omega)
    have np := nst_p (pT c f 121 0).2.2
    refine cpy1_k (n := (nst (pT c f 121 0).2.2)) hR ((zU_x (by decide)).trans h19) (by omega) (fun j hj => by rw [zU_n (by decide)]; exact rg.1 j (by omega) (by omega)) ?_
    refine z_aload0 rfl ?_
    refine z_getR (r := 64) rfl gk_50 (hR _ rm_50_22 (by decide)) ?_
    refine z_iload1 rfl ?_
    refine z_aload0 rfl ?_
    refine z_getR (r := 64) rfl gk_50 (hR _ rm_50_22 (by decide)) ?_
    refine z_pushJ gp_178_172 ?_
    refine z_iald (v := ((pT c f 121 0).2.2.length : Int)) rfl gk_64 (by decide) (by decide) ((zC_n (by decide)).trans ((zC_n (by decide)).trans ((zU_n (by decide)).trans (h641)))) ?_
    refine z_iast (e := ((pT c f 121 0).2.2.length : Int)) rfl gk_64 (by decide) (by decide) rfl ?_
    refine z_pushJ gp_178_175 ?_
    refine z_istore (ls1 := [some (.ref 50), some (zi 0), some (zi 0)]) rfl rfl ?_
    show zW _ _ _ _ [some (.ref 50), some (zi 0), some (zi 0)] [] _ _ _ _
    refine cpy2_k (n := ((pT c f 121 0).2.2.length : Int)) hR zU_e (by omega) (fun j hj => ?_) (fun j hj => ?_) ?_
    · have q := (rg.2 j (by omega) (by omega)).1
      have e := (show (zU (zC (zC (zU JF 50 15 0) 62 62 130 0 (nst (pT c f 121 0).2.2)) 63 63 130 0 (nst (pT c f 121 0).2.2)) 64 0 ((pT c f 121 0).2.2.length : Int)) 65 j = JF 65 j from (zU_n (by decide)).trans ((zC_n (by decide)).trans ((zC_n (by decide)).trans ((zU_n (by decide)).trans (rfl)))))
      rw [e]
      exact q
    · have q := (rg.2 j (by omega) (by omega)).2
      have e := (show (zU (zC (zC (zU JF 50 15 0) 62 62 130 0 (nst (pT c f 121 0).2.2)) 63 63 130 0 (nst (pT c f 121 0).2.2)) 64 0 ((pT c f 121 0).2.2.length : Int)) 66 j = JF 66 j from (zU_n (by decide)).trans ((zC_n (by decide)).trans ((zC_n (by decide)).trans ((zU_n (by decide)).trans (rfl)))))
      rw [e]
      exact q
    refine z_pushJ gp_178_233 ?_
    refine z_iret rfl gr_178 ?_
    refine ⟨⟨(zK_c (a := 66) (b := 66) (sp := 61) (dp := 0) (n := ((pT c f 121 0).2.2.length : Int)) (zK_c (a := 65) (b := 65) (sp := 61) (dp := 0) (n := ((pT c f 121 0).2.2.length : Int)) (zK_x (a := 64) (x := 0) (v := ((pT c f 121 0).2.2.length : Int)) (zK_c (a := 63) (b := 63) (sp := 130) (dp := 0) (n := (nst (pT c f 121 0).2.2)) (zK_c (a := 62) (b := 62) (sp := 130) (dp := 0) (n := (nst (pT c f 121 0).2.2)) (zK_x (a := 50) (x := 15) (v := 0) (kLM hE1.1) rfl) (fun _ => rfl)) (fun _ => rfl)) rfl) (fun _ => rfl)) (fun _ => rfl)), (zC_n (by decide)).trans ((zC_n (by decide)).trans ((zU_n (by decide)).trans ((zC_n (by decide)).trans ((zC_n (by decide)).trans (zU_e))))), rfl, rfl⟩, Or.inl ⟨ok, rfl, (zC_n (by decide)).trans ((zC_n (by decide)).trans (zU_e)), ?_, by omega⟩⟩
    exact lnl_shift (pT c f 121 0).2.2 0 0 hl (fun j j1 j2 => ⟨(zC_n (by decide)).trans ((zC_n (by decide)).trans ((zU_n (by decide)).trans ((zC_n (by decide)).trans (((zC_in2 (by omega))).trans ((zU_n (by decide)).trans (rfl)))))), (zC_n (by decide)).trans ((zC_n (by decide)).trans ((zU_n (by decide)).trans (((zC_in2 (by omega))).trans ((zC_n (by decide)).trans ((zU_n (by decide)).trans (rfl))))))⟩) (fun j j1 j2 => ⟨(zC_n (by decide)).trans (((zC_in2 (by omega))).trans ((zU_n (by decide)).trans ((zC_n (by decide)).trans ((zC_n (by decide)).trans ((zU_n (by decide)).trans (rfl)))))), ((zC_in2 (by omega))).trans ((zC_n (by decide)).trans ((zU_n (by decide)).trans ((zC_n (by decide)).trans ((zC_n (by decide)).trans ((zU_n (by decide)).trans (rfl))))))⟩)
  · show zW _ _ _ _ [some (.ref 50), some (zi 0), none] _ _ _ _ _
    refine z_aload0 gi_178_64 ?_
    refine z_getI (v := (pT c f 121 0).2.1) gi_178_65 gk_50 (h17) ?_
    refine z_if_geT gi_178_68 (by omega) (by omega) ?_
    refine z_aload0 gi_178_86 ?_
    refine z_pushJ gp_178_87 ?_
    refine z_putI (y := 15) gi_178_88 rfl gk_50 ?_
    refine z_aload0 gi_178_91 ?_
    refine z_getI (v := (pT c f 121 0).2.1) gi_178_92 gk_50 ((zU_x (by decide)).trans (h17)) ?_
    refine z_if_ltF gi_178_95 (by omega) (by omega) ?_
    refine z_aload0 gi_178_98 ?_
    refine z_getI (v := (pT c f 121 0).2.1) gi_178_99 gk_50 ((zU_x (by decide)).trans (h17)) ?_
    refine z_iret gi_178_102 gr_178 ?_
    exact ⟨⟨(zK_x (a := 50) (x := 15) (v := 0) (kLM hE1.1) rfl), zU_e, rfl, rfl⟩, Or.inr ⟨ok, rfl, (zU_n (by decide)).trans (hE1.2.1), fun j hj => ⟨(zU_n (by decide)).trans ((hE1.2.2.1 j hj).1), (zU_n (by decide)).trans ((hE1.2.2.1 j hj).2)⟩, fun j hj => ⟨(zU_n (by decide)).trans ((hE1.2.2.2 j hj).1), (zU_n (by decide)).trans ((hE1.2.2.2 j hj).2)⟩⟩⟩
  · show zW _ _ _ _ [some (.ref 50), some (zi 0), none] _ _ _ _ _
    refine z_aload0 gi_178_64 ?_
    refine z_getI (v := (-1)) gi_178_65 gk_50 (h17) ?_
    refine z_if_geF gi_178_68 zrn_1 (by decide) ?_
    refine z_aload0 gi_178_71 ?_
    refine z_getI (v := (pT c f 121 0).2.1) gi_178_72 gk_50 (h16) ?_
    refine z_aload0 gi_178_75 ?_
    refine z_getI (v := f) gi_178_76 gk_50 ((hE1.1 50 15 rfl).trans hf) ?_
    refine z_icmp_geF gi_178_79 (by omega) (by omega) (by omega) ?_
    refine z_aload0 rfl ?_
    refine z_cV0 rfl gk_50 go_166 (Nat.le_of_ble_eq_true rfl) gc_166_R ?_
    refine z_aload0 gi_166_0 ?_
    refine z_getI (v := (-1)) gi_166_1 gk_50 (h17) ?_
    refine z_if_geF gi_166_4 zrn_1 (by decide) ?_
    refine z_aload0 gi_166_7 ?_
    refine z_aload0 gi_166_8 ?_
    refine z_getI (v := (pT c f 121 0).2.1) gi_166_9 gk_50 (h16) ?_
    refine z_putI (y := 17) gi_166_12 rfl gk_50 ?_
    refine z_vret gi_166_15 gr_166 ?_
    show zW _ _ _ _ _ _ _ _ _ _
    refine z_aload0 gi_178_86 ?_
    refine z_pushJ gp_178_87 ?_
    refine z_putI (y := 15) gi_178_88 rfl gk_50 ?_
    refine z_aload0 gi_178_91 ?_
    refine z_getI (v := (pT c f 121 0).2.1) gi_178_92 gk_50 ((zU_x (by decide)).trans (zU_e)) ?_
    refine z_if_ltF gi_178_95 (by omega) (by omega) ?_
    refine z_aload0 gi_178_98 ?_
    refine z_getI (v := (pT c f 121 0).2.1) gi_178_99 gk_50 ((zU_x (by decide)).trans (zU_e)) ?_
    refine z_iret gi_178_102 gr_178 ?_
    exact ⟨⟨(zK_x (a := 50) (x := 15) (v := 0) (zK_x (a := 50) (x := 17) (v := (pT c f 121 0).2.1) (kLM hE1.1) rfl) rfl), zU_e, rfl, rfl⟩, Or.inr ⟨ok, rfl, (zU_n (by decide)).trans ((zU_n (by decide)).trans (hE1.2.1)), fun j hj => ⟨(zU_n (by decide)).trans ((zU_n (by decide)).trans ((hE1.2.2.1 j hj).1)), (zU_n (by decide)).trans ((zU_n (by decide)).trans ((hE1.2.2.1 j hj).2))⟩, fun j hj => ⟨(zU_n (by decide)).trans ((zU_n (by decide)).trans ((hE1.2.2.2 j hj).1)), (zU_n (by decide)).trans ((zU_n (by decide)).trans ((hE1.2.2.2 j hj).2))⟩⟩⟩
