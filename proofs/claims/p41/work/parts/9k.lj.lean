theorem zh_all : ∀ x : Fin 256, zh ((x.val : Nat) : Int) = ((x.val : Nat) : Int) := by decide +kernel
theorem zh_id {x : Int} (h : 0 ≤ x ∧ x ≤ 255) : zh x = x := by
  have a := zh_all ⟨x.toNat, by omega⟩
  have e1 : ((x.toNat : Nat) : Int) = x := Int.toNat_of_nonneg h.1
  simp only [e1] at a
  exact a
theorem zh_2 {x : Int} (h : 0 ≤ x ∧ x ≤ 255) : zh (zh x) = x := by rw [zh_id (x := x) h, zh_id h]
/-- lines as the reference has them: steps from P + s on, ends from Q + l on -/
def lnl (J : zA) (P Q : Int) : Int → Int → List lnT → Prop
  | _, _, [] => True
  | l, s, x :: t => (J 65 (Q + l) = s + (x.1.length : Int) ∧ J 66 (Q + l) = s + (x.1.length : Int) + (x.2.length : Int) ∧ lay J 62 63 (P + s) ((x.1 ++ x.2).map enc)) ∧ lnl J P Q (l + 1) (s + (x.1.length : Int) + (x.2.length : Int)) t
noncomputable def nst : List lnT → Int
  | [] => 0
  | x :: t => (x.1.length : Int) + (x.2.length : Int) + nst t
theorem nst_p : ∀ l : List lnT, 0 ≤ nst l := by
  intro l
  induction l with
  | nil => exact Int.le_refl 0
  | cons x t ih =>
    show 0 ≤ (x.1.length : Int) + (x.2.length : Int) + nst t
    omega
theorem lnl_keep {J J2 : zA} {P Q : Int} : ∀ (t : List lnT) (l s : Int), lnl J P Q l s t → (∀ j, j < P + s + nst t → J2 62 j = J 62 j ∧ J2 63 j = J 63 j) → (∀ j, j < Q + l + (t.length : Int) → J2 65 j = J 65 j ∧ J2 66 j = J 66 j) → lnl J2 P Q l s t := by
  intro t
  induction t with
  | nil => exact fun _ _ _ _ _ => trivial
  | cons x t ih =>
    intro l s h h1 h2
    have np := nst_p t
    have e1 : nst (x :: t) = (x.1.length : Int) + (x.2.length : Int) + nst t := rfl
    rw [List.length_cons] at h2
    rw [e1] at h1
    obtain ⟨⟨a, b, c⟩, d⟩ := h
    have q := h2 (Q + l) (by omega)
    refine ⟨⟨q.1.trans a, q.2.trans b, lay_keep _ _ (P + s + ((x.1 ++ x.2).length : Int)) c (by rw [List.length_map]; omega) (fun j hj => h1 j ?_)⟩, ih (l + 1) _ d (fun j hj => h1 j (by omega)) (fun j hj => h2 j (by omega))⟩
    rw [List.length_append] at hj
    omega
theorem lnl_app {J : zA} {P Q : Int} : ∀ (t u : List lnT) (l s : Int), lnl J P Q l s t → lnl J P Q (l + (t.length : Int)) (s + nst t) u → lnl J P Q l s (t ++ u) := by
  intro t
  induction t with
  | nil =>
    intro u l s _ h
    have e1 : l + (([] : List lnT).length : Int) = l := by show l + ((0 : Nat) : Int) = l; omega
    have e2 : s + nst [] = s := Int.add_zero s
    rw [e1, e2] at h
    exact h
  | cons x t ih =>
    intro u l s h g
    refine ⟨h.1, ih u (l + 1) _ h.2 ?_⟩
    have e1 : l + ((x :: t).length : Int) = l + 1 + (t.length : Int) := by rw [List.length_cons]; omega
    have e2 : s + nst (x :: t) = s + (x.1.length : Int) + (x.2.length : Int) + nst t := by
      show s + ((x.1.length : Int) + (x.2.length : Int) + nst t) = _
      omega
    rw [e1, e2] at g
    exact g
/-- what a line leaves of the reference -/
noncomputable def rln (c : Int → Int) (k l a : Int) (J M : zA) (R : zR) : zP := fun r J2 M2 R2 => (r = none ∧ zK (kL [62, 63, 64, 65, 66] [(50, 16), (50, 17), (50, 18), (50, 19)]) J J2 ∧ J2 50 16 = (pLn c a).2.1 ∧ (∀ j, j < 130 + k → J2 62 j = J 62 j ∧ J2 63 j = J 63 j) ∧ (∀ j, j < 61 + l → J2 65 j = J 65 j ∧ J2 66 j = J 66 j) ∧ J2 64 0 = J 64 0 ∧ J2 64 1 = l + 1 ∧ M2 = M ∧ R2 = R) ∧ (((pLn c a).1 = true ∧ J2 50 17 = -1 ∧ J2 50 18 = 0 ∧ J2 50 19 = k + ((pLn c a).2.2.1.length : Int) + ((pLn c a).2.2.2.length : Int) ∧ lnl J2 130 61 l k [(pLn c a).2.2]) ∨ ((pLn c a).1 = false ∧ J2 50 17 = (pLn c a).2.1))
theorem pLn_f {c : Int → Int} {a : Int} (h : (pE c 48 0 0 a).1 = false) : pLn c a = (false, (pE c 48 0 0 a).2.1, ([], [])) := by
  unfold pLn
  rw [if_neg (by rw [h]; decide)]
theorem pLn_n {c : Int → Int} {a : Int} (h : (pE c 48 0 0 a).1 = true) (q : ¬ c (pE c 48 0 0 a).2.1 = 63) : pLn c a = (true, (pE c 48 0 0 a).2.1, ([], (pE c 48 0 0 a).2.2)) := by
  unfold pLn
  rw [if_pos h, if_neg q]
theorem pLn_t {c : Int → Int} {a : Int} (h : (pE c 48 0 0 a).1 = true) (q : c (pE c 48 0 0 a).2.1 = 63) : pLn c a = ((pE c 48 0 0 ((pE c 48 0 0 a).2.1 + 1)).1, (pE c 48 0 0 ((pE c 48 0 0 a).2.1 + 1)).2.1, ((pE c 48 0 0 a).2.2, (pE c 48 0 0 ((pE c 48 0 0 a).2.1 + 1)).2.2)) := by
  unfold pLn
  rw [if_pos h, if_pos q]
theorem kEL {J J2 : zA} (h : zK (kL [62, 63] [(50, 16), (50, 17), (50, 18), (50, 19)]) J J2) : zK (kL [62, 63, 64, 65, 66] [(50, 16), (50, 17), (50, 18), (50, 19)]) J J2 := by
  refine zK_m h (fun x j q => ?_)
  unfold kL at q ⊢
  simp only [List.any_cons, List.any_nil, Bool.not_or, Bool.and_eq_true, Bool.or_false] at q ⊢
  obtain ⟨⟨q1, q2, q3, q4, q5⟩, q6⟩ := q
  exact ⟨⟨q1, q2⟩, q6⟩
theorem rline {X : Nat × (Nat → Int32)} {M : zA} {R : zR} (hR : zRoR R) {c : Int → Int} {f a k l : Int} {J : zA} (hf : J 50 15 = f) (hc : ∀ i, 0 ≤ i → i < f → J 61 i = zb (c i)) (ht : tp c f) (hat : J 50 16 = a) (hfa : J 50 17 = -1) (hop : J 50 18 = 0) (hkk : J 50 19 = k) (hl : J 64 1 = l) (ha : 0 ≤ a ∧ a ≤ f) (hk0 : 0 ≤ k ∧ k ≤ a) (hl0 : 0 ≤ l ∧ l ≤ 60) {D : Nat} (hD : 64 ≤ D) : zW X D 177 0 (gEn 177 [.ref 50]) [] J M R (rln c k l a J M R) := by
  obtain ⟨D, rfl⟩ : ∃ e, D = e + 6 := ⟨D - 6, by omega⟩
  have tf := ht.1
  show zW _ _ _ _ [some (.ref 50), none] _ _ _ _ _
  refine z_pushJ gp_177_0 ?_
  refine z_aload0 rfl ?_
  refine z_getR (r := 64) rfl gk_50 (hR _ rm_50_22 (by decide)) ?_
  refine z_pushJ gp_177_6 ?_
  refine z_iald (v := l) rfl gk_64 (by decide) (by decide) (hl) ?_
  refine z_iadd (e := 61 + l) rfl rfl ?_
  refine z_istore (ls1 := [some (.ref 50), some (zi (61 + l))]) rfl rfl ?_
  refine z_aload0 rfl ?_
  refine z_getR (r := 65) rfl gk_50 (hR _ rm_50_23 (by decide)) ?_
  refine z_iload1 rfl ?_
  refine z_aload0 rfl ?_
  refine z_getI (v := k) rfl gk_50 (hkk) ?_
  refine z_i2s (e := zh k) rfl rfl ?_
  refine z_hast (e := zh (zh k)) rfl gk_65 (by decide) (by omega) rfl ?_
  refine z_aload0 rfl ?_
  have hcf3 : (zU J 65 (61 + l) (zh (zh k))) 50 15 = f := by exact (zU_n (by decide)).trans (hf)
  have hcc3 : ∀ i, 0 ≤ i → i < f → (zU J 65 (61 + l) (zh (zh k))) 61 i = zb (c i) := fun i i1 i2 => (zU_n (by decide)).trans (hc i i1 i2)
  have gx3 := (pE_g ht 48 0 0 a (by omega) (by omega)).1
  have gl3 : (pE c 48 0 0 a).1 = true → (a < (pE c 48 0 0 a).2.1 ∧ ((pE c 48 0 0 a).2.2.length : Int) ≤ (pE c 48 0 0 a).2.1 - a) := fun t => (pE_gd ht (by omega) t).1
  refine z_callV (As := []) _ rfl rfl rfl (Nat.le_of_ble_eq_true rfl) (Nat.le_of_ble_eq_true rfl) ((rdRef (A := (zU J 65 (61 + l) (zh (zh k)))) hR hcf3 hcc3 ht 48).2.2.2.2.2 0 a (k) _ (zU J 65 (61 + l) (zh (zh k))) (by omega) zK_r (by exact (zU_n (by decide)).trans (hat)) (by exact (zU_n (by decide)).trans (hfa)) (by exact (zU_n (by decide)).trans (hop)) (by exact (zU_n (by decide)).trans (hkk)) (by omega) (by omega) (by omega)) (fun r J3 M3 R3 hr => ?_)
  obtain ⟨⟨rfl, hk3, hh3, he3, eM, eR⟩, hr⟩ := hr
  obtain rfl : M = M3 := eM.symm
  obtain rfl : R = R3 := eR.symm
  rcases hr with ⟨ok3, h17, h18, h19, hl3⟩ | ⟨ok3, h17, h19⟩
  · show zW _ _ _ _ _ _ _ _ _ _
    have gm3 := gl3 ok3
    refine z_aload0 gi_177_25 ?_
    refine z_getI (v := (-1)) gi_177_26 gk_50 (h17) ?_
    refine z_if_geF gi_177_29 zrn_1 (by decide) ?_
    refine z_aload0 rfl ?_
    refine z_callVP (As := []) (v := lo (c ((pE c 48 0 0 a).2.1))) rfl rfl gk_50 (Nat.le_of_ble_eq_true rfl) (Nat.le_of_ble_eq_true rfl) (look_k (A := J3) hR ((hk3 50 15 rfl).trans hcf3) (fun i i1 i2 => (hk3 61 _ rfl).trans (hcc3 i i1 i2)) ht zK_r hh3 (by omega)) ?_
    have q1 := tp_r ht ((pE c 48 0 0 a).2.1) (by omega)
    have q2 := lo_r (c ((pE c 48 0 0 a).2.1))
    refine z_pushJ gp_177_36 ?_
    refine z_icmp_ne rfl (by omega) zr_63 (fun h3 => ?_) (fun h3 => ?_)
    · refine z_aload0 gi_177_66 ?_
      refine z_getR (r := 66) gi_177_67 gk_50 (hR _ rm_50_24 (by decide)) ?_
      refine z_iload1 gi_177_70 ?_
      refine z_aload0 gi_177_71 ?_
      refine z_getI (v := k + ((pE c 48 0 0 a).2.2.length : Int)) gi_177_72 gk_50 (h19) ?_
      refine z_i2s (e := zh (k + ((pE c 48 0 0 a).2.2.length : Int))) gi_177_75 rfl ?_
      refine z_hast (e := zh (zh (k + ((pE c 48 0 0 a).2.2.length : Int)))) gi_177_76 gk_66 (by decide) (by omega) rfl ?_
      refine z_aload0 gi_177_77 ?_
      refine z_getR (r := 64) gi_177_78 gk_50 (hR _ rm_50_22 (by decide)) ?_
      refine z_pushJ gp_177_81 ?_
      refine z_dup2 gi_177_82 rfl rfl ?_
      refine z_iald (v := l) gi_177_83 gk_64 (by decide) (by decide) ((zU_n (by decide)).trans ((hk3 64 1 rfl).trans ((zU_n (by decide)).trans (hl)))) ?_
      refine z_pushJ gp_177_84 ?_
      refine z_iadd (e := l + 1) gi_177_85 rfl ?_
      refine z_iast (e := l + 1) gi_177_86 gk_64 (by decide) (by decide) rfl ?_
      refine z_vret gi_177_87 gr_177 ?_
      have kJ3 : zK (kL [62, 63, 64, 65, 66] [(50, 16), (50, 17), (50, 18), (50, 19)]) J J3 := zK_t (zK_x (a := 65) (x := 61 + l) (v := zh (zh k)) zK_r rfl) (kEL hk3)
      have bbJ3 : ∀ j, j < 130 + k → (zU J 65 (61 + l) (zh (zh k))) 62 j = J 62 j ∧ (zU J 65 (61 + l) (zh (zh k))) 63 j = J 63 j := fun j hj => ⟨(zU_n (by decide)).trans (rfl), (zU_n (by decide)).trans (rfl)⟩
      have bJ3 : ∀ j, j < 130 + k → J3 62 j = J 62 j ∧ J3 63 j = J 63 j := fun j hj => ⟨(he3 j (by omega)).1.trans (bbJ3 j hj).1, (he3 j (by omega)).2.trans (bbJ3 j hj).2⟩
      have beJ3 : ∀ j, j < 61 + l → (zU J 65 (61 + l) (zh (zh k))) 65 j = J 65 j ∧ (zU J 65 (61 + l) (zh (zh k))) 66 j = J 66 j := fun j hj => ⟨(zU_x (by omega)).trans (rfl), (zU_n (by decide)).trans (rfl)⟩
      have eJ3 : ∀ j, j < 61 + l → J3 65 j = J 65 j ∧ J3 66 j = J 66 j := fun j hj => ⟨(hk3 65 j rfl).trans (beJ3 j hj).1, (hk3 66 j rfl).trans (beJ3 j hj).2⟩
      have zJ3 : J3 64 0 = J 64 0 := (hk3 64 0 rfl).trans ((zU_n (by decide)).trans (rfl))
      unfold rln
      rw [pLn_n ok3 (show ¬ c (pE c 48 0 0 a).2.1 = 63 by omega)]
      refine ⟨⟨rfl, (zK_x (a := 64) (x := 1) (v := l + 1) (zK_x (a := 66) (x := 61 + l) (v := zh (zh (k + ((pE c 48 0 0 a).2.2.length : Int)))) kJ3 rfl) rfl), (zU_n (by decide)).trans ((zU_n (by decide)).trans (hh3)), fun j hj => ⟨(zU_n (by decide)).trans ((zU_n (by decide)).trans ((bJ3 j hj).1)), (zU_n (by decide)).trans ((zU_n (by decide)).trans ((bJ3 j hj).2))⟩, fun j hj => ⟨(zU_n (by decide)).trans ((zU_n (by decide)).trans ((eJ3 j hj).1)), (zU_n (by decide)).trans ((zU_x (by omega)).trans ((eJ3 j hj).2))⟩, (zU_x (by decide)).trans ((zU_n (by decide)).trans (zJ3)), zU_e, rfl, rfl⟩, Or.inl ⟨rfl, (zU_n (by decide)).trans ((zU_n (by decide)).trans (h17)), (zU_n (by decide)).trans ((zU_n (by decide)).trans (h18)), ?_, ⟨?_, ?_, ?_⟩, trivial⟩⟩
      · show _ = k + ((0 : Nat) : Int) + ((pE c 48 0 0 a).2.2.length : Int)
        exact ((zU_n (by decide)).trans ((zU_n (by decide)).trans (h19))).trans (by omega)
      · exact ((zU_n (by decide)).trans ((zU_n (by decide)).trans (rfl))).trans ((hk3 65 _ rfl).trans (zU_e.trans (by rw [zh_2 (by omega)]; show k = k + ((0 : Nat) : Int); omega)))
      · show _ = k + ((0 : Nat) : Int) + ((pE c 48 0 0 a).2.2.length : Int)
        exact ((zU_n (by decide)).trans (zU_e)).trans (by rw [zh_2 (by omega)]; omega)
      · show lay _ 62 63 (130 + k) ((pE c 48 0 0 a).2.2.map enc)
        exact lay_keep _ _ (130 + k + ((pE c 48 0 0 a).2.2.length : Int)) hl3 (by rw [List.length_map]; omega) (fun j _ => ⟨(zU_n (by decide)).trans (zU_n (by decide)), (zU_n (by decide)).trans (zU_n (by decide))⟩)
    · refine z_aload0 rfl ?_
      refine z_dup rfl rfl ?_
      refine z_getI (v := (pE c 48 0 0 a).2.1) rfl gk_50 (hh3) ?_
      refine z_pushJ gp_177_46 ?_
      refine z_iadd (e := ((pE c 48 0 0 a).2.1) + 1) rfl rfl ?_
      refine z_putI (y := 16) rfl rfl gk_50 ?_
      refine z_aload0 rfl ?_
      refine z_getR (r := 65) rfl gk_50 (hR _ rm_50_23 (by decide)) ?_
      refine z_iload1 rfl ?_
      refine z_aload0 rfl ?_
      refine z_getI (v := k + ((pE c 48 0 0 a).2.2.length : Int)) rfl gk_50 ((zU_x (by decide)).trans (h19)) ?_
      refine z_i2s (e := zh (k + ((pE c 48 0 0 a).2.2.length : Int))) rfl rfl ?_
      refine z_hast (e := zh (zh (k + ((pE c 48 0 0 a).2.2.length : Int)))) rfl gk_65 (by decide) (by omega) rfl ?_
      refine z_aload0 rfl ?_
      have kJ3 : zK (kL [62, 63, 64, 65, 66] [(50, 16), (50, 17), (50, 18), (50, 19)]) J J3 := zK_t (zK_x (a := 65) (x := 61 + l) (v := zh (zh k)) zK_r rfl) (kEL hk3)
      have bbJ3 : ∀ j, j < 130 + k → (zU J 65 (61 + l) (zh (zh k))) 62 j = J 62 j ∧ (zU J 65 (61 + l) (zh (zh k))) 63 j = J 63 j := fun j hj => ⟨(zU_n (by decide)).trans (rfl), (zU_n (by decide)).trans (rfl)⟩
      have bJ3 : ∀ j, j < 130 + k → J3 62 j = J 62 j ∧ J3 63 j = J 63 j := fun j hj => ⟨(he3 j (by omega)).1.trans (bbJ3 j hj).1, (he3 j (by omega)).2.trans (bbJ3 j hj).2⟩
      have beJ3 : ∀ j, j < 61 + l → (zU J 65 (61 + l) (zh (zh k))) 65 j = J 65 j ∧ (zU J 65 (61 + l) (zh (zh k))) 66 j = J 66 j := fun j hj => ⟨(zU_x (by omega)).trans (rfl), (zU_n (by decide)).trans (rfl)⟩
      have eJ3 : ∀ j, j < 61 + l → J3 65 j = J 65 j ∧ J3 66 j = J 66 j := fun j hj => ⟨(hk3 65 j rfl).trans (beJ3 j hj).1, (hk3 66 j rfl).trans (beJ3 j hj).2⟩
      have zJ3 : J3 64 0 = J 64 0 := (hk3 64 0 rfl).trans ((zU_n (by decide)).trans (rfl))
      have hp := tp_lt ht (show ¬ c (pE c 48 0 0 a).2.1 = -1 by omega)
      have hcf4 : (zU (zU J3 50 16 (((pE c 48 0 0 a).2.1) + 1)) 65 (61 + l) (zh (zh (k + ((pE c 48 0 0 a).2.2.length : Int))))) 50 15 = f := by exact (zU_n (by decide)).trans ((zU_x (by decide)).trans ((hk3 50 15 rfl).trans ((zU_n (by decide)).trans (hf))))
      have hcc4 : ∀ i, 0 ≤ i → i < f → (zU (zU J3 50 16 (((pE c 48 0 0 a).2.1) + 1)) 65 (61 + l) (zh (zh (k + ((pE c 48 0 0 a).2.2.length : Int))))) 61 i = zb (c i) := fun i i1 i2 => (zU_n (by decide)).trans ((zU_n (by decide)).trans ((hk3 61 _ rfl).trans (hcc3 i i1 i2)))
      have gx4 := (pE_g ht 48 0 0 ((pE c 48 0 0 a).2.1 + 1) (by omega) (by omega)).1
      have gl4 : (pE c 48 0 0 ((pE c 48 0 0 a).2.1 + 1)).1 = true → (((pE c 48 0 0 a).2.1 + 1) < (pE c 48 0 0 ((pE c 48 0 0 a).2.1 + 1)).2.1 ∧ ((pE c 48 0 0 ((pE c 48 0 0 a).2.1 + 1)).2.2.length : Int) ≤ (pE c 48 0 0 ((pE c 48 0 0 a).2.1 + 1)).2.1 - ((pE c 48 0 0 a).2.1 + 1)) := fun t => (pE_gd ht (by omega) t).1
      refine z_callV (As := []) _ rfl rfl rfl (Nat.le_of_ble_eq_true rfl) (Nat.le_of_ble_eq_true rfl) ((rdRef (A := (zU (zU J3 50 16 (((pE c 48 0 0 a).2.1) + 1)) 65 (61 + l) (zh (zh (k + ((pE c 48 0 0 a).2.2.length : Int)))))) hR hcf4 hcc4 ht 48).2.2.2.2.2 0 ((pE c 48 0 0 a).2.1 + 1) (k + ((pE c 48 0 0 a).2.2.length : Int)) _ (zU (zU J3 50 16 (((pE c 48 0 0 a).2.1) + 1)) 65 (61 + l) (zh (zh (k + ((pE c 48 0 0 a).2.2.length : Int))))) (by omega) zK_r (by exact (zU_n (by decide)).trans (zU_e)) (by exact (zU_n (by decide)).trans ((zU_x (by decide)).trans (h17))) (by exact (zU_n (by decide)).trans ((zU_x (by decide)).trans (h18))) (by exact (zU_n (by decide)).trans ((zU_x (by decide)).trans (h19))) (by omega) (by omega) (by omega)) (fun r J4 M4 R4 hr => ?_)
      obtain ⟨⟨rfl, hk4, hh4, he4, eM, eR⟩, hr⟩ := hr
      obtain rfl : M = M4 := eM.symm
      obtain rfl : R = R4 := eR.symm
      rcases hr with ⟨ok4, h17, h18, h19, hl4⟩ | ⟨ok4, h17, h19⟩
      · show zW _ _ _ _ _ _ _ _ _ _
        have gm4 := gl4 ok4
        refine z_aload0 gi_177_66 ?_
        refine z_getR (r := 66) gi_177_67 gk_50 (hR _ rm_50_24 (by decide)) ?_
        refine z_iload1 gi_177_70 ?_
        refine z_aload0 gi_177_71 ?_
        refine z_getI (v := k + ((pE c 48 0 0 a).2.2.length : Int) + ((pE c 48 0 0 ((pE c 48 0 0 a).2.1 + 1)).2.2.length : Int)) gi_177_72 gk_50 (h19) ?_
        refine z_i2s (e := zh (k + ((pE c 48 0 0 a).2.2.length : Int) + ((pE c 48 0 0 ((pE c 48 0 0 a).2.1 + 1)).2.2.length : Int))) gi_177_75 rfl ?_
        refine z_hast (e := zh (zh (k + ((pE c 48 0 0 a).2.2.length : Int) + ((pE c 48 0 0 ((pE c 48 0 0 a).2.1 + 1)).2.2.length : Int)))) gi_177_76 gk_66 (by decide) (by omega) rfl ?_
        refine z_aload0 gi_177_77 ?_
        refine z_getR (r := 64) gi_177_78 gk_50 (hR _ rm_50_22 (by decide)) ?_
        refine z_pushJ gp_177_81 ?_
        refine z_dup2 gi_177_82 rfl rfl ?_
        refine z_iald (v := l) gi_177_83 gk_64 (by decide) (by decide) ((zU_n (by decide)).trans ((hk4 64 1 rfl).trans ((zU_n (by decide)).trans ((zU_n (by decide)).trans ((hk3 64 1 rfl).trans ((zU_n (by decide)).trans (hl))))))) ?_
        refine z_pushJ gp_177_84 ?_
        refine z_iadd (e := l + 1) gi_177_85 rfl ?_
        refine z_iast (e := l + 1) gi_177_86 gk_64 (by decide) (by decide) rfl ?_
        refine z_vret gi_177_87 gr_177 ?_
        have kJ4 : zK (kL [62, 63, 64, 65, 66] [(50, 16), (50, 17), (50, 18), (50, 19)]) J J4 := zK_t (zK_x (a := 65) (x := 61 + l) (v := zh (zh (k + ((pE c 48 0 0 a).2.2.length : Int)))) (zK_x (a := 50) (x := 16) (v := ((pE c 48 0 0 a).2.1) + 1) kJ3 rfl) rfl) (kEL hk4)
        have bbJ4 : ∀ j, j < 130 + k → (zU (zU J3 50 16 (((pE c 48 0 0 a).2.1) + 1)) 65 (61 + l) (zh (zh (k + ((pE c 48 0 0 a).2.2.length : Int))))) 62 j = J 62 j ∧ (zU (zU J3 50 16 (((pE c 48 0 0 a).2.1) + 1)) 65 (61 + l) (zh (zh (k + ((pE c 48 0 0 a).2.2.length : Int))))) 63 j = J 63 j := fun j hj => ⟨(zU_n (by decide)).trans ((zU_n (by decide)).trans ((bJ3 j hj).1)), (zU_n (by decide)).trans ((zU_n (by decide)).trans ((bJ3 j hj).2))⟩
        have bJ4 : ∀ j, j < 130 + k → J4 62 j = J 62 j ∧ J4 63 j = J 63 j := fun j hj => ⟨(he4 j (by omega)).1.trans (bbJ4 j hj).1, (he4 j (by omega)).2.trans (bbJ4 j hj).2⟩
        have beJ4 : ∀ j, j < 61 + l → (zU (zU J3 50 16 (((pE c 48 0 0 a).2.1) + 1)) 65 (61 + l) (zh (zh (k + ((pE c 48 0 0 a).2.2.length : Int))))) 65 j = J 65 j ∧ (zU (zU J3 50 16 (((pE c 48 0 0 a).2.1) + 1)) 65 (61 + l) (zh (zh (k + ((pE c 48 0 0 a).2.2.length : Int))))) 66 j = J 66 j := fun j hj => ⟨(zU_x (by omega)).trans ((zU_n (by decide)).trans ((eJ3 j hj).1)), (zU_n (by decide)).trans ((zU_n (by decide)).trans ((eJ3 j hj).2))⟩
        have eJ4 : ∀ j, j < 61 + l → J4 65 j = J 65 j ∧ J4 66 j = J 66 j := fun j hj => ⟨(hk4 65 j rfl).trans (beJ4 j hj).1, (hk4 66 j rfl).trans (beJ4 j hj).2⟩
        have zJ4 : J4 64 0 = J 64 0 := (hk4 64 0 rfl).trans ((zU_n (by decide)).trans ((zU_n (by decide)).trans (zJ3)))
        have hl34 : lay J4 62 63 (130 + k) ((pE c 48 0 0 a).2.2.map enc) := lay_keep _ _ (130 + k + ((pE c 48 0 0 a).2.2.length : Int)) hl3 (by rw [List.length_map]; omega) (fun j hj => ⟨(he4 j (by omega)).1.trans ((zU_n (by decide)).trans (zU_n (by decide))), (he4 j (by omega)).2.trans ((zU_n (by decide)).trans (zU_n (by decide)))⟩)
        unfold rln
        rw [pLn_t ok3 (show c (pE c 48 0 0 a).2.1 = 63 by omega), ok4]
        refine ⟨⟨rfl, (zK_x (a := 64) (x := 1) (v := l + 1) (zK_x (a := 66) (x := 61 + l) (v := zh (zh (k + ((pE c 48 0 0 a).2.2.length : Int) + ((pE c 48 0 0 ((pE c 48 0 0 a).2.1 + 1)).2.2.length : Int)))) kJ4 rfl) rfl), (zU_n (by decide)).trans ((zU_n (by decide)).trans (hh4)), fun j hj => ⟨(zU_n (by decide)).trans ((zU_n (by decide)).trans ((bJ4 j hj).1)), (zU_n (by decide)).trans ((zU_n (by decide)).trans ((bJ4 j hj).2))⟩, fun j hj => ⟨(zU_n (by decide)).trans ((zU_n (by decide)).trans ((eJ4 j hj).1)), (zU_n (by decide)).trans ((zU_x (by omega)).trans ((eJ4 j hj).2))⟩, (zU_x (by decide)).trans ((zU_n (by decide)).trans (zJ4)), zU_e, rfl, rfl⟩, Or.inl ⟨rfl, (zU_n (by decide)).trans ((zU_n (by decide)).trans (h17)), (zU_n (by decide)).trans ((zU_n (by decide)).trans (h18)), (zU_n (by decide)).trans ((zU_n (by decide)).trans (h19)), ⟨?_, ?_, ?_⟩, trivial⟩⟩
        · exact ((zU_n (by decide)).trans ((zU_n (by decide)).trans (rfl))).trans ((hk4 65 _ rfl).trans (zU_e.trans (by rw [zh_2 (by omega)])))
        · exact ((zU_n (by decide)).trans (zU_e)).trans (by rw [zh_2 (by omega)])
        · show lay _ 62 63 (130 + k) (((pE c 48 0 0 a).2.2 ++ (pE c 48 0 0 ((pE c 48 0 0 a).2.1 + 1)).2.2).map enc)
          rw [List.map_append]
          refine lay_app _ _ _ (lay_keep _ _ (130 + k + ((pE c 48 0 0 a).2.2.length : Int)) hl34 (by rw [List.length_map]; omega) (fun j _ => ⟨(zU_n (by decide)).trans (zU_n (by decide)), (zU_n (by decide)).trans (zU_n (by decide))⟩)) ?_
          rw [List.length_map, show 130 + k + ((pE c 48 0 0 a).2.2.length : Int) = 130 + (k + ((pE c 48 0 0 a).2.2.length : Int)) by omega]
          exact lay_keep _ _ (130 + (k + ((pE c 48 0 0 a).2.2.length : Int)) + ((pE c 48 0 0 ((pE c 48 0 0 a).2.1 + 1)).2.2.length : Int)) hl4 (by rw [List.length_map]; omega) (fun j _ => ⟨(zU_n (by decide)).trans (zU_n (by decide)), (zU_n (by decide)).trans (zU_n (by decide))⟩)
      · show zW _ _ _ _ _ _ _ _ _ _
        refine z_aload0 gi_177_66 ?_
        refine z_getR (r := 66) gi_177_67 gk_50 (hR _ rm_50_24 (by decide)) ?_
        refine z_iload1 gi_177_70 ?_
        refine z_aload0 gi_177_71 ?_
        refine z_getI (v := J4 50 19) gi_177_72 gk_50 (rfl) ?_
        refine z_i2s (e := zh (J4 50 19)) gi_177_75 rfl ?_
        refine z_hast (e := zh (zh (J4 50 19))) gi_177_76 gk_66 (by decide) (by omega) rfl ?_
        refine z_aload0 gi_177_77 ?_
        refine z_getR (r := 64) gi_177_78 gk_50 (hR _ rm_50_22 (by decide)) ?_
        refine z_pushJ gp_177_81 ?_
        refine z_dup2 gi_177_82 rfl rfl ?_
        refine z_iald (v := l) gi_177_83 gk_64 (by decide) (by decide) ((zU_n (by decide)).trans ((hk4 64 1 rfl).trans ((zU_n (by decide)).trans ((zU_n (by decide)).trans ((hk3 64 1 rfl).trans ((zU_n (by decide)).trans (hl))))))) ?_
        refine z_pushJ gp_177_84 ?_
        refine z_iadd (e := l + 1) gi_177_85 rfl ?_
        refine z_iast (e := l + 1) gi_177_86 gk_64 (by decide) (by decide) rfl ?_
        refine z_vret gi_177_87 gr_177 ?_
        have kJ4 : zK (kL [62, 63, 64, 65, 66] [(50, 16), (50, 17), (50, 18), (50, 19)]) J J4 := zK_t (zK_x (a := 65) (x := 61 + l) (v := zh (zh (k + ((pE c 48 0 0 a).2.2.length : Int)))) (zK_x (a := 50) (x := 16) (v := ((pE c 48 0 0 a).2.1) + 1) kJ3 rfl) rfl) (kEL hk4)
        have bbJ4 : ∀ j, j < 130 + k → (zU (zU J3 50 16 (((pE c 48 0 0 a).2.1) + 1)) 65 (61 + l) (zh (zh (k + ((pE c 48 0 0 a).2.2.length : Int))))) 62 j = J 62 j ∧ (zU (zU J3 50 16 (((pE c 48 0 0 a).2.1) + 1)) 65 (61 + l) (zh (zh (k + ((pE c 48 0 0 a).2.2.length : Int))))) 63 j = J 63 j := fun j hj => ⟨(zU_n (by decide)).trans ((zU_n (by decide)).trans ((bJ3 j hj).1)), (zU_n (by decide)).trans ((zU_n (by decide)).trans ((bJ3 j hj).2))⟩
        have bJ4 : ∀ j, j < 130 + k → J4 62 j = J 62 j ∧ J4 63 j = J 63 j := fun j hj => ⟨(he4 j (by omega)).1.trans (bbJ4 j hj).1, (he4 j (by omega)).2.trans (bbJ4 j hj).2⟩
        have beJ4 : ∀ j, j < 61 + l → (zU (zU J3 50 16 (((pE c 48 0 0 a).2.1) + 1)) 65 (61 + l) (zh (zh (k + ((pE c 48 0 0 a).2.2.length : Int))))) 65 j = J 65 j ∧ (zU (zU J3 50 16 (((pE c 48 0 0 a).2.1) + 1)) 65 (61 + l) (zh (zh (k + ((pE c 48 0 0 a).2.2.length : Int))))) 66 j = J 66 j := fun j hj => ⟨(zU_x (by omega)).trans ((zU_n (by decide)).trans ((eJ3 j hj).1)), (zU_n (by decide)).trans ((zU_n (by decide)).trans ((eJ3 j hj).2))⟩
        have eJ4 : ∀ j, j < 61 + l → J4 65 j = J 65 j ∧ J4 66 j = J 66 j := fun j hj => ⟨(hk4 65 j rfl).trans (beJ4 j hj).1, (hk4 66 j rfl).trans (beJ4 j hj).2⟩
        have zJ4 : J4 64 0 = J 64 0 := (hk4 64 0 rfl).trans ((zU_n (by decide)).trans ((zU_n (by decide)).trans (zJ3)))
        unfold rln
        rw [pLn_t ok3 (show c (pE c 48 0 0 a).2.1 = 63 by omega), ok4]
        exact ⟨⟨rfl, (zK_x (a := 64) (x := 1) (v := l + 1) (zK_x (a := 66) (x := 61 + l) (v := zh (zh (J4 50 19))) kJ4 rfl) rfl), (zU_n (by decide)).trans ((zU_n (by decide)).trans (hh4)), fun j hj => ⟨(zU_n (by decide)).trans ((zU_n (by decide)).trans ((bJ4 j hj).1)), (zU_n (by decide)).trans ((zU_n (by decide)).trans ((bJ4 j hj).2))⟩, fun j hj => ⟨(zU_n (by decide)).trans ((zU_n (by decide)).trans ((eJ4 j hj).1)), (zU_n (by decide)).trans ((zU_x (by omega)).trans ((eJ4 j hj).2))⟩, (zU_x (by decide)).trans ((zU_n (by decide)).trans (zJ4)), zU_e, rfl, rfl⟩, Or.inr ⟨rfl, (zU_n (by decide)).trans ((zU_n (by decide)).trans (h17))⟩⟩
  · show zW _ _ _ _ _ _ _ _ _ _
    refine z_aload0 gi_177_25 ?_
    refine z_getI (v := (pE c 48 0 0 a).2.1) gi_177_26 gk_50 (h17) ?_
    refine z_if_geT gi_177_29 (by omega) (by omega) ?_
    refine z_aload0 gi_177_66 ?_
    refine z_getR (r := 66) gi_177_67 gk_50 (hR _ rm_50_24 (by decide)) ?_
    refine z_iload1 gi_177_70 ?_
    refine z_aload0 gi_177_71 ?_
    refine z_getI (v := J3 50 19) gi_177_72 gk_50 (rfl) ?_
    refine z_i2s (e := zh (J3 50 19)) gi_177_75 rfl ?_
    refine z_hast (e := zh (zh (J3 50 19))) gi_177_76 gk_66 (by decide) (by omega) rfl ?_
    refine z_aload0 gi_177_77 ?_
    refine z_getR (r := 64) gi_177_78 gk_50 (hR _ rm_50_22 (by decide)) ?_
    refine z_pushJ gp_177_81 ?_
    refine z_dup2 gi_177_82 rfl rfl ?_
    refine z_iald (v := l) gi_177_83 gk_64 (by decide) (by decide) ((zU_n (by decide)).trans ((hk3 64 1 rfl).trans ((zU_n (by decide)).trans (hl)))) ?_
    refine z_pushJ gp_177_84 ?_
    refine z_iadd (e := l + 1) gi_177_85 rfl ?_
    refine z_iast (e := l + 1) gi_177_86 gk_64 (by decide) (by decide) rfl ?_
    refine z_vret gi_177_87 gr_177 ?_
    have kJ3 : zK (kL [62, 63, 64, 65, 66] [(50, 16), (50, 17), (50, 18), (50, 19)]) J J3 := zK_t (zK_x (a := 65) (x := 61 + l) (v := zh (zh k)) zK_r rfl) (kEL hk3)
    have bbJ3 : ∀ j, j < 130 + k → (zU J 65 (61 + l) (zh (zh k))) 62 j = J 62 j ∧ (zU J 65 (61 + l) (zh (zh k))) 63 j = J 63 j := fun j hj => ⟨(zU_n (by decide)).trans (rfl), (zU_n (by decide)).trans (rfl)⟩
    have bJ3 : ∀ j, j < 130 + k → J3 62 j = J 62 j ∧ J3 63 j = J 63 j := fun j hj => ⟨(he3 j (by omega)).1.trans (bbJ3 j hj).1, (he3 j (by omega)).2.trans (bbJ3 j hj).2⟩
    have beJ3 : ∀ j, j < 61 + l → (zU J 65 (61 + l) (zh (zh k))) 65 j = J 65 j ∧ (zU J 65 (61 + l) (zh (zh k))) 66 j = J 66 j := fun j hj => ⟨(zU_x (by omega)).trans (rfl), (zU_n (by decide)).trans (rfl)⟩
    have eJ3 : ∀ j, j < 61 + l → J3 65 j = J 65 j ∧ J3 66 j = J 66 j := fun j hj => ⟨(hk3 65 j rfl).trans (beJ3 j hj).1, (hk3 66 j rfl).trans (beJ3 j hj).2⟩
    have zJ3 : J3 64 0 = J 64 0 := (hk3 64 0 rfl).trans ((zU_n (by decide)).trans (rfl))
    unfold rln
    rw [pLn_f ok3]
    exact ⟨⟨rfl, (zK_x (a := 64) (x := 1) (v := l + 1) (zK_x (a := 66) (x := 61 + l) (v := zh (zh (J3 50 19))) kJ3 rfl) rfl), (zU_n (by decide)).trans ((zU_n (by decide)).trans (hh3)), fun j hj => ⟨(zU_n (by decide)).trans ((zU_n (by decide)).trans ((bJ3 j hj).1)), (zU_n (by decide)).trans ((zU_n (by decide)).trans ((bJ3 j hj).2))⟩, fun j hj => ⟨(zU_n (by decide)).trans ((zU_n (by decide)).trans ((eJ3 j hj).1)), (zU_n (by decide)).trans ((zU_x (by omega)).trans ((eJ3 j hj).2))⟩, (zU_x (by decide)).trans ((zU_n (by decide)).trans (zJ3)), zU_e, rfl, rfl⟩, Or.inr ⟨rfl, (zU_n (by decide)).trans ((zU_n (by decide)).trans (h17))⟩⟩
