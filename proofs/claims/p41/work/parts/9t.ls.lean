abbrev rok (J : zA) (t : List Int) : Prop := stk J 68 t ∧ stR t
theorem rk37 {s : Int} (h : 0 ≤ rk s) : 37 ≤ s ∧ s ≤ 127 := by
  unfold rk at h
  (repeat' split at h) <;> omega
theorem rok_set {J : zA} {t : List Int} {v L : Int} (ht : stk J 68 t) (hr : stR t) (hL : (t.length : Int) = L) (hv : -2147483648 ≤ v ∧ v < 2147483648) : rok (zU J 68 L v) (v :: t) := by
  subst hL
  refine ⟨⟨zU_e, stk_keep t ht (fun j j0 hj => zU_x (by omega))⟩, fun w hw => ?_⟩
  rcases List.mem_cons.mp hw with k | k
  · rw [k]; exact hv
  · exact hr w k
theorem wr_48 {X : Nat × (Nat → Int32)} {d : Nat} {M : zA} {R : zR} {P : zP} (hR : zRoR R) {B : zA} {e : en6} (hB : B 67 0 = e.1 ∧ B 67 1 = e.2.1 ∧ B 67 2 = e.2.2.1 ∧ B 67 3 = e.2.2.2.1 ∧ B 67 4 = e.2.2.2.2.1 ∧ B 67 5 = e.2.2.2.2.2) (he : e6r e) {t : List Int} {i fi en : Int} {s6 : Option Value} {J : zA} {v : Int} (hJ : zK (kL [68] []) B J) (ht : stk J 68 t) (hrt : stR t) (hl : (t.length : Int) ≤ 120) (hv : 0 ≤ v ∧ v ≤ 9999) (hx : B 62 i = 1 ∧ B 63 i = v) (hi : 0 ≤ i ∧ i < en ∧ en ≤ 130) (KK : ∀ (J2 : zA) (s6 : Option Value), zK (kL [68] []) B J2 → rok J2 (v :: t) → zW X (d + 2) 180 12 [some (.ref 50), some (zi 0), some (zi fi), some (zi en), some (zi (((v :: t).length : Nat) : Int)), some (zi (i + 1)), s6] [] J2 M R P) : zW X (d + 2) 180 12 [some (.ref 50), some (zi 0), some (zi fi), some (zi en), some (zi (t.length : Int)), some (zi i), s6] [] J M R P := by
  show zW _ _ _ _ [some (.ref 50), some (zi 0), some (zi fi), some (zi en), some (zi (t.length : Int)), some (zi i), s6] _ _ _ _ _
  refine z_iload5 gi_180_12 ?_
  refine z_pushJ gp_180_14 ?_
  refine z_iload1 gi_180_17 ?_
  refine z_imul (e := 0) gi_180_18 rfl ?_
  refine z_iload3 gi_180_19 ?_
  refine z_iadd (e := 0 + en) gi_180_20 rfl ?_
  refine z_icmp_geF gi_180_21 (by omega) (by omega) (by omega) ?_
  refine z_aload0 gi_180_24 ?_
  refine z_getR (r := 62) gi_180_25 gk_50 (hR _ rm_50_20 (by decide)) ?_
  refine z_iload5 gi_180_28 ?_
  refine z_bald (v := 1) gi_180_30 gk_62 (by decide) (by omega) ((hJ 62 _ rfl).trans hx.1) ?_
  refine z_istore (ls1 := [some (.ref 50), some (zi 0), some (zi fi), some (zi en), some (zi (t.length : Int)), some (zi i), some (zi 1)]) gi_180_31 rfl ?_
  refine z_iload6 gi_180_33 ?_
  refine z_pushJ gp_180_35 ?_
  refine z_icmp_eqT gi_180_36 zr_1 zr_1 (by decide) ?_
  refine z_aload0 gi_180_45 ?_
  refine z_getR (r := 68) gi_180_46 gk_50 (hR _ rm_50_26 (by decide)) ?_
  refine z_iload4 gi_180_49 ?_
  refine z_iload6 gi_180_51 ?_
  refine z_pushJ gp_180_53 ?_
  refine z_icmp_neF gi_180_54 zr_1 zr_1 (by decide) ?_
  refine z_aload0 rfl ?_
  refine z_getR (r := 63) rfl gk_50 (hR _ rm_50_21 (by decide)) ?_
  refine z_iload5 rfl ?_
  refine z_iald (v := v) rfl gk_63 (by decide) (by omega) ((hJ 63 _ rfl).trans hx.2) ?_
  refine z_goto rfl ?_
  refine z_iast (e := v) gi_180_79 gk_68 (by decide) (by omega) rfl ?_
  refine z_iinc (c := 1) (e := (t.length : Int) + 1) (ls1 := [some (.ref 50), some (zi 0), some (zi fi), some (zi en), some (zi ((t.length : Int) + 1)), some (zi i), some (zi 1)]) gi_180_80 rfl rfl rfl rfl ?_
  refine z_goto gi_180_83 ?_
  refine z_iinc (c := 1) (e := i + 1) (ls1 := [some (.ref 50), some (zi 0), some (zi fi), some (zi en), some (zi ((t.length : Int) + 1)), some (zi (i + 1)), some (zi 1)]) gi_180_182 rfl rfl rfl rfl ?_
  refine z_goto gi_180_185 ?_
  show zW _ _ _ _ [some (.ref 50), some (zi 0), some (zi fi), some (zi en), some (zi ((t.length : Int) + 1)), some (zi (i + 1)), some (zi 1)] [] _ _ _ _
  have h := KK (zU J 68 (t.length : Int) v) (some (zi 1)) (zK_x (a := 68) (x := (t.length : Int)) (v := v) hJ rfl) (rok_set ht hrt (by omega) (by omega))
  rw [List.length_cons] at h
  rw [show ((t.length + 1 : Nat) : Int) = (t.length : Int) + 1 by omega] at h
  exact h
theorem wr_104 {X : Nat × (Nat → Int32)} {d : Nat} {M : zA} {R : zR} {P : zP} (hR : zRoR R) {B : zA} {e : en6} (hB : B 67 0 = e.1 ∧ B 67 1 = e.2.1 ∧ B 67 2 = e.2.2.1 ∧ B 67 3 = e.2.2.2.1 ∧ B 67 4 = e.2.2.2.2.1 ∧ B 67 5 = e.2.2.2.2.2) (he : e6r e) {t : List Int} {i fi en : Int} {s6 : Option Value} {J : zA}  (hJ : zK (kL [68] []) B J) (ht : stk J 68 t) (hrt : stR t) (hl : (t.length : Int) ≤ 120) (hx : B 62 i = 2 ∧ B 63 i = 0) (hi : 0 ≤ i ∧ i < en ∧ en ≤ 130) (KK : ∀ (J2 : zA) (s6 : Option Value), zK (kL [68] []) B J2 → rok J2 (nv e 104 :: t) → zW X (d + 2) 180 12 [some (.ref 50), some (zi 0), some (zi fi), some (zi en), some (zi (((nv e 104 :: t).length : Nat) : Int)), some (zi (i + 1)), s6] [] J2 M R P) : zW X (d + 2) 180 12 [some (.ref 50), some (zi 0), some (zi fi), some (zi en), some (zi (t.length : Int)), some (zi i), s6] [] J M R P := by
  show zW _ _ _ _ [some (.ref 50), some (zi 0), some (zi fi), some (zi en), some (zi (t.length : Int)), some (zi i), s6] _ _ _ _ _
  refine z_iload5 gi_180_12 ?_
  refine z_pushJ gp_180_14 ?_
  refine z_iload1 gi_180_17 ?_
  refine z_imul (e := 0) gi_180_18 rfl ?_
  refine z_iload3 gi_180_19 ?_
  refine z_iadd (e := 0 + en) gi_180_20 rfl ?_
  refine z_icmp_geF gi_180_21 (by omega) (by omega) (by omega) ?_
  refine z_aload0 gi_180_24 ?_
  refine z_getR (r := 62) gi_180_25 gk_50 (hR _ rm_50_20 (by decide)) ?_
  refine z_iload5 gi_180_28 ?_
  refine z_bald (v := 2) gi_180_30 gk_62 (by decide) (by omega) ((hJ 62 _ rfl).trans hx.1) ?_
  refine z_istore (ls1 := [some (.ref 50), some (zi 0), some (zi fi), some (zi en), some (zi (t.length : Int)), some (zi i), some (zi 2)]) gi_180_31 rfl ?_
  refine z_iload6 gi_180_33 ?_
  refine z_pushJ gp_180_35 ?_
  refine z_icmp_eqF gi_180_36 zr_2 zr_1 (by decide) ?_
  refine z_iload6 gi_180_39 ?_
  refine z_pushJ gp_180_41 ?_
  refine z_icmp_neF gi_180_42 zr_2 zr_2 (by decide) ?_
  refine z_aload0 gi_180_45 ?_
  refine z_getR (r := 68) gi_180_46 gk_50 (hR _ rm_50_26 (by decide)) ?_
  refine z_iload4 gi_180_49 ?_
  refine z_iload6 gi_180_51 ?_
  refine z_pushJ gp_180_53 ?_
  refine z_icmp_neT gi_180_54 zr_2 zr_1 (by decide) ?_
  refine z_aload0 gi_180_67 ?_
  refine z_getR (r := 67) gi_180_68 gk_50 (hR _ rm_50_25 (by decide)) ?_
  refine z_aload0 gi_180_71 ?_
  refine z_getR (r := 63) gi_180_72 gk_50 (hR _ rm_50_21 (by decide)) ?_
  refine z_iload5 gi_180_75 ?_
  refine z_iald (v := 0) gi_180_77 gk_63 (by decide) (by omega) ((hJ 63 _ rfl).trans hx.2) ?_
  refine z_iald (v := nv e 104) gi_180_78 gk_67 (by decide) (by decide) ((hJ 67 0 rfl).trans hB.1) ?_
  refine z_iast (e := nv e 104) gi_180_79 gk_68 (by decide) (by omega) rfl ?_
  refine z_iinc (c := 1) (e := (t.length : Int) + 1) (ls1 := [some (.ref 50), some (zi 0), some (zi fi), some (zi en), some (zi ((t.length : Int) + 1)), some (zi i), some (zi 2)]) gi_180_80 rfl rfl rfl rfl ?_
  refine z_goto gi_180_83 ?_
  refine z_iinc (c := 1) (e := i + 1) (ls1 := [some (.ref 50), some (zi 0), some (zi fi), some (zi en), some (zi ((t.length : Int) + 1)), some (zi (i + 1)), some (zi 2)]) gi_180_182 rfl rfl rfl rfl ?_
  refine z_goto gi_180_185 ?_
  show zW _ _ _ _ [some (.ref 50), some (zi 0), some (zi fi), some (zi en), some (zi ((t.length : Int) + 1)), some (zi (i + 1)), some (zi 2)] [] _ _ _ _
  have h := KK (zU J 68 (t.length : Int) (nv e 104)) (some (zi 2)) (zK_x (a := 68) (x := (t.length : Int)) (v := nv e 104) hJ rfl) (rok_set ht hrt (by omega) (nv_r he 104))
  rw [List.length_cons] at h
  rw [show ((t.length + 1 : Nat) : Int) = (t.length : Int) + 1 by omega] at h
  exact h
theorem wr_100 {X : Nat × (Nat → Int32)} {d : Nat} {M : zA} {R : zR} {P : zP} (hR : zRoR R) {B : zA} {e : en6} (hB : B 67 0 = e.1 ∧ B 67 1 = e.2.1 ∧ B 67 2 = e.2.2.1 ∧ B 67 3 = e.2.2.2.1 ∧ B 67 4 = e.2.2.2.2.1 ∧ B 67 5 = e.2.2.2.2.2) (he : e6r e) {t : List Int} {i fi en : Int} {s6 : Option Value} {J : zA}  (hJ : zK (kL [68] []) B J) (ht : stk J 68 t) (hrt : stR t) (hl : (t.length : Int) ≤ 120) (hx : B 62 i = 2 ∧ B 63 i = 1) (hi : 0 ≤ i ∧ i < en ∧ en ≤ 130) (KK : ∀ (J2 : zA) (s6 : Option Value), zK (kL [68] []) B J2 → rok J2 (nv e 100 :: t) → zW X (d + 2) 180 12 [some (.ref 50), some (zi 0), some (zi fi), some (zi en), some (zi (((nv e 100 :: t).length : Nat) : Int)), some (zi (i + 1)), s6] [] J2 M R P) : zW X (d + 2) 180 12 [some (.ref 50), some (zi 0), some (zi fi), some (zi en), some (zi (t.length : Int)), some (zi i), s6] [] J M R P := by
  show zW _ _ _ _ [some (.ref 50), some (zi 0), some (zi fi), some (zi en), some (zi (t.length : Int)), some (zi i), s6] _ _ _ _ _
  refine z_iload5 gi_180_12 ?_
  refine z_pushJ gp_180_14 ?_
  refine z_iload1 gi_180_17 ?_
  refine z_imul (e := 0) gi_180_18 rfl ?_
  refine z_iload3 gi_180_19 ?_
  refine z_iadd (e := 0 + en) gi_180_20 rfl ?_
  refine z_icmp_geF gi_180_21 (by omega) (by omega) (by omega) ?_
  refine z_aload0 gi_180_24 ?_
  refine z_getR (r := 62) gi_180_25 gk_50 (hR _ rm_50_20 (by decide)) ?_
  refine z_iload5 gi_180_28 ?_
  refine z_bald (v := 2) gi_180_30 gk_62 (by decide) (by omega) ((hJ 62 _ rfl).trans hx.1) ?_
  refine z_istore (ls1 := [some (.ref 50), some (zi 0), some (zi fi), some (zi en), some (zi (t.length : Int)), some (zi i), some (zi 2)]) gi_180_31 rfl ?_
  refine z_iload6 gi_180_33 ?_
  refine z_pushJ gp_180_35 ?_
  refine z_icmp_eqF gi_180_36 zr_2 zr_1 (by decide) ?_
  refine z_iload6 gi_180_39 ?_
  refine z_pushJ gp_180_41 ?_
  refine z_icmp_neF gi_180_42 zr_2 zr_2 (by decide) ?_
  refine z_aload0 gi_180_45 ?_
  refine z_getR (r := 68) gi_180_46 gk_50 (hR _ rm_50_26 (by decide)) ?_
  refine z_iload4 gi_180_49 ?_
  refine z_iload6 gi_180_51 ?_
  refine z_pushJ gp_180_53 ?_
  refine z_icmp_neT gi_180_54 zr_2 zr_1 (by decide) ?_
  refine z_aload0 gi_180_67 ?_
  refine z_getR (r := 67) gi_180_68 gk_50 (hR _ rm_50_25 (by decide)) ?_
  refine z_aload0 gi_180_71 ?_
  refine z_getR (r := 63) gi_180_72 gk_50 (hR _ rm_50_21 (by decide)) ?_
  refine z_iload5 gi_180_75 ?_
  refine z_iald (v := 1) gi_180_77 gk_63 (by decide) (by omega) ((hJ 63 _ rfl).trans hx.2) ?_
  refine z_iald (v := nv e 100) gi_180_78 gk_67 (by decide) (by decide) ((hJ 67 1 rfl).trans hB.2.1) ?_
  refine z_iast (e := nv e 100) gi_180_79 gk_68 (by decide) (by omega) rfl ?_
  refine z_iinc (c := 1) (e := (t.length : Int) + 1) (ls1 := [some (.ref 50), some (zi 0), some (zi fi), some (zi en), some (zi ((t.length : Int) + 1)), some (zi i), some (zi 2)]) gi_180_80 rfl rfl rfl rfl ?_
  refine z_goto gi_180_83 ?_
  refine z_iinc (c := 1) (e := i + 1) (ls1 := [some (.ref 50), some (zi 0), some (zi fi), some (zi en), some (zi ((t.length : Int) + 1)), some (zi (i + 1)), some (zi 2)]) gi_180_182 rfl rfl rfl rfl ?_
  refine z_goto gi_180_185 ?_
  show zW _ _ _ _ [some (.ref 50), some (zi 0), some (zi fi), some (zi en), some (zi ((t.length : Int) + 1)), some (zi (i + 1)), some (zi 2)] [] _ _ _ _
  have h := KK (zU J 68 (t.length : Int) (nv e 100)) (some (zi 2)) (zK_x (a := 68) (x := (t.length : Int)) (v := nv e 100) hJ rfl) (rok_set ht hrt (by omega) (nv_r he 100))
  rw [List.length_cons] at h
  rw [show ((t.length + 1 : Nat) : Int) = (t.length : Int) + 1 by omega] at h
  exact h
theorem wr_107 {X : Nat × (Nat → Int32)} {d : Nat} {M : zA} {R : zR} {P : zP} (hR : zRoR R) {B : zA} {e : en6} (hB : B 67 0 = e.1 ∧ B 67 1 = e.2.1 ∧ B 67 2 = e.2.2.1 ∧ B 67 3 = e.2.2.2.1 ∧ B 67 4 = e.2.2.2.2.1 ∧ B 67 5 = e.2.2.2.2.2) (he : e6r e) {t : List Int} {i fi en : Int} {s6 : Option Value} {J : zA}  (hJ : zK (kL [68] []) B J) (ht : stk J 68 t) (hrt : stR t) (hl : (t.length : Int) ≤ 120) (hx : B 62 i = 2 ∧ B 63 i = 2) (hi : 0 ≤ i ∧ i < en ∧ en ≤ 130) (KK : ∀ (J2 : zA) (s6 : Option Value), zK (kL [68] []) B J2 → rok J2 (nv e 107 :: t) → zW X (d + 2) 180 12 [some (.ref 50), some (zi 0), some (zi fi), some (zi en), some (zi (((nv e 107 :: t).length : Nat) : Int)), some (zi (i + 1)), s6] [] J2 M R P) : zW X (d + 2) 180 12 [some (.ref 50), some (zi 0), some (zi fi), some (zi en), some (zi (t.length : Int)), some (zi i), s6] [] J M R P := by
  show zW _ _ _ _ [some (.ref 50), some (zi 0), some (zi fi), some (zi en), some (zi (t.length : Int)), some (zi i), s6] _ _ _ _ _
  refine z_iload5 gi_180_12 ?_
  refine z_pushJ gp_180_14 ?_
  refine z_iload1 gi_180_17 ?_
  refine z_imul (e := 0) gi_180_18 rfl ?_
  refine z_iload3 gi_180_19 ?_
  refine z_iadd (e := 0 + en) gi_180_20 rfl ?_
  refine z_icmp_geF gi_180_21 (by omega) (by omega) (by omega) ?_
  refine z_aload0 gi_180_24 ?_
  refine z_getR (r := 62) gi_180_25 gk_50 (hR _ rm_50_20 (by decide)) ?_
  refine z_iload5 gi_180_28 ?_
  refine z_bald (v := 2) gi_180_30 gk_62 (by decide) (by omega) ((hJ 62 _ rfl).trans hx.1) ?_
  refine z_istore (ls1 := [some (.ref 50), some (zi 0), some (zi fi), some (zi en), some (zi (t.length : Int)), some (zi i), some (zi 2)]) gi_180_31 rfl ?_
  refine z_iload6 gi_180_33 ?_
  refine z_pushJ gp_180_35 ?_
  refine z_icmp_eqF gi_180_36 zr_2 zr_1 (by decide) ?_
  refine z_iload6 gi_180_39 ?_
  refine z_pushJ gp_180_41 ?_
  refine z_icmp_neF gi_180_42 zr_2 zr_2 (by decide) ?_
  refine z_aload0 gi_180_45 ?_
  refine z_getR (r := 68) gi_180_46 gk_50 (hR _ rm_50_26 (by decide)) ?_
  refine z_iload4 gi_180_49 ?_
  refine z_iload6 gi_180_51 ?_
  refine z_pushJ gp_180_53 ?_
  refine z_icmp_neT gi_180_54 zr_2 zr_1 (by decide) ?_
  refine z_aload0 gi_180_67 ?_
  refine z_getR (r := 67) gi_180_68 gk_50 (hR _ rm_50_25 (by decide)) ?_
  refine z_aload0 gi_180_71 ?_
  refine z_getR (r := 63) gi_180_72 gk_50 (hR _ rm_50_21 (by decide)) ?_
  refine z_iload5 gi_180_75 ?_
  refine z_iald (v := 2) gi_180_77 gk_63 (by decide) (by omega) ((hJ 63 _ rfl).trans hx.2) ?_
  refine z_iald (v := nv e 107) gi_180_78 gk_67 (by decide) (by decide) ((hJ 67 2 rfl).trans hB.2.2.1) ?_
  refine z_iast (e := nv e 107) gi_180_79 gk_68 (by decide) (by omega) rfl ?_
  refine z_iinc (c := 1) (e := (t.length : Int) + 1) (ls1 := [some (.ref 50), some (zi 0), some (zi fi), some (zi en), some (zi ((t.length : Int) + 1)), some (zi i), some (zi 2)]) gi_180_80 rfl rfl rfl rfl ?_
  refine z_goto gi_180_83 ?_
  refine z_iinc (c := 1) (e := i + 1) (ls1 := [some (.ref 50), some (zi 0), some (zi fi), some (zi en), some (zi ((t.length : Int) + 1)), some (zi (i + 1)), some (zi 2)]) gi_180_182 rfl rfl rfl rfl ?_
  refine z_goto gi_180_185 ?_
  show zW _ _ _ _ [some (.ref 50), some (zi 0), some (zi fi), some (zi en), some (zi ((t.length : Int) + 1)), some (zi (i + 1)), some (zi 2)] [] _ _ _ _
  have h := KK (zU J 68 (t.length : Int) (nv e 107)) (some (zi 2)) (zK_x (a := 68) (x := (t.length : Int)) (v := nv e 107) hJ rfl) (rok_set ht hrt (by omega) (nv_r he 107))
  rw [List.length_cons] at h
  rw [show ((t.length + 1 : Nat) : Int) = (t.length : Int) + 1 by omega] at h
  exact h
theorem wr_109 {X : Nat × (Nat → Int32)} {d : Nat} {M : zA} {R : zR} {P : zP} (hR : zRoR R) {B : zA} {e : en6} (hB : B 67 0 = e.1 ∧ B 67 1 = e.2.1 ∧ B 67 2 = e.2.2.1 ∧ B 67 3 = e.2.2.2.1 ∧ B 67 4 = e.2.2.2.2.1 ∧ B 67 5 = e.2.2.2.2.2) (he : e6r e) {t : List Int} {i fi en : Int} {s6 : Option Value} {J : zA}  (hJ : zK (kL [68] []) B J) (ht : stk J 68 t) (hrt : stR t) (hl : (t.length : Int) ≤ 120) (hx : B 62 i = 2 ∧ B 63 i = 3) (hi : 0 ≤ i ∧ i < en ∧ en ≤ 130) (KK : ∀ (J2 : zA) (s6 : Option Value), zK (kL [68] []) B J2 → rok J2 (nv e 109 :: t) → zW X (d + 2) 180 12 [some (.ref 50), some (zi 0), some (zi fi), some (zi en), some (zi (((nv e 109 :: t).length : Nat) : Int)), some (zi (i + 1)), s6] [] J2 M R P) : zW X (d + 2) 180 12 [some (.ref 50), some (zi 0), some (zi fi), some (zi en), some (zi (t.length : Int)), some (zi i), s6] [] J M R P := by
  show zW _ _ _ _ [some (.ref 50), some (zi 0), some (zi fi), some (zi en), some (zi (t.length : Int)), some (zi i), s6] _ _ _ _ _
  refine z_iload5 gi_180_12 ?_
  refine z_pushJ gp_180_14 ?_
  refine z_iload1 gi_180_17 ?_
  refine z_imul (e := 0) gi_180_18 rfl ?_
  refine z_iload3 gi_180_19 ?_
  refine z_iadd (e := 0 + en) gi_180_20 rfl ?_
  refine z_icmp_geF gi_180_21 (by omega) (by omega) (by omega) ?_
  refine z_aload0 gi_180_24 ?_
  refine z_getR (r := 62) gi_180_25 gk_50 (hR _ rm_50_20 (by decide)) ?_
  refine z_iload5 gi_180_28 ?_
  refine z_bald (v := 2) gi_180_30 gk_62 (by decide) (by omega) ((hJ 62 _ rfl).trans hx.1) ?_
  refine z_istore (ls1 := [some (.ref 50), some (zi 0), some (zi fi), some (zi en), some (zi (t.length : Int)), some (zi i), some (zi 2)]) gi_180_31 rfl ?_
  refine z_iload6 gi_180_33 ?_
  refine z_pushJ gp_180_35 ?_
  refine z_icmp_eqF gi_180_36 zr_2 zr_1 (by decide) ?_
  refine z_iload6 gi_180_39 ?_
  refine z_pushJ gp_180_41 ?_
  refine z_icmp_neF gi_180_42 zr_2 zr_2 (by decide) ?_
  refine z_aload0 gi_180_45 ?_
  refine z_getR (r := 68) gi_180_46 gk_50 (hR _ rm_50_26 (by decide)) ?_
  refine z_iload4 gi_180_49 ?_
  refine z_iload6 gi_180_51 ?_
  refine z_pushJ gp_180_53 ?_
  refine z_icmp_neT gi_180_54 zr_2 zr_1 (by decide) ?_
  refine z_aload0 gi_180_67 ?_
  refine z_getR (r := 67) gi_180_68 gk_50 (hR _ rm_50_25 (by decide)) ?_
  refine z_aload0 gi_180_71 ?_
  refine z_getR (r := 63) gi_180_72 gk_50 (hR _ rm_50_21 (by decide)) ?_
  refine z_iload5 gi_180_75 ?_
  refine z_iald (v := 3) gi_180_77 gk_63 (by decide) (by omega) ((hJ 63 _ rfl).trans hx.2) ?_
  refine z_iald (v := nv e 109) gi_180_78 gk_67 (by decide) (by decide) ((hJ 67 3 rfl).trans hB.2.2.2.1) ?_
  refine z_iast (e := nv e 109) gi_180_79 gk_68 (by decide) (by omega) rfl ?_
  refine z_iinc (c := 1) (e := (t.length : Int) + 1) (ls1 := [some (.ref 50), some (zi 0), some (zi fi), some (zi en), some (zi ((t.length : Int) + 1)), some (zi i), some (zi 2)]) gi_180_80 rfl rfl rfl rfl ?_
  refine z_goto gi_180_83 ?_
  refine z_iinc (c := 1) (e := i + 1) (ls1 := [some (.ref 50), some (zi 0), some (zi fi), some (zi en), some (zi ((t.length : Int) + 1)), some (zi (i + 1)), some (zi 2)]) gi_180_182 rfl rfl rfl rfl ?_
  refine z_goto gi_180_185 ?_
  show zW _ _ _ _ [some (.ref 50), some (zi 0), some (zi fi), some (zi en), some (zi ((t.length : Int) + 1)), some (zi (i + 1)), some (zi 2)] [] _ _ _ _
  have h := KK (zU J 68 (t.length : Int) (nv e 109)) (some (zi 2)) (zK_x (a := 68) (x := (t.length : Int)) (v := nv e 109) hJ rfl) (rok_set ht hrt (by omega) (nv_r he 109))
  rw [List.length_cons] at h
  rw [show ((t.length + 1 : Nat) : Int) = (t.length : Int) + 1 by omega] at h
  exact h
theorem wr_99 {X : Nat × (Nat → Int32)} {d : Nat} {M : zA} {R : zR} {P : zP} (hR : zRoR R) {B : zA} {e : en6} (hB : B 67 0 = e.1 ∧ B 67 1 = e.2.1 ∧ B 67 2 = e.2.2.1 ∧ B 67 3 = e.2.2.2.1 ∧ B 67 4 = e.2.2.2.2.1 ∧ B 67 5 = e.2.2.2.2.2) (he : e6r e) {t : List Int} {i fi en : Int} {s6 : Option Value} {J : zA}  (hJ : zK (kL [68] []) B J) (ht : stk J 68 t) (hrt : stR t) (hl : (t.length : Int) ≤ 120) (hx : B 62 i = 2 ∧ B 63 i = 4) (hi : 0 ≤ i ∧ i < en ∧ en ≤ 130) (KK : ∀ (J2 : zA) (s6 : Option Value), zK (kL [68] []) B J2 → rok J2 (nv e 99 :: t) → zW X (d + 2) 180 12 [some (.ref 50), some (zi 0), some (zi fi), some (zi en), some (zi (((nv e 99 :: t).length : Nat) : Int)), some (zi (i + 1)), s6] [] J2 M R P) : zW X (d + 2) 180 12 [some (.ref 50), some (zi 0), some (zi fi), some (zi en), some (zi (t.length : Int)), some (zi i), s6] [] J M R P := by
  show zW _ _ _ _ [some (.ref 50), some (zi 0), some (zi fi), some (zi en), some (zi (t.length : Int)), some (zi i), s6] _ _ _ _ _
  refine z_iload5 gi_180_12 ?_
  refine z_pushJ gp_180_14 ?_
  refine z_iload1 gi_180_17 ?_
  refine z_imul (e := 0) gi_180_18 rfl ?_
  refine z_iload3 gi_180_19 ?_
  refine z_iadd (e := 0 + en) gi_180_20 rfl ?_
  refine z_icmp_geF gi_180_21 (by omega) (by omega) (by omega) ?_
  refine z_aload0 gi_180_24 ?_
  refine z_getR (r := 62) gi_180_25 gk_50 (hR _ rm_50_20 (by decide)) ?_
  refine z_iload5 gi_180_28 ?_
  refine z_bald (v := 2) gi_180_30 gk_62 (by decide) (by omega) ((hJ 62 _ rfl).trans hx.1) ?_
  refine z_istore (ls1 := [some (.ref 50), some (zi 0), some (zi fi), some (zi en), some (zi (t.length : Int)), some (zi i), some (zi 2)]) gi_180_31 rfl ?_
  refine z_iload6 gi_180_33 ?_
  refine z_pushJ gp_180_35 ?_
  refine z_icmp_eqF gi_180_36 zr_2 zr_1 (by decide) ?_
  refine z_iload6 gi_180_39 ?_
  refine z_pushJ gp_180_41 ?_
  refine z_icmp_neF gi_180_42 zr_2 zr_2 (by decide) ?_
  refine z_aload0 gi_180_45 ?_
  refine z_getR (r := 68) gi_180_46 gk_50 (hR _ rm_50_26 (by decide)) ?_
  refine z_iload4 gi_180_49 ?_
  refine z_iload6 gi_180_51 ?_
  refine z_pushJ gp_180_53 ?_
  refine z_icmp_neT gi_180_54 zr_2 zr_1 (by decide) ?_
  refine z_aload0 gi_180_67 ?_
  refine z_getR (r := 67) gi_180_68 gk_50 (hR _ rm_50_25 (by decide)) ?_
  refine z_aload0 gi_180_71 ?_
  refine z_getR (r := 63) gi_180_72 gk_50 (hR _ rm_50_21 (by decide)) ?_
  refine z_iload5 gi_180_75 ?_
  refine z_iald (v := 4) gi_180_77 gk_63 (by decide) (by omega) ((hJ 63 _ rfl).trans hx.2) ?_
  refine z_iald (v := nv e 99) gi_180_78 gk_67 (by decide) (by decide) ((hJ 67 4 rfl).trans hB.2.2.2.2.1) ?_
  refine z_iast (e := nv e 99) gi_180_79 gk_68 (by decide) (by omega) rfl ?_
  refine z_iinc (c := 1) (e := (t.length : Int) + 1) (ls1 := [some (.ref 50), some (zi 0), some (zi fi), some (zi en), some (zi ((t.length : Int) + 1)), some (zi i), some (zi 2)]) gi_180_80 rfl rfl rfl rfl ?_
  refine z_goto gi_180_83 ?_
  refine z_iinc (c := 1) (e := i + 1) (ls1 := [some (.ref 50), some (zi 0), some (zi fi), some (zi en), some (zi ((t.length : Int) + 1)), some (zi (i + 1)), some (zi 2)]) gi_180_182 rfl rfl rfl rfl ?_
  refine z_goto gi_180_185 ?_
  show zW _ _ _ _ [some (.ref 50), some (zi 0), some (zi fi), some (zi en), some (zi ((t.length : Int) + 1)), some (zi (i + 1)), some (zi 2)] [] _ _ _ _
  have h := KK (zU J 68 (t.length : Int) (nv e 99)) (some (zi 2)) (zK_x (a := 68) (x := (t.length : Int)) (v := nv e 99) hJ rfl) (rok_set ht hrt (by omega) (nv_r he 99))
  rw [List.length_cons] at h
  rw [show ((t.length + 1 : Nat) : Int) = (t.length : Int) + 1 by omega] at h
  exact h
theorem wr_112 {X : Nat × (Nat → Int32)} {d : Nat} {M : zA} {R : zR} {P : zP} (hR : zRoR R) {B : zA} {e : en6} (hB : B 67 0 = e.1 ∧ B 67 1 = e.2.1 ∧ B 67 2 = e.2.2.1 ∧ B 67 3 = e.2.2.2.1 ∧ B 67 4 = e.2.2.2.2.1 ∧ B 67 5 = e.2.2.2.2.2) (he : e6r e) {t : List Int} {i fi en : Int} {s6 : Option Value} {J : zA}  (hJ : zK (kL [68] []) B J) (ht : stk J 68 t) (hrt : stR t) (hl : (t.length : Int) ≤ 120) (hx : B 62 i = 2 ∧ B 63 i = 5) (hi : 0 ≤ i ∧ i < en ∧ en ≤ 130) (KK : ∀ (J2 : zA) (s6 : Option Value), zK (kL [68] []) B J2 → rok J2 (nv e 112 :: t) → zW X (d + 2) 180 12 [some (.ref 50), some (zi 0), some (zi fi), some (zi en), some (zi (((nv e 112 :: t).length : Nat) : Int)), some (zi (i + 1)), s6] [] J2 M R P) : zW X (d + 2) 180 12 [some (.ref 50), some (zi 0), some (zi fi), some (zi en), some (zi (t.length : Int)), some (zi i), s6] [] J M R P := by
  show zW _ _ _ _ [some (.ref 50), some (zi 0), some (zi fi), some (zi en), some (zi (t.length : Int)), some (zi i), s6] _ _ _ _ _
  refine z_iload5 gi_180_12 ?_
  refine z_pushJ gp_180_14 ?_
  refine z_iload1 gi_180_17 ?_
  refine z_imul (e := 0) gi_180_18 rfl ?_
  refine z_iload3 gi_180_19 ?_
  refine z_iadd (e := 0 + en) gi_180_20 rfl ?_
  refine z_icmp_geF gi_180_21 (by omega) (by omega) (by omega) ?_
  refine z_aload0 gi_180_24 ?_
  refine z_getR (r := 62) gi_180_25 gk_50 (hR _ rm_50_20 (by decide)) ?_
  refine z_iload5 gi_180_28 ?_
  refine z_bald (v := 2) gi_180_30 gk_62 (by decide) (by omega) ((hJ 62 _ rfl).trans hx.1) ?_
  refine z_istore (ls1 := [some (.ref 50), some (zi 0), some (zi fi), some (zi en), some (zi (t.length : Int)), some (zi i), some (zi 2)]) gi_180_31 rfl ?_
  refine z_iload6 gi_180_33 ?_
  refine z_pushJ gp_180_35 ?_
  refine z_icmp_eqF gi_180_36 zr_2 zr_1 (by decide) ?_
  refine z_iload6 gi_180_39 ?_
  refine z_pushJ gp_180_41 ?_
  refine z_icmp_neF gi_180_42 zr_2 zr_2 (by decide) ?_
  refine z_aload0 gi_180_45 ?_
  refine z_getR (r := 68) gi_180_46 gk_50 (hR _ rm_50_26 (by decide)) ?_
  refine z_iload4 gi_180_49 ?_
  refine z_iload6 gi_180_51 ?_
  refine z_pushJ gp_180_53 ?_
  refine z_icmp_neT gi_180_54 zr_2 zr_1 (by decide) ?_
  refine z_aload0 gi_180_67 ?_
  refine z_getR (r := 67) gi_180_68 gk_50 (hR _ rm_50_25 (by decide)) ?_
  refine z_aload0 gi_180_71 ?_
  refine z_getR (r := 63) gi_180_72 gk_50 (hR _ rm_50_21 (by decide)) ?_
  refine z_iload5 gi_180_75 ?_
  refine z_iald (v := 5) gi_180_77 gk_63 (by decide) (by omega) ((hJ 63 _ rfl).trans hx.2) ?_
  refine z_iald (v := nv e 112) gi_180_78 gk_67 (by decide) (by decide) ((hJ 67 5 rfl).trans hB.2.2.2.2.2) ?_
  refine z_iast (e := nv e 112) gi_180_79 gk_68 (by decide) (by omega) rfl ?_
  refine z_iinc (c := 1) (e := (t.length : Int) + 1) (ls1 := [some (.ref 50), some (zi 0), some (zi fi), some (zi en), some (zi ((t.length : Int) + 1)), some (zi i), some (zi 2)]) gi_180_80 rfl rfl rfl rfl ?_
  refine z_goto gi_180_83 ?_
  refine z_iinc (c := 1) (e := i + 1) (ls1 := [some (.ref 50), some (zi 0), some (zi fi), some (zi en), some (zi ((t.length : Int) + 1)), some (zi (i + 1)), some (zi 2)]) gi_180_182 rfl rfl rfl rfl ?_
  refine z_goto gi_180_185 ?_
  show zW _ _ _ _ [some (.ref 50), some (zi 0), some (zi fi), some (zi en), some (zi ((t.length : Int) + 1)), some (zi (i + 1)), some (zi 2)] [] _ _ _ _
  have h := KK (zU J 68 (t.length : Int) (nv e 112)) (some (zi 2)) (zK_x (a := 68) (x := (t.length : Int)) (v := nv e 112) hJ rfl) (rok_set ht hrt (by omega) (nv_r he 112))
  rw [List.length_cons] at h
  rw [show ((t.length + 1 : Nat) : Int) = (t.length : Int) + 1 by omega] at h
  exact h
theorem wr_33 {X : Nat × (Nat → Int32)} {d : Nat} {M : zA} {R : zR} {P : zP} (hR : zRoR R) {B : zA} {e : en6} (hB : B 67 0 = e.1 ∧ B 67 1 = e.2.1 ∧ B 67 2 = e.2.2.1 ∧ B 67 3 = e.2.2.2.1 ∧ B 67 4 = e.2.2.2.2.1 ∧ B 67 5 = e.2.2.2.2.2) (he : e6r e) {t : List Int} {i fi en : Int} {s6 : Option Value} {J : zA} {a : Int} (hJ : zK (kL [68] []) B J) (ht : stk J 68 t) (hrt : stR t) (hl : (t.length : Int) ≤ 119) (ha : J 68 (t.length : Int) = a) (ra : -2147483648 ≤ a ∧ a < 2147483648) (hx : B 62 i = 3 ∧ B 63 i = 0) (hi : 0 ≤ i ∧ i < en ∧ en ≤ 130) (KK : ∀ (J2 : zA) (s6 : Option Value), zK (kL [68] []) B J2 → rok J2 ((if a = 0 then 1 else 0) :: t) → zW X (d + 2) 180 12 [some (.ref 50), some (zi 0), some (zi fi), some (zi en), some (zi ((((if a = 0 then 1 else 0) :: t).length : Nat) : Int)), some (zi (i + 1)), s6] [] J2 M R P) : zW X (d + 2) 180 12 [some (.ref 50), some (zi 0), some (zi fi), some (zi en), some (zi ((t.length : Int) + 1)), some (zi i), s6] [] J M R P := by
  show zW _ _ _ _ [some (.ref 50), some (zi 0), some (zi fi), some (zi en), some (zi ((t.length : Int) + 1)), some (zi i), s6] _ _ _ _ _
  refine z_iload5 gi_180_12 ?_
  refine z_pushJ gp_180_14 ?_
  refine z_iload1 gi_180_17 ?_
  refine z_imul (e := 0) gi_180_18 rfl ?_
  refine z_iload3 gi_180_19 ?_
  refine z_iadd (e := 0 + en) gi_180_20 rfl ?_
  refine z_icmp_geF gi_180_21 (by omega) (by omega) (by omega) ?_
  refine z_aload0 gi_180_24 ?_
  refine z_getR (r := 62) gi_180_25 gk_50 (hR _ rm_50_20 (by decide)) ?_
  refine z_iload5 gi_180_28 ?_
  refine z_bald (v := 3) gi_180_30 gk_62 (by decide) (by omega) ((hJ 62 _ rfl).trans hx.1) ?_
  refine z_istore (ls1 := [some (.ref 50), some (zi 0), some (zi fi), some (zi en), some (zi ((t.length : Int) + 1)), some (zi i), some (zi 3)]) gi_180_31 rfl ?_
  refine z_iload6 gi_180_33 ?_
  refine z_pushJ gp_180_35 ?_
  refine z_icmp_eqF gi_180_36 zr_3 zr_1 (by decide) ?_
  refine z_iload6 gi_180_39 ?_
  refine z_pushJ gp_180_41 ?_
  refine z_icmp_neT gi_180_42 zr_3 zr_2 (by decide) ?_
  refine z_iload6 gi_180_86 ?_
  refine z_pushJ gp_180_88 ?_
  refine z_icmp_neF gi_180_89 zr_3 zr_3 (by decide) ?_
  refine z_aload0 rfl ?_
  refine z_getR (r := 68) rfl gk_50 (hR _ rm_50_26 (by decide)) ?_
  refine z_iload4 rfl ?_
  refine z_pushJ gp_180_98 ?_
  refine z_isub (e := (t.length : Int) + 1 - 1) rfl rfl ?_
  refine z_aload0 rfl ?_
  refine z_getR (r := 68) rfl gk_50 (hR _ rm_50_26 (by decide)) ?_
  refine z_iload4 rfl ?_
  refine z_pushJ gp_180_106 ?_
  refine z_isub (e := (t.length : Int) + 1 - 1) rfl rfl ?_
  refine z_iald (v := a) rfl gk_68 (by decide) (by omega) ((show J 68 ((t.length : Int) + 1 - 1) = a by rw [show (t.length : Int) + 1 - 1 = (t.length : Int) by omega]; exact ha)) ?_
  refine z_if_ne rfl (by omega) (fun h1 => ?_) (fun h1 => ?_)
  · refine z_pushJ gp_180_116 ?_
    refine z_iast (e := 0) gi_180_117 gk_68 (by decide) (by omega) rfl ?_
    refine z_goto gi_180_118 ?_
    refine z_iinc (c := 1) (e := i + 1) (ls1 := [some (.ref 50), some (zi 0), some (zi fi), some (zi en), some (zi ((t.length : Int) + 1)), some (zi (i + 1)), some (zi 3)]) gi_180_182 rfl rfl rfl rfl ?_
    refine z_goto gi_180_185 ?_
    show zW _ _ _ _ [some (.ref 50), some (zi 0), some (zi fi), some (zi en), some (zi ((t.length : Int) + 1)), some (zi (i + 1)), some (zi 3)] [] _ _ _ _
    rw [if_neg (by omega)] at KK
    have h := KK (zU J 68 ((t.length : Int) + 1 - 1) 0) (some (zi 3)) (zK_x (a := 68) (x := (t.length : Int) + 1 - 1) (v := 0) hJ rfl) (rok_set ht hrt (by omega) (by decide))
    rw [List.length_cons] at h
    rw [show ((t.length + 1 : Nat) : Int) = (t.length : Int) + 1 by omega] at h
    exact h
  · refine z_pushJ gp_180_112 ?_
    refine z_goto rfl ?_
    refine z_iast (e := 1) gi_180_117 gk_68 (by decide) (by omega) rfl ?_
    refine z_goto gi_180_118 ?_
    refine z_iinc (c := 1) (e := i + 1) (ls1 := [some (.ref 50), some (zi 0), some (zi fi), some (zi en), some (zi ((t.length : Int) + 1)), some (zi (i + 1)), some (zi 3)]) gi_180_182 rfl rfl rfl rfl ?_
    refine z_goto gi_180_185 ?_
    show zW _ _ _ _ [some (.ref 50), some (zi 0), some (zi fi), some (zi en), some (zi ((t.length : Int) + 1)), some (zi (i + 1)), some (zi 3)] [] _ _ _ _
    rw [if_pos (by omega)] at KK
    have h := KK (zU J 68 ((t.length : Int) + 1 - 1) 1) (some (zi 3)) (zK_x (a := 68) (x := (t.length : Int) + 1 - 1) (v := 1) hJ rfl) (rok_set ht hrt (by omega) (by decide))
    rw [List.length_cons] at h
    rw [show ((t.length + 1 : Nat) : Int) = (t.length : Int) + 1 by omega] at h
    exact h
theorem wr_95 {X : Nat × (Nat → Int32)} {d : Nat} {M : zA} {R : zR} {P : zP} (hR : zRoR R) {B : zA} {e : en6} (hB : B 67 0 = e.1 ∧ B 67 1 = e.2.1 ∧ B 67 2 = e.2.2.1 ∧ B 67 3 = e.2.2.2.1 ∧ B 67 4 = e.2.2.2.2.1 ∧ B 67 5 = e.2.2.2.2.2) (he : e6r e) {t : List Int} {i fi en : Int} {s6 : Option Value} {J : zA} {a : Int} (hJ : zK (kL [68] []) B J) (ht : stk J 68 t) (hrt : stR t) (hl : (t.length : Int) ≤ 119) (ha : J 68 (t.length : Int) = a) (ra : -2147483648 ≤ a ∧ a < 2147483648) (hx : B 62 i = 4 ∧ B 63 i = 0) (hi : 0 ≤ i ∧ i < en ∧ en ≤ 130) (KK : ∀ (J2 : zA) (s6 : Option Value), zK (kL [68] []) B J2 → rok J2 (zn (-a) :: t) → zW X (d + 2) 180 12 [some (.ref 50), some (zi 0), some (zi fi), some (zi en), some (zi (((zn (-a) :: t).length : Nat) : Int)), some (zi (i + 1)), s6] [] J2 M R P) : zW X (d + 2) 180 12 [some (.ref 50), some (zi 0), some (zi fi), some (zi en), some (zi ((t.length : Int) + 1)), some (zi i), s6] [] J M R P := by
  show zW _ _ _ _ [some (.ref 50), some (zi 0), some (zi fi), some (zi en), some (zi ((t.length : Int) + 1)), some (zi i), s6] _ _ _ _ _
  refine z_iload5 gi_180_12 ?_
  refine z_pushJ gp_180_14 ?_
  refine z_iload1 gi_180_17 ?_
  refine z_imul (e := 0) gi_180_18 rfl ?_
  refine z_iload3 gi_180_19 ?_
  refine z_iadd (e := 0 + en) gi_180_20 rfl ?_
  refine z_icmp_geF gi_180_21 (by omega) (by omega) (by omega) ?_
  refine z_aload0 gi_180_24 ?_
  refine z_getR (r := 62) gi_180_25 gk_50 (hR _ rm_50_20 (by decide)) ?_
  refine z_iload5 gi_180_28 ?_
  refine z_bald (v := 4) gi_180_30 gk_62 (by decide) (by omega) ((hJ 62 _ rfl).trans hx.1) ?_
  refine z_istore (ls1 := [some (.ref 50), some (zi 0), some (zi fi), some (zi en), some (zi ((t.length : Int) + 1)), some (zi i), some (zi 4)]) gi_180_31 rfl ?_
  refine z_iload6 gi_180_33 ?_
  refine z_pushJ gp_180_35 ?_
  refine z_icmp_eqF gi_180_36 zr_4 zr_1 (by decide) ?_
  refine z_iload6 gi_180_39 ?_
  refine z_pushJ gp_180_41 ?_
  refine z_icmp_neT gi_180_42 zr_4 zr_2 (by decide) ?_
  refine z_iload6 gi_180_86 ?_
  refine z_pushJ gp_180_88 ?_
  refine z_icmp_neT gi_180_89 zr_4 zr_3 (by decide) ?_
  refine z_iload6 gi_180_121 ?_
  refine z_pushJ gp_180_123 ?_
  refine z_icmp_neF gi_180_124 zr_4 zr_4 (by decide) ?_
  refine z_aload0 rfl ?_
  refine z_getR (r := 68) rfl gk_50 (hR _ rm_50_26 (by decide)) ?_
  refine z_iload4 rfl ?_
  refine z_pushJ gp_180_133 ?_
  refine z_isub (e := (t.length : Int) + 1 - 1) rfl rfl ?_
  refine z_aload0 rfl ?_
  refine z_getR (r := 68) rfl gk_50 (hR _ rm_50_26 (by decide)) ?_
  refine z_iload4 rfl ?_
  refine z_pushJ gp_180_141 ?_
  refine z_isub (e := (t.length : Int) + 1 - 1) rfl rfl ?_
  refine z_iald (v := a) rfl gk_68 (by decide) (by omega) ((show J 68 ((t.length : Int) + 1 - 1) = a by rw [show (t.length : Int) + 1 - 1 = (t.length : Int) by omega]; exact ha)) ?_
  refine z_ineg (e := -a) rfl rfl ?_
  refine z_topn (e := zn (-a)) rfl ?_
  refine z_iast (e := zn (-a)) rfl gk_68 (by decide) (by omega) rfl ?_
  refine z_goto rfl ?_
  refine z_iinc (c := 1) (e := i + 1) (ls1 := [some (.ref 50), some (zi 0), some (zi fi), some (zi en), some (zi ((t.length : Int) + 1)), some (zi (i + 1)), some (zi 4)]) gi_180_182 rfl rfl rfl rfl ?_
  refine z_goto gi_180_185 ?_
  show zW _ _ _ _ [some (.ref 50), some (zi 0), some (zi fi), some (zi en), some (zi ((t.length : Int) + 1)), some (zi (i + 1)), some (zi 4)] [] _ _ _ _
  have h := KK (zU J 68 ((t.length : Int) + 1 - 1) (zn (-a))) (some (zi 4)) (zK_x (a := 68) (x := (t.length : Int) + 1 - 1) (v := zn (-a)) hJ rfl) (rok_set ht hrt (by omega) (zn_r _))
  rw [List.length_cons] at h
  rw [show ((t.length + 1 : Nat) : Int) = (t.length : Int) + 1 by omega] at h
  exact h
theorem wr_b {X : Nat × (Nat → Int32)} {d : Nat} {M : zA} {R : zR} {P : zP} (hR : zRoR R) {B : zA} {e : en6} (hB : B 67 0 = e.1 ∧ B 67 1 = e.2.1 ∧ B 67 2 = e.2.2.1 ∧ B 67 3 = e.2.2.2.1 ∧ B 67 4 = e.2.2.2.2.1 ∧ B 67 5 = e.2.2.2.2.2) (he : e6r e) {t : List Int} {i fi en : Int} {s6 : Option Value} {J : zA} {a b s : Int} (hJ : zK (kL [68] []) B J) (ht : stk J 68 t) (hrt : stR t) (hl : (t.length : Int) ≤ 118) (ha : J 68 (t.length : Int) = a) (hb : J 68 ((t.length : Int) + 1) = b) (ra : -2147483648 ≤ a ∧ a < 2147483648) (rb : -2147483648 ≤ b ∧ b < 2147483648) (hk : 0 ≤ rk s) (h37 : 37 ≤ s ∧ s ≤ 127) (hx : B 62 i = s ∧ B 63 i = 0) (hi : 0 ≤ i ∧ i < en ∧ en ≤ 130) (KK : ∀ (J2 : zA) (s6 : Option Value), zK (kL [68] []) B J2 → rok J2 (jn s a b :: t) → zW X (d + 2) 180 12 [some (.ref 50), some (zi 0), some (zi fi), some (zi en), some (zi (((jn s a b :: t).length : Nat) : Int)), some (zi (i + 1)), s6] [] J2 M R P) : zW X (d + 2) 180 12 [some (.ref 50), some (zi 0), some (zi fi), some (zi en), some (zi ((t.length : Int) + 1 + 1)), some (zi i), s6] [] J M R P := by
  show zW _ _ _ _ [some (.ref 50), some (zi 0), some (zi fi), some (zi en), some (zi ((t.length : Int) + 1 + 1)), some (zi i), s6] _ _ _ _ _
  refine z_iload5 gi_180_12 ?_
  refine z_pushJ gp_180_14 ?_
  refine z_iload1 gi_180_17 ?_
  refine z_imul (e := 0) gi_180_18 rfl ?_
  refine z_iload3 gi_180_19 ?_
  refine z_iadd (e := 0 + en) gi_180_20 rfl ?_
  refine z_icmp_geF gi_180_21 (by omega) (by omega) (by omega) ?_
  refine z_aload0 gi_180_24 ?_
  refine z_getR (r := 62) gi_180_25 gk_50 (hR _ rm_50_20 (by decide)) ?_
  refine z_iload5 gi_180_28 ?_
  refine z_bald (v := s) gi_180_30 gk_62 (by decide) (by omega) ((hJ 62 _ rfl).trans hx.1) ?_
  refine z_istore (ls1 := [some (.ref 50), some (zi 0), some (zi fi), some (zi en), some (zi ((t.length : Int) + 1 + 1)), some (zi i), some (zi s)]) gi_180_31 rfl ?_
  refine z_iload6 gi_180_33 ?_
  refine z_pushJ gp_180_35 ?_
  refine z_icmp_eqF gi_180_36 (by omega) zr_1 (by omega) ?_
  refine z_iload6 gi_180_39 ?_
  refine z_pushJ gp_180_41 ?_
  refine z_icmp_neT gi_180_42 (by omega) zr_2 (by omega) ?_
  refine z_iload6 gi_180_86 ?_
  refine z_pushJ gp_180_88 ?_
  refine z_icmp_neT gi_180_89 (by omega) zr_3 (by omega) ?_
  refine z_iload6 gi_180_121 ?_
  refine z_pushJ gp_180_123 ?_
  refine z_icmp_neT gi_180_124 (by omega) zr_4 (by omega) ?_
  refine z_iinc (c := (-1)) (e := (t.length : Int) + 1 + 1 + (-1)) (ls1 := [some (.ref 50), some (zi 0), some (zi fi), some (zi en), some (zi ((t.length : Int) + 1 + 1 + (-1))), some (zi i), some (zi s)]) rfl rfl rfl rfl rfl ?_
  refine z_aload0 rfl ?_
  refine z_getR (r := 68) rfl gk_50 (hR _ rm_50_26 (by decide)) ?_
  refine z_iload4 rfl ?_
  refine z_pushJ gp_180_158 ?_
  refine z_isub (e := (t.length : Int) + 1 + 1 + (-1) - 1) rfl rfl ?_
  refine z_iload6 rfl ?_
  refine z_aload0 rfl ?_
  refine z_getR (r := 68) rfl gk_50 (hR _ rm_50_26 (by decide)) ?_
  refine z_iload4 rfl ?_
  refine z_pushJ gp_180_168 ?_
  refine z_isub (e := (t.length : Int) + 1 + 1 + (-1) - 1) rfl rfl ?_
  refine z_iald (v := a) rfl gk_68 (by decide) (by omega) ((show J 68 ((t.length : Int) + 1 + 1 + -1 - 1) = a by rw [show (t.length : Int) + 1 + 1 + -1 - 1 = (t.length : Int) by omega]; exact ha)) ?_
  refine z_aload0 rfl ?_
  refine z_getR (r := 68) rfl gk_50 (hR _ rm_50_26 (by decide)) ?_
  refine z_iload4 rfl ?_
  refine z_iald (v := b) rfl gk_68 (by decide) (by omega) ((show J 68 ((t.length : Int) + 1 + 1 + -1) = b by rw [show (t.length : Int) + 1 + 1 + -1 = (t.length : Int) + 1 by omega]; exact hb)) ?_
  refine z_callSP (As := [_, _, _]) (v := jn s a b) rfl rfl (Nat.le_of_ble_eq_true rfl) (Nat.le_of_ble_eq_true rfl) (joinR hk ra rb) ?_
  refine z_iast (e := jn s a b) rfl gk_68 (by decide) (by omega) rfl ?_
  refine z_iinc (c := 1) (e := i + 1) (ls1 := [some (.ref 50), some (zi 0), some (zi fi), some (zi en), some (zi ((t.length : Int) + 1 + 1 + (-1))), some (zi (i + 1)), some (zi s)]) gi_180_182 rfl rfl rfl rfl ?_
  refine z_goto gi_180_185 ?_
  show zW _ _ _ _ [some (.ref 50), some (zi 0), some (zi fi), some (zi en), some (zi ((t.length : Int) + 1 + 1 + (-1))), some (zi (i + 1)), some (zi s)] [] _ _ _ _
  have h := KK (zU J 68 ((t.length : Int) + 1 + 1 + (-1) - 1) (jn s a b)) (some (zi s)) (zK_x (a := 68) (x := (t.length : Int) + 1 + 1 + (-1) - 1) (v := jn s a b) hJ rfl) (rok_set ht hrt (by omega) (jn_r s a b))
  rw [List.length_cons] at h
  rw [show ((t.length + 1 : Nat) : Int) = (t.length : Int) + 1 + 1 + (-1) by omega] at h
  exact h
