theorem here_b {X : Nat × (Nat → Int32)} {d : Nat} {J M : zA} {R : zR} (hds : R 1 6 = some 3) (hdv : R 1 7 = some 4) (hR : zRok R) {A : zA} {c : Int → Int} {f : Int} (hf : A 1 1 = f) (hc : ∀ i, 0 ≤ i → i < f → A 2 i = c i) (ht : tp c f) (hJ : zK (kL [3, 4] [(1, 2), (1, 8)]) A J) {a : Int} (hat : J 1 2 = a) (ha : 0 ≤ a ∧ a ≤ f) : zW X d 33 0 (gEn 33 [(.ref 1)]) [] J M R (zPu (c a) J M R) := by
  have tf := ht.1
  show zW _ _ _ _ [some (.ref 1)] _ _ _ _ _
  refine z_aload0 gi_33_0 ?_
  refine z_getI (v := a) gi_33_1 gk_1 (hat) ?_
  refine z_aload0 gi_33_4 ?_
  refine z_getI (v := f) gi_33_5 gk_1 ((hJ 1 1 rfl).trans hf) ?_
  refine z_icmp_ge gi_33_8 (by omega) (by omega) (fun h1 => ?_) (fun h1 => ?_)
  · refine z_pushJ gp_33_23 ?_
    refine z_iret gi_33_24 gr_33 ?_
    exact ⟨congrArg (fun v => some (zi v)) (ht.2.2 a (by omega)).symm, rfl, rfl, rfl⟩
  · refine z_aload0 gi_33_11 ?_
    refine z_getR (r := 2) gi_33_12 gk_1 (hR _ rm_1_0) ?_
    refine z_aload0 gi_33_15 ?_
    refine z_getI (v := a) gi_33_16 gk_1 (hat) ?_
    have q2 := ht.2.1 a (by omega) (by omega)
    refine z_iald (v := c a) gi_33_19 gk_2 (by decide) (by omega) ((hJ 2 _ rfl).trans (hc _ (by omega) (by omega))) ?_
    refine z_goto gi_33_20 ?_
    refine z_iret gi_33_24 gr_33 ?_
    exact ⟨rfl, rfl, rfl, rfl⟩
theorem addCode_b {X : Nat × (Nat → Int32)} {d : Nat} {J M : zA} {R : zR} (hds : R 1 6 = some 3) (hdv : R 1 7 = some 4) {k s v : Int} (hkk : J 1 8 = k) (hk : 0 ≤ k ∧ k < 121) : zW X d 34 0 (gEn 34 [(.ref 1), (zi s), (zi v)]) [] J M R (zPx none (zU (zU (zU J 3 k s) 4 k v) 1 8 (k + 1)) M R) := by
  show zW _ _ _ _ [some (.ref 1), some (zi s), some (zi v)] _ _ _ _ _
  refine z_aload0 gi_34_0 ?_
  refine z_getI (v := k) gi_34_1 gk_1 (hkk) ?_
  refine z_pushJ gp_34_4 ?_
  refine z_icmp_ltT gi_34_6 (by omega) zr_121 (by omega) ?_
  refine z_aload0 gi_34_10 ?_
  refine z_getR (r := 3) gi_34_11 gk_1 (hds) ?_
  refine z_aload0 gi_34_14 ?_
  refine z_getI (v := k) gi_34_15 gk_1 (hkk) ?_
  refine z_iload1 gi_34_18 ?_
  refine z_iast (e := s) gi_34_19 gk_3 (by decide) (by omega) rfl ?_
  refine z_aload0 gi_34_20 ?_
  refine z_getR (r := 4) gi_34_21 gk_1 (hdv) ?_
  refine z_aload0 gi_34_24 ?_
  refine z_getI (v := k) gi_34_25 gk_1 ((zU_n (by decide)).trans (hkk)) ?_
  refine z_iload2 gi_34_28 ?_
  refine z_iast (e := v) gi_34_29 gk_4 (by decide) (by omega) rfl ?_
  refine z_aload0 gi_34_30 ?_
  refine z_dup gi_34_31 rfl ?_
  refine z_getI (v := k) gi_34_32 gk_1 ((zU_n (by decide)).trans ((zU_n (by decide)).trans (hkk))) ?_
  refine z_pushJ gp_34_35 ?_
  refine z_iadd (e := k + 1) gi_34_36 rfl ?_
  refine z_putI (y := 8) gi_34_37 rfl gk_1 ?_
  refine z_vret gi_34_40 gr_34 ?_
  exact ⟨rfl, rfl, rfl, rfl⟩
theorem addAny_b {X : Nat × (Nat → Int32)} {d : Nat} {J M : zA} {R : zR} (hds : R 1 6 = some 3) (hdv : R 1 7 = some 4) {k s v : Int} (hkk : J 1 8 = k) (hk : 0 ≤ k ∧ k ≤ 121) : zW X d 34 0 (gEn 34 [(.ref 1), (zi s), (zi v)]) [] J M R (fun r J2 M2 R2 => r = none ∧ zK (kL [3, 4] [(1, 2), (1, 8)]) J J2 ∧ J2 1 2 = J 1 2 ∧ (∀ j, j < k → J2 3 j = J 3 j ∧ J2 4 j = J 4 j) ∧ (k ≤ J2 1 8 ∧ J2 1 8 ≤ 121) ∧ M2 = M ∧ R2 = R) := by
  show zW _ _ _ _ [some (.ref 1), some (zi s), some (zi v)] _ _ _ _ _
  refine z_aload0 gi_34_0 ?_
  refine z_getI (v := k) gi_34_1 gk_1 (hkk) ?_
  refine z_pushJ gp_34_4 ?_
  refine z_icmp_lt gi_34_6 (by omega) zr_121 (fun h1 => ?_) (fun h1 => ?_)
  · refine z_aload0 gi_34_10 ?_
    refine z_getR (r := 3) gi_34_11 gk_1 (hds) ?_
    refine z_aload0 gi_34_14 ?_
    refine z_getI (v := k) gi_34_15 gk_1 (hkk) ?_
    refine z_iload1 gi_34_18 ?_
    refine z_iast (e := s) gi_34_19 gk_3 (by decide) (by omega) rfl ?_
    refine z_aload0 gi_34_20 ?_
    refine z_getR (r := 4) gi_34_21 gk_1 (hdv) ?_
    refine z_aload0 gi_34_24 ?_
    refine z_getI (v := k) gi_34_25 gk_1 ((zU_n (by decide)).trans (hkk)) ?_
    refine z_iload2 gi_34_28 ?_
    refine z_iast (e := v) gi_34_29 gk_4 (by decide) (by omega) rfl ?_
    refine z_aload0 gi_34_30 ?_
    refine z_dup gi_34_31 rfl ?_
    refine z_getI (v := k) gi_34_32 gk_1 ((zU_n (by decide)).trans ((zU_n (by decide)).trans (hkk))) ?_
    refine z_pushJ gp_34_35 ?_
    refine z_iadd (e := k + 1) gi_34_36 rfl ?_
    refine z_putI (y := 8) gi_34_37 rfl gk_1 ?_
    refine z_vret gi_34_40 gr_34 ?_
    refine ⟨rfl, (zK_x (a := 1) (x := 8) (v := k + 1) (zK_x (a := 4) (x := k) (v := v) (zK_x (a := 3) (x := k) (v := s) (zK_r (k := (kL [3, 4] [(1, 2), (1, 8)])) (A := J)) rfl) rfl) rfl), rfl, fun j hj => ⟨?_, ?_⟩, ?_, rfl, rfl⟩
    · exact (zU_n (by decide)).trans ((zU_n (by decide)).trans (zU_x (by omega)))
    · exact (zU_n (by decide)).trans (zU_x (by omega))
    · rw [zU_e]
      omega
  · refine z_vret gi_34_9 gr_34 ?_
    exact ⟨rfl, zK_r, rfl, fun j _ => ⟨rfl, rfl⟩, by rw [hkk]; omega, rfl, rfl⟩
theorem num_b {X : Nat × (Nat → Int32)} {d : Nat} {J M : zA} {R : zR} {P : zP} (hds : R 1 6 = some 3) (hdv : R 1 7 = some 4) (hR : zRok R) {A : zA} {c : Int → Int} {f : Int} (hf : A 1 1 = f) (hc : ∀ i, 0 ≤ i → i < f → A 2 i = c i) (ht : tp c f) (hJ : zK (kL [3, 4] [(1, 2), (1, 8)]) A J) : ∀ (j : Nat) (i a v : Int), i + j = 4 → 0 ≤ i → (0 ≤ a ∧ a ≤ f) → (∀ e2 : Option Value, zW X (d + 2) 32 48 [some (.ref 1), some (zi ((nu c j a v).2)), e2] [] (zU J 1 2 (nu c j a v).1) M R P) → zW X (d + 2) 32 4 [some (.ref 1), some (zi v), some (zi i)] [] (zU J 1 2 a) M R P := by
  intro j
  induction j with
  | zero =>
    intro i a v hi h0 ha KK
    obtain rfl : i = 4 := by omega
    refine z_iload rfl rfl ?_
    refine z_pushI (z := 4) rfl rfl ?_
    refine z_icmp_geT rfl (by decide) (by decide) (by decide) ?_
    exact KK _
  | succ j ih =>
    intro i a v hi h0 ha KK
    have tf := ht.1
    refine z_iload2 gi_32_4 ?_
    refine z_pushJ gp_32_5 ?_
    refine z_icmp_geF gi_32_6 (by omega) zr_4 (by omega) ?_
    refine z_aload0 gi_32_9 ?_
    refine z_callVP (As := []) (v := c a) gi_32_10 rfl gk_1 (Nat.le_of_ble_eq_true rfl) (Nat.le_of_ble_eq_true rfl) (here_b hds hdv hR hf hc ht (zK_x (a := 1) (x := 2) (v := a) hJ rfl) zU_e (by omega)) ?_
    have q1 := tp_r ht a (by omega)
    refine z_callSP (As := [_]) (v := dgi (c a)) gi_32_13 rfl (Nat.le_of_ble_eq_true rfl) (Nat.le_of_ble_eq_true rfl) (isDigit_k (by omega)) ?_
    have q2 := dgi_r (c a)
    refine z_if_eq gi_32_16 (by omega) (fun h3 => ?_) (fun h3 => ?_)
    · show zW _ _ _ _ [some (.ref 1), some (zi v), some (zi i)] [] _ _ _ _
      have e := @nu_0 c j a v (by omega)
      rw [e] at KK
      exact KK _
    · refine z_iload1 gi_32_19 ?_
      refine z_pushJ gp_32_20 ?_
      refine z_imul (e := v * 10) gi_32_22 rfl ?_
      refine z_aload0 gi_32_23 ?_
      refine z_callVP (As := []) (v := c a) gi_32_24 rfl gk_1 (Nat.le_of_ble_eq_true rfl) (Nat.le_of_ble_eq_true rfl) (here_b hds hdv hR hf hc ht (zK_x (a := 1) (x := 2) (v := a) hJ rfl) zU_e (by omega)) ?_
      have q4 := tp_r ht a (by omega)
      refine z_iadd (e := v * 10 + (c a)) gi_32_27 rfl ?_
      refine z_pushJ gp_32_28 ?_
      refine z_isub (e := v * 10 + (c a) - 48) gi_32_30 rfl ?_
      refine z_istore (ls1 := [some (.ref 1), some (zi (v * 10 + (c a) - 48)), some (zi i)]) gi_32_31 rfl ?_
      refine z_aload0 gi_32_32 ?_
      refine z_dup gi_32_33 rfl ?_
      refine z_getI (v := a) gi_32_34 gk_1 (zU_e) ?_
      refine z_pushJ gp_32_37 ?_
      refine z_iadd (e := a + 1) gi_32_38 rfl ?_
      refine z_putI (y := 2) gi_32_39 rfl gk_1 ?_
      refine z_iinc (c := 1) (e := i + 1) (ls1 := [some (.ref 1), some (zi (v * 10 + (c a) - 48)), some (zi (i + 1))]) gi_32_42 rfl rfl rfl rfl ?_
      refine z_goto gi_32_45 ?_
      show zW _ _ _ _ [some (.ref 1), some (zi (v * 10 + (c a) - 48)), some (zi (i + 1))] [] _ _ _ _
      have e := @nu_1 c j a v (by omega)
      rw [zU_U]
      rw [e] at KK
      have ha2 := tp_lt ht (show ¬ c a = -1 by omega)
      exact ih (i + 1) (a + 1) (v * 10 + c a - 48) (by omega) (by omega) (by omega) KK
theorem num_0b {X : Nat × (Nat → Int32)} {d k pc : Nat} {ls : List (Option Value)} {st : List Value} {J M : zA} {R : zR} {P : zP} {a : Int} (h : J 1 2 = a) (g : zW X d k pc ls st (zU J 1 2 a) M R P) : zW X d k pc ls st J M R P := by
  rw [zU_id h] at g
  exact g
theorem readNumber_b {X : Nat × (Nat → Int32)} {d : Nat} {J M : zA} {R : zR} (hds : R 1 6 = some 3) (hdv : R 1 7 = some 4) (hR : zRok R) {A : zA} {c : Int → Int} {f : Int} (hf : A 1 1 = f) (hc : ∀ i, 0 ≤ i → i < f → A 2 i = c i) (ht : tp c f) (hJ : zK (kL [3, 4] [(1, 2), (1, 8)]) A J) {a k : Int} (hat : J 1 2 = a) (ha : 0 ≤ a ∧ a ≤ f) (hkk : J 1 8 = k) (hk : 0 ≤ k ∧ k < 121) : zW X (d + 2) 32 0 (gEn 32 [(.ref 1)]) [] J M R (zPx none (zU (zU (zU (zU J 1 2 (nu c 4 a 0).1) 3 k 48) 4 k (nu c 4 a 0).2) 1 8 (k + 1)) M R) := by
  show zW _ _ _ _ [some (.ref 1), none, none] _ _ _ _ _
  refine z_pushJ gp_32_0 ?_
  refine z_istore (ls1 := [some (.ref 1), some (zi 0), none]) gi_32_1 rfl ?_
  refine z_pushJ gp_32_2 ?_
  refine z_istore (ls1 := [some (.ref 1), some (zi 0), some (zi 0)]) gi_32_3 rfl ?_
  show zW _ _ _ _ [some (.ref 1), some (zi 0), some (zi 0)] [] _ _ _ _
  refine num_0b hat ?_
  refine num_b hds hdv hR hf hc ht hJ 4 0 a 0 (by decide) (by decide) ha (fun e2 => ?_)
  refine z_aload0 gi_32_48 ?_
  refine z_pushJ gp_32_49 ?_
  refine z_iload1 gi_32_51 ?_
  refine z_callVx (As := [_, _]) gi_32_52 rfl gk_1 (Nat.le_of_ble_eq_true rfl) (Nat.le_of_ble_eq_true rfl) (addCode_b (k := k) (s := 48) (v := (nu c 4 a 0).2) hds hdv (by exact (zU_x (by decide)).trans hkk) (by omega)) ?_
  show zW _ _ _ _ _ _ _ _ _ _
  refine z_vret gi_32_55 gr_32 ?_
  exact ⟨rfl, rfl, rfl, rfl⟩
/-- what reading a part leaves: J before, J2 behind, k codes before -/
noncomputable def rdb (c : Int → Int) (k : Int) (x : rs) (J M : zA) (R : zR) : zP := fun r J2 M2 R2 => (zK (kL [3, 4] [(1, 2), (1, 8)]) J J2 ∧ J2 1 2 = x.2.1 ∧ (∀ j, j < k → J2 3 j = J 3 j ∧ J2 4 j = J 4 j) ∧ M2 = M ∧ R2 = R) ∧ ((x.1 = true ∧ r = some (zi 1) ∧ J2 1 8 = k + (x.2.2.length : Int) ∧ lay J2 3 4 k x.2.2) ∨ (x.1 = false ∧ (k ≤ J2 1 8 ∧ J2 1 8 ≤ 121) ∧ (r = some (zi 0) ∨ (r = some (zi 1) ∧ dg (c x.2.1)))))
theorem rdcb {c : Int → Int} {k : Int} {l : List (Int × Int)} {y : rs} {J J3 M J2 M2 : zA} {R R2 : zR} {r : Option Value} (h3 : zK (kL [3, 4] [(1, 2), (1, 8)]) J J3) (hke : ∀ j, j < k → J3 3 j = J 3 j ∧ J3 4 j = J 4 j) (hl : lay J3 3 4 k l) (h : rdb c (k + (l.length : Int)) y J3 M R r J2 M2 R2) : rdb c k (y.1, y.2.1, l ++ y.2.2) J M R r J2 M2 R2 := by
  obtain ⟨⟨a1, a2, a3, a4, a5⟩, b⟩ := h
  have n0 : 0 ≤ (l.length : Int) := by omega
  refine ⟨⟨zK_t h3 a1, a2, fun j hj => ?_, a4, a5⟩, ?_⟩
  · have q1 := a3 j (by omega)
    have q2 := hke j hj
    exact ⟨q1.1.trans q2.1, q1.2.trans q2.2⟩
  · rcases b with ⟨b1, b2, b3, b4⟩ | ⟨b1, b2, b3⟩
    · refine Or.inl ⟨b1, b2, ?_, lay_app l y.2.2 k (lay_keep l k _ hl (Int.le_refl _) a3) b4⟩
      rw [b3]
      show k + (l.length : Int) + (y.2.2.length : Int) = k + ((l ++ y.2.2).length : Int)
      rw [List.length_append]
      omega
    · exact Or.inr ⟨b1, ⟨by omega, b2.2⟩, b3⟩
theorem opb {X : Nat × (Nat → Int32)} {M : zA} {R : zR} (hds : R 1 6 = some 3) (hdv : R 1 7 = some 4) (hR : zRok R) {A : zA} {c : Int → Int} {f : Int} (hf : A 1 1 = f) (hc : ∀ i, 0 ≤ i → i < f → A 2 i = c i) (ht : tp c f) {n : Nat} (ih31 : (∀ (o a k : Int) (D : Nat) (J : zA), pK n 5 o → zK (kL [3, 4] [(1, 2), (1, 8)]) A J → J 1 2 = a → (0 ≤ a ∧ a ≤ f) → J 1 8 = k → (0 ≤ k ∧ k ≤ a) → 2 * n + 8 ≤ D → zW X D 31 0 (gEn 31 [.ref 1, zi o]) [] J M R (rdb c k (pE c n 5 o a) J M R))) (ih30 : (∀ (r o a k : Int) (D : Nat) (J : zA), pK n r o → zK (kL [3, 4] [(1, 2), (1, 8)]) A J → J 1 2 = a → (0 ≤ a ∧ a ≤ f) → J 1 8 = k → (0 ≤ k ∧ k ≤ a) → 2 * n + 9 ≤ D → zW X D 30 0 (gEn 30 [.ref 1, zi r, zi o]) [] J M R (rdb c k (pE c n r o a) J M R))) : (∀ (o a k : Int) (D : Nat) (J : zA), pK (n + 1) 5 o → zK (kL [3, 4] [(1, 2), (1, 8)]) A J → J 1 2 = a → (0 ≤ a ∧ a ≤ f) → J 1 8 = k → (0 ≤ k ∧ k ≤ a) → 2 * (n + 1) + 8 ≤ D → zW X D 31 0 (gEn 31 [.ref 1, zi o]) [] J M R (rdb c k (pE c (n + 1) 5 o a) J M R)) := by
  intro o a k D J hk hJ hat ha hkk hk0 hD
  obtain ⟨D, rfl⟩ : ∃ e, D = e + 5 := ⟨D - 5, by omega⟩
  have tf := ht.1
  rw [pE_5]
  show zW _ _ _ _ [some (.ref 1), some (zi o), none] _ _ _ _ _
  refine z_aload0 gi_31_0 ?_
  refine z_callVP (As := []) (v := c (a)) gi_31_1 rfl gk_1 (Nat.le_of_ble_eq_true rfl) (Nat.le_of_ble_eq_true rfl) (here_b hds hdv hR hf hc ht hJ hat (by omega)) ?_
  have q1 := tp_r ht (a) (by omega)
  refine z_istore (ls1 := [some (.ref 1), some (zi o), some (zi (c (a)))]) gi_31_4 rfl ?_
  refine z_iload2 gi_31_5 ?_
  refine z_callSP (As := [_]) (v := dgi (c (a))) gi_31_6 rfl (Nat.le_of_ble_eq_true rfl) (Nat.le_of_ble_eq_true rfl) (isDigit_k (by omega)) ?_
  have q2 := dgi_r (c (a))
  refine z_if_eq gi_31_9 (by omega) (fun h3 => ?_) (fun h3 => ?_)
  · refine z_iload2 gi_31_18 ?_
    refine z_callSP (As := [_]) (v := nmi (c (a))) gi_31_19 rfl (Nat.le_of_ble_eq_true rfl) (Nat.le_of_ble_eq_true rfl) (isName_k (by omega)) ?_
    have q4 := nmi_r (c (a))
    refine z_if_eq gi_31_22 (by omega) (fun h5 => ?_) (fun h5 => ?_)
    · refine z_iload2 gi_31_43 ?_
      refine z_pushJ gp_31_44 ?_
      refine z_icmp_eq gi_31_46 (by omega) zr_40 (fun h6 => ?_) (fun h6 => ?_)
      · refine z_iload1 gi_31_61 ?_
        refine z_pushJ gp_31_62 ?_
        refine z_icmp_lt gi_31_64 (by omega) zr_6 (fun h7 => ?_) (fun h7 => ?_)
        · refine z_aload0 gi_31_69 ?_
          refine z_dup gi_31_70 rfl ?_
          refine z_getI (v := a) gi_31_71 gk_1 (hat) ?_
          refine z_pushJ gp_31_74 ?_
          refine z_iadd (e := a + 1) gi_31_75 rfl ?_
          refine z_putI (y := 2) gi_31_76 rfl gk_1 ?_
          refine z_iload2 gi_31_79 ?_
          refine z_pushJ gp_31_80 ?_
          refine z_icmp_neF gi_31_82 (by omega) zr_40 (by omega) ?_
          refine z_aload0 gi_31_85 ?_
          refine z_pushJ gp_31_86 ?_
          refine z_iload1 gi_31_87 ?_
          refine z_pushJ gp_31_88 ?_
          refine z_iadd (e := o + 1) gi_31_89 rfl ?_
          have ha2 := tp_lt ht (show ¬ c a = -1 by omega)
          have gx := (pE_g ht n 0 (o + 1) (a + 1) (by omega) (by omega)).1
          have gl : (pE c n 0 (o + 1) (a + 1)).1 = true → ((pE c n 0 (o + 1) (a + 1)).2.2.length : Int) ≤ (pE c n 0 (o + 1) (a + 1)).2.1 - (a + 1) := fun t => ((pE_g ht n 0 (o + 1) (a + 1) (by omega) (by omega)).2 t).1.2.1
          refine z_callV (As := [_, _]) _ gi_31_90 rfl rfl (Nat.le_of_ble_eq_true rfl) (Nat.le_of_ble_eq_true rfl) (ih30 0 (o + 1) (a + 1) k _ _ (by omega) (zK_x (a := 1) (x := 2) (v := a + 1) hJ rfl) zU_e (by omega) ((zU_x (by decide)).trans hkk) (by omega) (by omega)) (fun r J2 M2 R2 hr => ?_)
          obtain ⟨⟨hk2, h22, hke, eM, eR⟩, hr⟩ := hr
          obtain rfl : M = M2 := eM.symm
          obtain rfl : R = R2 := eR.symm
          have hJ2 : zK (kL [3, 4] [(1, 2), (1, 8)]) J J2 := zK_t (zK_x (a := 1) (x := 2) (v := a + 1) zK_r rfl) hk2
          have hJ3 : zK (kL [3, 4] [(1, 2), (1, 8)]) A J2 := zK_t hJ hJ2
          have hb0 : ∀ j, j < k → (zU J 1 2 (a + 1)) 3 j = J 3 j ∧ (zU J 1 2 (a + 1)) 4 j = J 4 j := fun j hj => ⟨(zU_n (by decide)).trans (rfl), (zU_n (by decide)).trans (rfl)⟩
          have hke2 : ∀ j, j < k → J2 3 j = J 3 j ∧ J2 4 j = J 4 j := fun j hj => ⟨(hke j hj).1.trans (hb0 j hj).1, (hke j hj).2.trans (hb0 j hj).2⟩
          rcases hr with ⟨ok, rfl, h28, hl⟩ | ⟨ok, h28, rfl | ⟨rfl, qd⟩⟩
          · show zW _ _ _ _ _ (_ :: _) _ _ _ _
            refine z_if_eqF gi_31_93 zr_1 (by decide) ?_
            refine z_aload0 gi_31_96 ?_
            refine z_callVP (As := []) (v := c ((pE c n 0 (o + 1) (a + 1)).2.1)) gi_31_97 rfl gk_1 (Nat.le_of_ble_eq_true rfl) (Nat.le_of_ble_eq_true rfl) (here_b hds hdv hR hf hc ht hJ3 h22 (by omega)) ?_
            have q8 := tp_r ht ((pE c n 0 (o + 1) (a + 1)).2.1) (by omega)
            refine z_pushJ gp_31_100 ?_
            refine z_icmp_eq gi_31_102 (by omega) zr_41 (fun h9 => ?_) (fun h9 => ?_)
            · refine z_aload0 gi_31_107 ?_
              refine z_dup gi_31_108 rfl ?_
              refine z_getI (v := (pE c n 0 (o + 1) (a + 1)).2.1) gi_31_109 gk_1 (h22) ?_
              refine z_pushJ gp_31_112 ?_
              refine z_iadd (e := ((pE c n 0 (o + 1) (a + 1)).2.1) + 1) gi_31_113 rfl ?_
              refine z_putI (y := 2) gi_31_114 rfl gk_1 ?_
              refine z_pushJ gp_31_117 ?_
              refine z_bret1 gi_31_118 gr_31 ?_
              have gl2 := gl ok
              have ex : opd c o (pE c n 0 (o + 1)) (pE c n 5 (o + 1)) a = (true, (pE c n 0 (o + 1) (a + 1)).2.1 + 1, (pE c n 0 (o + 1) (a + 1)).2.2) := by
                unfold opd
                rw [if_neg (show ¬ dg (c a) by omega), if_neg (show ¬ nmd (c a) by omega), if_pos (show (c a = 40 ∨ c a = 33 ∨ c a = 45) ∧ o < 6 by omega), if_pos (show c a = 40 by omega), if_pos ok, if_pos (show c (pE c n 0 (o + 1) (a + 1)).2.1 = 41 by omega)]
              rw [ex]
              exact ⟨⟨(zK_x (a := 1) (x := 2) (v := ((pE c n 0 (o + 1) (a + 1)).2.1) + 1) hJ2 rfl), zU_e, fun j hj => ⟨(zU_n (by decide)).trans ((hke2 j hj).1), (zU_n (by decide)).trans ((hke2 j hj).2)⟩, rfl, rfl⟩, Or.inl ⟨rfl, rfl, (zU_x (by decide)).trans (h28), lay_keep _ k _ hl (Int.le_refl _) (fun j _ => ⟨zU_n (by decide), zU_n (by decide)⟩)⟩⟩
            · refine z_pushJ gp_31_105 ?_
              refine z_bret0 gi_31_106 gr_31 ?_
              have gl2 := gl ok
              have ex : opd c o (pE c n 0 (o + 1)) (pE c n 5 (o + 1)) a = (false, (pE c n 0 (o + 1) (a + 1)).2.1, []) := by
                unfold opd
                rw [if_neg (show ¬ dg (c a) by omega), if_neg (show ¬ nmd (c a) by omega), if_pos (show (c a = 40 ∨ c a = 33 ∨ c a = 45) ∧ o < 6 by omega), if_pos (show c a = 40 by omega), if_pos ok, if_neg (show ¬ c (pE c n 0 (o + 1) (a + 1)).2.1 = 41 by omega)]
              rw [ex]
              exact ⟨⟨hJ2, h22, hke2, rfl, rfl⟩, Or.inr ⟨rfl, (by rw [h28]; omega), Or.inl rfl⟩⟩
          · show zW _ _ _ _ _ (_ :: _) _ _ _ _
            refine z_if_eqT gi_31_93 zr_0 (by decide) ?_
            refine z_pushJ gp_31_105 ?_
            refine z_bret0 gi_31_106 gr_31 ?_
            have ex : opd c o (pE c n 0 (o + 1)) (pE c n 5 (o + 1)) a = (pE c n 0 (o + 1) (a + 1)) := by
              unfold opd
              rw [if_neg (show ¬ dg (c a) by omega), if_neg (show ¬ nmd (c a) by omega), if_pos (show (c a = 40 ∨ c a = 33 ∨ c a = 45) ∧ o < 6 by omega), if_pos (show c a = 40 by omega), if_neg (by rw [ok]; decide)]
            rw [ex]
            exact ⟨⟨hJ2, h22, fun j hj => ⟨(hke2 j hj).1, (hke2 j hj).2⟩, rfl, rfl⟩, Or.inr ⟨ok, h28, Or.inl rfl⟩⟩
          · show zW _ _ _ _ _ (_ :: _) _ _ _ _
            refine z_if_eqF gi_31_93 zr_1 (by decide) ?_
            refine z_aload0 gi_31_96 ?_
            refine z_callVP (As := []) (v := c ((pE c n 0 (o + 1) (a + 1)).2.1)) gi_31_97 rfl gk_1 (Nat.le_of_ble_eq_true rfl) (Nat.le_of_ble_eq_true rfl) (here_b hds hdv hR hf hc ht hJ3 h22 (by omega)) ?_
            have q8 := tp_r ht ((pE c n 0 (o + 1) (a + 1)).2.1) (by omega)
            refine z_pushJ gp_31_100 ?_
            refine z_icmp_eq gi_31_102 (by omega) zr_41 (fun h9 => ?_) (fun h9 => ?_)
            · refine z_aload0 gi_31_107 ?_
              refine z_dup gi_31_108 rfl ?_
              refine z_getI (v := (pE c n 0 (o + 1) (a + 1)).2.1) gi_31_109 gk_1 (h22) ?_
              refine z_pushJ gp_31_112 ?_
              refine z_iadd (e := ((pE c n 0 (o + 1) (a + 1)).2.1) + 1) gi_31_113 rfl ?_
              refine z_putI (y := 2) gi_31_114 rfl gk_1 ?_
              refine z_pushJ gp_31_117 ?_
              refine z_bret1 gi_31_118 gr_31 ?_
              exfalso
              omega
            · refine z_pushJ gp_31_105 ?_
              refine z_bret0 gi_31_106 gr_31 ?_
              have ex : opd c o (pE c n 0 (o + 1)) (pE c n 5 (o + 1)) a = (pE c n 0 (o + 1) (a + 1)) := by
                unfold opd
                rw [if_neg (show ¬ dg (c a) by omega), if_neg (show ¬ nmd (c a) by omega), if_pos (show (c a = 40 ∨ c a = 33 ∨ c a = 45) ∧ o < 6 by omega), if_pos (show c a = 40 by omega), if_neg (by rw [ok]; decide)]
              rw [ex]
              exact ⟨⟨hJ2, h22, fun j hj => ⟨(hke2 j hj).1, (hke2 j hj).2⟩, rfl, rfl⟩, Or.inr ⟨ok, h28, Or.inl rfl⟩⟩
        · refine z_pushJ gp_31_67 ?_
          refine z_bret0 gi_31_68 gr_31 ?_
          have ex : opd c o (pE c n 0 (o + 1)) (pE c n 5 (o + 1)) a = (false, a, []) := by
            unfold opd
            rw [if_neg (show ¬ dg (c a) by omega), if_neg (show ¬ nmd (c a) by omega), if_neg (by omega)]
          rw [ex]
          exact ⟨⟨zK_r, hat, fun j _ => ⟨rfl, rfl⟩, rfl, rfl⟩, Or.inr ⟨rfl, by rw [hkk]; omega, Or.inl rfl⟩⟩
      · refine z_iload2 gi_31_49 ?_
        refine z_pushJ gp_31_50 ?_
        refine z_icmp_eq gi_31_52 (by omega) zr_33 (fun h8 => ?_) (fun h8 => ?_)
        · refine z_iload1 gi_31_61 ?_
          refine z_pushJ gp_31_62 ?_
          refine z_icmp_lt gi_31_64 (by omega) zr_6 (fun h9 => ?_) (fun h9 => ?_)
          · refine z_aload0 gi_31_69 ?_
            refine z_dup gi_31_70 rfl ?_
            refine z_getI (v := a) gi_31_71 gk_1 (hat) ?_
            refine z_pushJ gp_31_74 ?_
            refine z_iadd (e := a + 1) gi_31_75 rfl ?_
            refine z_putI (y := 2) gi_31_76 rfl gk_1 ?_
            refine z_iload2 gi_31_79 ?_
            refine z_pushJ gp_31_80 ?_
            refine z_icmp_neT gi_31_82 (by omega) zr_40 (by omega) ?_
            refine z_aload0 gi_31_119 ?_
            refine z_iload1 gi_31_120 ?_
            refine z_pushJ gp_31_121 ?_
            refine z_iadd (e := o + 1) gi_31_122 rfl ?_
            have ha2 := tp_lt ht (show ¬ c a = -1 by omega)
            have gx := (pE_g ht n 5 (o + 1) (a + 1) (by omega) (by omega)).1
            have gl : (pE c n 5 (o + 1) (a + 1)).1 = true → ((pE c n 5 (o + 1) (a + 1)).2.2.length : Int) ≤ (pE c n 5 (o + 1) (a + 1)).2.1 - (a + 1) := fun t => ((pE_g ht n 5 (o + 1) (a + 1) (by omega) (by omega)).2 t).1.2.1
            refine z_callV (As := [_]) _ gi_31_123 rfl rfl (Nat.le_of_ble_eq_true rfl) (Nat.le_of_ble_eq_true rfl) (ih31 (o + 1) (a + 1) k _ _ (by omega) (zK_x (a := 1) (x := 2) (v := a + 1) hJ rfl) zU_e (by omega) ((zU_x (by decide)).trans hkk) (by omega) (by omega)) (fun r J2 M2 R2 hr => ?_)
            obtain ⟨⟨hk2, h22, hke, eM, eR⟩, hr⟩ := hr
            obtain rfl : M = M2 := eM.symm
            obtain rfl : R = R2 := eR.symm
            have hJ2 : zK (kL [3, 4] [(1, 2), (1, 8)]) J J2 := zK_t (zK_x (a := 1) (x := 2) (v := a + 1) zK_r rfl) hk2
            have hJ3 : zK (kL [3, 4] [(1, 2), (1, 8)]) A J2 := zK_t hJ hJ2
            have hb0 : ∀ j, j < k → (zU J 1 2 (a + 1)) 3 j = J 3 j ∧ (zU J 1 2 (a + 1)) 4 j = J 4 j := fun j hj => ⟨(zU_n (by decide)).trans (rfl), (zU_n (by decide)).trans (rfl)⟩
            have hke2 : ∀ j, j < k → J2 3 j = J 3 j ∧ J2 4 j = J 4 j := fun j hj => ⟨(hke j hj).1.trans (hb0 j hj).1, (hke j hj).2.trans (hb0 j hj).2⟩
            rcases hr with ⟨ok, rfl, h28, hl⟩ | ⟨ok, h28, rfl | ⟨rfl, qd⟩⟩
            · show zW _ _ _ _ _ (_ :: _) _ _ _ _
              refine z_if_neT gi_31_126 zr_1 (by decide) ?_
              refine z_aload0 gi_31_131 ?_
              refine z_iload2 gi_31_132 ?_
              refine z_pushJ gp_31_133 ?_
              refine z_icmp_neT gi_31_135 (by omega) zr_45 (by omega) ?_
              refine z_iload2 gi_31_143 ?_
              refine z_pushJ gp_31_144 ?_
              have gl2 := gl ok
              refine z_callVx (As := [_, _]) gi_31_145 rfl gk_1 (Nat.le_of_ble_eq_true rfl) (Nat.le_of_ble_eq_true rfl) (addCode_b (k := k + ((pE c n 5 (o + 1) (a + 1)).2.2.length : Int)) (s := c (a)) (v := 0) hds hdv h28 (by omega)) ?_
              show zW _ _ _ _ _ _ _ _ _ _
              refine z_pushJ gp_31_148 ?_
              refine z_bret1 gi_31_149 gr_31 ?_
              have ex : opd c o (pE c n 0 (o + 1)) (pE c n 5 (o + 1)) a = (true, (pE c n 5 (o + 1) (a + 1)).2.1, (pE c n 5 (o + 1) (a + 1)).2.2 ++ [(c (a), 0)]) := by
                unfold opd
                rw [if_neg (show ¬ dg (c a) by omega), if_neg (show ¬ nmd (c a) by omega), if_pos (show (c a = 40 ∨ c a = 33 ∨ c a = 45) ∧ o < 6 by omega), if_neg (show ¬ c a = 40 by omega), if_pos ok, if_neg (show ¬ c a = 45 by omega), show (33 : Int) = c a by omega]
              rw [ex]
              refine ⟨⟨(zK_x (a := 1) (x := 8) (v := (k + ((pE c n 5 (o + 1) (a + 1)).2.2.length : Int) + 1)) (zK_x (a := 4) (x := (k + ((pE c n 5 (o + 1) (a + 1)).2.2.length : Int))) (v := 0) (zK_x (a := 3) (x := (k + ((pE c n 5 (o + 1) (a + 1)).2.2.length : Int))) (v := c (a)) hJ2 rfl) rfl) rfl), (zU_x (by decide)).trans ((zU_n (by decide)).trans ((zU_n (by decide)).trans (h22))), fun j hj => ⟨(zU_n (by decide)).trans ((zU_n (by decide)).trans ((zU_x (by omega)).trans ((hke2 j hj).1))), (zU_n (by decide)).trans ((zU_x (by omega)).trans ((zU_n (by decide)).trans ((hke2 j hj).2)))⟩, rfl, rfl⟩, Or.inl ⟨rfl, rfl, ?_, lay_app _ _ k (lay_keep _ k _ hl (Int.le_refl _) (fun j hj => ⟨(zU_n (by decide)).trans ((zU_n (by decide)).trans (zU_x (by omega))), (zU_n (by decide)).trans ((zU_x (by omega)).trans (zU_n (by decide)))⟩)) ⟨⟨(zU_n (by decide)).trans ((zU_n (by decide)).trans zU_e), (zU_n (by decide)).trans zU_e⟩, trivial⟩⟩⟩
              refine zU_e.trans ?_
              rw [List.length_append, List.length_singleton]
              omega
            · show zW _ _ _ _ _ (_ :: _) _ _ _ _
              refine z_if_neF gi_31_126 zr_0 (by decide) ?_
              refine z_pushJ gp_31_129 ?_
              refine z_bret0 gi_31_130 gr_31 ?_
              have ex : opd c o (pE c n 0 (o + 1)) (pE c n 5 (o + 1)) a = (pE c n 5 (o + 1) (a + 1)) := by
                unfold opd
                rw [if_neg (show ¬ dg (c a) by omega), if_neg (show ¬ nmd (c a) by omega), if_pos (show (c a = 40 ∨ c a = 33 ∨ c a = 45) ∧ o < 6 by omega), if_neg (show ¬ c a = 40 by omega), if_neg (by rw [ok]; decide)]
              rw [ex]
              exact ⟨⟨hJ2, h22, fun j hj => ⟨(hke2 j hj).1, (hke2 j hj).2⟩, rfl, rfl⟩, Or.inr ⟨ok, h28, Or.inl rfl⟩⟩
            · show zW _ _ _ _ _ (_ :: _) _ _ _ _
              refine z_if_neT gi_31_126 zr_1 (by decide) ?_
              refine z_aload0 gi_31_131 ?_
              refine z_iload2 gi_31_132 ?_
              refine z_pushJ gp_31_133 ?_
              refine z_icmp_neT gi_31_135 (by omega) zr_45 (by omega) ?_
              refine z_iload2 gi_31_143 ?_
              refine z_pushJ gp_31_144 ?_
              refine z_callV (As := [_, _]) _ gi_31_145 rfl rfl (Nat.le_of_ble_eq_true rfl) (Nat.le_of_ble_eq_true rfl) (addAny_b (J := J2) hds hdv rfl (by omega)) (fun r J5 M5 R5 h5 => ?_)
              obtain ⟨rfl, k5, e5, b5, r5, eM5, eR5⟩ := h5
              obtain rfl : M = M5 := eM5.symm
              obtain rfl : R = R5 := eR5.symm
              show zW _ _ _ _ _ _ _ _ _ _
              refine z_pushJ gp_31_148 ?_
              refine z_bret1 gi_31_149 gr_31 ?_
              have ex : opd c o (pE c n 0 (o + 1)) (pE c n 5 (o + 1)) a = (pE c n 5 (o + 1) (a + 1)) := by
                unfold opd
                rw [if_neg (show ¬ dg (c a) by omega), if_neg (show ¬ nmd (c a) by omega), if_pos (show (c a = 40 ∨ c a = 33 ∨ c a = 45) ∧ o < 6 by omega), if_neg (show ¬ c a = 40 by omega), if_neg (by rw [ok]; decide)]
              rw [ex]
              exact ⟨⟨zK_t hJ2 k5, e5.trans h22, fun j hj => ⟨(b5 j (by omega)).1.trans (hke2 j hj).1, (b5 j (by omega)).2.trans (hke2 j hj).2⟩, rfl, rfl⟩, Or.inr ⟨ok, ⟨by omega, r5.2⟩, Or.inr ⟨rfl, qd⟩⟩⟩
          · refine z_pushJ gp_31_67 ?_
            refine z_bret0 gi_31_68 gr_31 ?_
            have ex : opd c o (pE c n 0 (o + 1)) (pE c n 5 (o + 1)) a = (false, a, []) := by
              unfold opd
              rw [if_neg (show ¬ dg (c a) by omega), if_neg (show ¬ nmd (c a) by omega), if_neg (by omega)]
            rw [ex]
            exact ⟨⟨zK_r, hat, fun j _ => ⟨rfl, rfl⟩, rfl, rfl⟩, Or.inr ⟨rfl, by rw [hkk]; omega, Or.inl rfl⟩⟩
        · refine z_iload2 gi_31_55 ?_
          refine z_pushJ gp_31_56 ?_
          refine z_icmp_ne gi_31_58 (by omega) zr_45 (fun h10 => ?_) (fun h10 => ?_)
          · refine z_pushJ gp_31_67 ?_
            refine z_bret0 gi_31_68 gr_31 ?_
            have ex : opd c o (pE c n 0 (o + 1)) (pE c n 5 (o + 1)) a = (false, a, []) := by
              unfold opd
              rw [if_neg (show ¬ dg (c a) by omega), if_neg (show ¬ nmd (c a) by omega), if_neg (by omega)]
            rw [ex]
            exact ⟨⟨zK_r, hat, fun j _ => ⟨rfl, rfl⟩, rfl, rfl⟩, Or.inr ⟨rfl, by rw [hkk]; omega, Or.inl rfl⟩⟩
          · refine z_iload1 gi_31_61 ?_
            refine z_pushJ gp_31_62 ?_
            refine z_icmp_lt gi_31_64 (by omega) zr_6 (fun h11 => ?_) (fun h11 => ?_)
            · refine z_aload0 gi_31_69 ?_
              refine z_dup gi_31_70 rfl ?_
              refine z_getI (v := a) gi_31_71 gk_1 (hat) ?_
              refine z_pushJ gp_31_74 ?_
              refine z_iadd (e := a + 1) gi_31_75 rfl ?_
              refine z_putI (y := 2) gi_31_76 rfl gk_1 ?_
              refine z_iload2 gi_31_79 ?_
              refine z_pushJ gp_31_80 ?_
              refine z_icmp_neT gi_31_82 (by omega) zr_40 (by omega) ?_
              refine z_aload0 gi_31_119 ?_
              refine z_iload1 gi_31_120 ?_
              refine z_pushJ gp_31_121 ?_
              refine z_iadd (e := o + 1) gi_31_122 rfl ?_
              have ha2 := tp_lt ht (show ¬ c a = -1 by omega)
              have gx := (pE_g ht n 5 (o + 1) (a + 1) (by omega) (by omega)).1
              have gl : (pE c n 5 (o + 1) (a + 1)).1 = true → ((pE c n 5 (o + 1) (a + 1)).2.2.length : Int) ≤ (pE c n 5 (o + 1) (a + 1)).2.1 - (a + 1) := fun t => ((pE_g ht n 5 (o + 1) (a + 1) (by omega) (by omega)).2 t).1.2.1
              refine z_callV (As := [_]) _ gi_31_123 rfl rfl (Nat.le_of_ble_eq_true rfl) (Nat.le_of_ble_eq_true rfl) (ih31 (o + 1) (a + 1) k _ _ (by omega) (zK_x (a := 1) (x := 2) (v := a + 1) hJ rfl) zU_e (by omega) ((zU_x (by decide)).trans hkk) (by omega) (by omega)) (fun r J2 M2 R2 hr => ?_)
              obtain ⟨⟨hk2, h22, hke, eM, eR⟩, hr⟩ := hr
              obtain rfl : M = M2 := eM.symm
              obtain rfl : R = R2 := eR.symm
              have hJ2 : zK (kL [3, 4] [(1, 2), (1, 8)]) J J2 := zK_t (zK_x (a := 1) (x := 2) (v := a + 1) zK_r rfl) hk2
              have hJ3 : zK (kL [3, 4] [(1, 2), (1, 8)]) A J2 := zK_t hJ hJ2
              have hb0 : ∀ j, j < k → (zU J 1 2 (a + 1)) 3 j = J 3 j ∧ (zU J 1 2 (a + 1)) 4 j = J 4 j := fun j hj => ⟨(zU_n (by decide)).trans (rfl), (zU_n (by decide)).trans (rfl)⟩
              have hke2 : ∀ j, j < k → J2 3 j = J 3 j ∧ J2 4 j = J 4 j := fun j hj => ⟨(hke j hj).1.trans (hb0 j hj).1, (hke j hj).2.trans (hb0 j hj).2⟩
              rcases hr with ⟨ok, rfl, h28, hl⟩ | ⟨ok, h28, rfl | ⟨rfl, qd⟩⟩
              · show zW _ _ _ _ _ (_ :: _) _ _ _ _
                refine z_if_neT gi_31_126 zr_1 (by decide) ?_
                refine z_aload0 gi_31_131 ?_
                refine z_iload2 gi_31_132 ?_
                refine z_pushJ gp_31_133 ?_
                refine z_icmp_neF gi_31_135 (by omega) zr_45 (by omega) ?_
                refine z_pushJ gp_31_138 ?_
                refine z_goto gi_31_140 ?_
                refine z_pushJ gp_31_144 ?_
                have gl2 := gl ok
                refine z_callVx (As := [_, _]) gi_31_145 rfl gk_1 (Nat.le_of_ble_eq_true rfl) (Nat.le_of_ble_eq_true rfl) (addCode_b (k := k + ((pE c n 5 (o + 1) (a + 1)).2.2.length : Int)) (s := 95) (v := 0) hds hdv h28 (by omega)) ?_
                show zW _ _ _ _ _ _ _ _ _ _
                refine z_pushJ gp_31_148 ?_
                refine z_bret1 gi_31_149 gr_31 ?_
                have ex : opd c o (pE c n 0 (o + 1)) (pE c n 5 (o + 1)) a = (true, (pE c n 5 (o + 1) (a + 1)).2.1, (pE c n 5 (o + 1) (a + 1)).2.2 ++ [(95, 0)]) := by
                  unfold opd
                  rw [if_neg (show ¬ dg (c a) by omega), if_neg (show ¬ nmd (c a) by omega), if_pos (show (c a = 40 ∨ c a = 33 ∨ c a = 45) ∧ o < 6 by omega), if_neg (show ¬ c a = 40 by omega), if_pos ok, if_pos (show c a = 45 by omega)]
                rw [ex]
                refine ⟨⟨(zK_x (a := 1) (x := 8) (v := (k + ((pE c n 5 (o + 1) (a + 1)).2.2.length : Int) + 1)) (zK_x (a := 4) (x := (k + ((pE c n 5 (o + 1) (a + 1)).2.2.length : Int))) (v := 0) (zK_x (a := 3) (x := (k + ((pE c n 5 (o + 1) (a + 1)).2.2.length : Int))) (v := 95) hJ2 rfl) rfl) rfl), (zU_x (by decide)).trans ((zU_n (by decide)).trans ((zU_n (by decide)).trans (h22))), fun j hj => ⟨(zU_n (by decide)).trans ((zU_n (by decide)).trans ((zU_x (by omega)).trans ((hke2 j hj).1))), (zU_n (by decide)).trans ((zU_x (by omega)).trans ((zU_n (by decide)).trans ((hke2 j hj).2)))⟩, rfl, rfl⟩, Or.inl ⟨rfl, rfl, ?_, lay_app _ _ k (lay_keep _ k _ hl (Int.le_refl _) (fun j hj => ⟨(zU_n (by decide)).trans ((zU_n (by decide)).trans (zU_x (by omega))), (zU_n (by decide)).trans ((zU_x (by omega)).trans (zU_n (by decide)))⟩)) ⟨⟨(zU_n (by decide)).trans ((zU_n (by decide)).trans zU_e), (zU_n (by decide)).trans zU_e⟩, trivial⟩⟩⟩
                refine zU_e.trans ?_
                rw [List.length_append, List.length_singleton]
                omega
              · show zW _ _ _ _ _ (_ :: _) _ _ _ _
                refine z_if_neF gi_31_126 zr_0 (by decide) ?_
                refine z_pushJ gp_31_129 ?_
                refine z_bret0 gi_31_130 gr_31 ?_
                have ex : opd c o (pE c n 0 (o + 1)) (pE c n 5 (o + 1)) a = (pE c n 5 (o + 1) (a + 1)) := by
                  unfold opd
                  rw [if_neg (show ¬ dg (c a) by omega), if_neg (show ¬ nmd (c a) by omega), if_pos (show (c a = 40 ∨ c a = 33 ∨ c a = 45) ∧ o < 6 by omega), if_neg (show ¬ c a = 40 by omega), if_neg (by rw [ok]; decide)]
                rw [ex]
                exact ⟨⟨hJ2, h22, fun j hj => ⟨(hke2 j hj).1, (hke2 j hj).2⟩, rfl, rfl⟩, Or.inr ⟨ok, h28, Or.inl rfl⟩⟩
              · show zW _ _ _ _ _ (_ :: _) _ _ _ _
                refine z_if_neT gi_31_126 zr_1 (by decide) ?_
                refine z_aload0 gi_31_131 ?_
                refine z_iload2 gi_31_132 ?_
                refine z_pushJ gp_31_133 ?_
                refine z_icmp_neF gi_31_135 (by omega) zr_45 (by omega) ?_
                refine z_pushJ gp_31_138 ?_
                refine z_goto gi_31_140 ?_
                refine z_pushJ gp_31_144 ?_
                refine z_callV (As := [_, _]) _ gi_31_145 rfl rfl (Nat.le_of_ble_eq_true rfl) (Nat.le_of_ble_eq_true rfl) (addAny_b (J := J2) hds hdv rfl (by omega)) (fun r J5 M5 R5 h5 => ?_)
                obtain ⟨rfl, k5, e5, b5, r5, eM5, eR5⟩ := h5
                obtain rfl : M = M5 := eM5.symm
                obtain rfl : R = R5 := eR5.symm
                show zW _ _ _ _ _ _ _ _ _ _
                refine z_pushJ gp_31_148 ?_
                refine z_bret1 gi_31_149 gr_31 ?_
                have ex : opd c o (pE c n 0 (o + 1)) (pE c n 5 (o + 1)) a = (pE c n 5 (o + 1) (a + 1)) := by
                  unfold opd
                  rw [if_neg (show ¬ dg (c a) by omega), if_neg (show ¬ nmd (c a) by omega), if_pos (show (c a = 40 ∨ c a = 33 ∨ c a = 45) ∧ o < 6 by omega), if_neg (show ¬ c a = 40 by omega), if_neg (by rw [ok]; decide)]
                rw [ex]
                exact ⟨⟨zK_t hJ2 k5, e5.trans h22, fun j hj => ⟨(b5 j (by omega)).1.trans (hke2 j hj).1, (b5 j (by omega)).2.trans (hke2 j hj).2⟩, rfl, rfl⟩, Or.inr ⟨ok, ⟨by omega, r5.2⟩, Or.inr ⟨rfl, qd⟩⟩⟩
            · refine z_pushJ gp_31_67 ?_
              refine z_bret0 gi_31_68 gr_31 ?_
              have ex : opd c o (pE c n 0 (o + 1)) (pE c n 5 (o + 1)) a = (false, a, []) := by
                unfold opd
                rw [if_neg (show ¬ dg (c a) by omega), if_neg (show ¬ nmd (c a) by omega), if_neg (by omega)]
              rw [ex]
              exact ⟨⟨zK_r, hat, fun j _ => ⟨rfl, rfl⟩, rfl, rfl⟩, Or.inr ⟨rfl, by rw [hkk]; omega, Or.inl rfl⟩⟩
    · have ha3 := tp_lt ht (show ¬ c a = -1 by omega)
      refine z_aload0 gi_31_25 ?_
      refine z_dup gi_31_26 rfl ?_
      refine z_getI (v := a) gi_31_27 gk_1 (hat) ?_
      refine z_pushJ gp_31_30 ?_
      refine z_iadd (e := a + 1) gi_31_31 rfl ?_
      refine z_putI (y := 2) gi_31_32 rfl gk_1 ?_
      refine z_aload0 gi_31_35 ?_
      refine z_iload2 gi_31_36 ?_
      refine z_pushJ gp_31_37 ?_
      refine z_callVx (As := [_, _]) gi_31_38 rfl gk_1 (Nat.le_of_ble_eq_true rfl) (Nat.le_of_ble_eq_true rfl) (addCode_b (k := k) (s := c (a)) (v := 0) hds hdv (by exact (zU_x (by decide)).trans (hkk)) (by omega)) ?_
      show zW _ _ _ _ _ _ _ _ _ _
      refine z_pushJ gp_31_41 ?_
      refine z_bret1 gi_31_42 gr_31 ?_
      have ex : opd c o (pE c n 0 (o + 1)) (pE c n 5 (o + 1)) a = (true, a + 1, [(c a, 0)]) := by
        unfold opd
        rw [if_neg (show ¬ dg (c a) by omega), if_pos (show nmd (c a) by omega)]
      rw [ex]
      exact ⟨⟨(zK_x (a := 1) (x := 8) (v := k + 1) (zK_x (a := 4) (x := k) (v := 0) (zK_x (a := 3) (x := k) (v := c (a)) (zK_x (a := 1) (x := 2) (v := a + 1) zK_r rfl) rfl) rfl) rfl), (zU_x (by decide)).trans ((zU_n (by decide)).trans ((zU_n (by decide)).trans (zU_e))), fun j hj => ⟨(zU_n (by decide)).trans ((zU_n (by decide)).trans ((zU_x (by omega)).trans ((zU_n (by decide)).trans (rfl)))), (zU_n (by decide)).trans ((zU_x (by omega)).trans ((zU_n (by decide)).trans ((zU_n (by decide)).trans (rfl))))⟩, rfl, rfl⟩, Or.inl ⟨rfl, rfl, zU_e, ⟨⟨(zU_n (by decide)).trans ((zU_n (by decide)).trans (zU_e)), (zU_n (by decide)).trans (zU_e)⟩, trivial⟩⟩⟩
  · refine z_aload0 gi_31_12 ?_
    refine z_callVx (As := []) gi_31_13 rfl gk_1 (Nat.le_of_ble_eq_true rfl) (Nat.le_of_ble_eq_true rfl) (readNumber_b hds hdv hR hf hc ht hJ hat ha hkk (by omega)) ?_
    show zW _ _ _ _ _ _ _ _ _ _
    refine z_pushJ gp_31_16 ?_
    refine z_bret1 gi_31_17 gr_31 ?_
    by_cases qd : dg (c (nu c 4 a 0).1)
    · have ex : opd c o (pE c n 0 (o + 1)) (pE c n 5 (o + 1)) a = (false, (nu c 4 a 0).1, []) := by
        unfold opd
        rw [if_pos (show dg (c a) by omega), if_pos qd]
      rw [ex]
      refine ⟨⟨(zK_x (a := 1) (x := 8) (v := k + 1) (zK_x (a := 4) (x := k) (v := (nu c 4 a 0).2) (zK_x (a := 3) (x := k) (v := 48) (zK_x (a := 1) (x := 2) (v := (nu c 4 a 0).1) zK_r rfl) rfl) rfl) rfl), (zU_x (by decide)).trans ((zU_n (by decide)).trans ((zU_n (by decide)).trans (zU_e))), fun j hj => ⟨(zU_n (by decide)).trans ((zU_n (by decide)).trans ((zU_x (by omega)).trans ((zU_n (by decide)).trans (rfl)))), (zU_n (by decide)).trans ((zU_x (by omega)).trans ((zU_n (by decide)).trans ((zU_n (by decide)).trans (rfl))))⟩, rfl, rfl⟩, Or.inr ⟨rfl, ?_, Or.inr ⟨rfl, qd⟩⟩⟩
      rw [zU_e]
      omega
    · have ex : opd c o (pE c n 0 (o + 1)) (pE c n 5 (o + 1)) a = (true, (nu c 4 a 0).1, [(48, (nu c 4 a 0).2)]) := by
        unfold opd
        rw [if_pos (show dg (c a) by omega), if_neg qd]
      rw [ex]
      exact ⟨⟨(zK_x (a := 1) (x := 8) (v := k + 1) (zK_x (a := 4) (x := k) (v := (nu c 4 a 0).2) (zK_x (a := 3) (x := k) (v := 48) (zK_x (a := 1) (x := 2) (v := (nu c 4 a 0).1) zK_r rfl) rfl) rfl) rfl), (zU_x (by decide)).trans ((zU_n (by decide)).trans ((zU_n (by decide)).trans (zU_e))), fun j hj => ⟨(zU_n (by decide)).trans ((zU_n (by decide)).trans ((zU_x (by omega)).trans ((zU_n (by decide)).trans (rfl)))), (zU_n (by decide)).trans ((zU_x (by omega)).trans ((zU_n (by decide)).trans ((zU_n (by decide)).trans (rfl))))⟩, rfl, rfl⟩, Or.inl ⟨rfl, rfl, zU_e, ⟨⟨(zU_n (by decide)).trans ((zU_n (by decide)).trans (zU_e)), (zU_n (by decide)).trans (zU_e)⟩, trivial⟩⟩⟩
theorem lpb {X : Nat × (Nat → Int32)} {M : zA} {R : zR} (hds : R 1 6 = some 3) (hdv : R 1 7 = some 4) (hR : zRok R) {A : zA} {c : Int → Int} {f : Int} (hf : A 1 1 = f) (hc : ∀ i, 0 ≤ i → i < f → A 2 i = c i) (ht : tp c f) {n : Nat} (ih30 : (∀ (r o a k : Int) (D : Nat) (J : zA), pK n r o → zK (kL [3, 4] [(1, 2), (1, 8)]) A J → J 1 2 = a → (0 ≤ a ∧ a ≤ f) → J 1 8 = k → (0 ≤ k ∧ k ≤ a) → 2 * n + 9 ≤ D → zW X D 30 0 (gEn 30 [.ref 1, zi r, zi o]) [] J M R (rdb c k (pE c n r o a) J M R))) {r o most : Int} (hr : 0 ≤ r ∧ r ≤ 4) (hkr : pK n (r + 1) o) (hmo : 0 ≤ most ∧ most ≤ 200) : ∀ (m : Nat) (i p k : Int) (e5 : Option Value) (D : Nat) (J : zA), i + m = most → 0 ≤ i → zK (kL [3, 4] [(1, 2), (1, 8)]) A J → J 1 2 = p → (0 ≤ p ∧ p ≤ f) → J 1 8 = k → (0 ≤ k ∧ k ≤ p) → 2 * n + 10 ≤ D → zW X D 30 39 [some (.ref 1), some (zi r), some (zi o), some (zi most), some (zi i), e5] [] J M R (rdb c k (pL (pE c n (r + 1) o) c r m p) J M R) := by
  intro m
  induction m with
  | zero =>
    intro i p k e5 D J him hi hJ hat hp hkk hk0 hD
    refine z_iload rfl rfl ?_
    refine z_iload rfl rfl ?_
    refine z_icmp_geT rfl (by omega) (by omega) (by omega) ?_
    refine z_pushI (z := 1) rfl rfl ?_
    exact z_bret rfl rfl (by decide) ⟨⟨zK_r, hat, fun j _ => ⟨rfl, rfl⟩, rfl, rfl⟩, Or.inl ⟨rfl, rfl, hkk.trans (by show k = k + ((0 : Nat) : Int); omega), trivial⟩⟩
  | succ j ih =>
    intro i p k e5 D J him hi hJ hat hp hkk hk0 hD
    obtain ⟨D, rfl⟩ : ∃ e, D = e + 5 := ⟨D - 5, by omega⟩
    have tf := ht.1
    refine z_iload4 gi_30_39 ?_
    refine z_iload3 gi_30_41 ?_
    refine z_icmp_geF gi_30_42 (by omega) (by omega) (by omega) ?_
    refine z_aload0 gi_30_45 ?_
    refine z_callVP (As := []) (v := c (p)) gi_30_46 rfl gk_1 (Nat.le_of_ble_eq_true rfl) (Nat.le_of_ble_eq_true rfl) (here_b hds hdv hR hf hc ht hJ hat (by omega)) ?_
    have q1 := tp_r ht (p) (by omega)
    refine z_callSP (As := [_]) (v := rk (c (p))) gi_30_49 rfl (Nat.le_of_ble_eq_true rfl) (Nat.le_of_ble_eq_true rfl) (rankOf_k (by omega)) ?_
    have q2 := rk_r (c (p))
    refine z_iload1 gi_30_52 ?_
    refine z_icmp_ne gi_30_53 (by omega) (by omega) (fun h3 => ?_) (fun h3 => ?_)
    · refine z_pushJ gp_30_98 ?_
      refine z_bret1 gi_30_99 gr_30 ?_
      rw [pL_n (by omega)]
      exact ⟨⟨zK_r, hat, fun j _ => ⟨rfl, rfl⟩, rfl, rfl⟩, Or.inl ⟨rfl, rfl, hkk.trans (by show k = k + ((0 : Nat) : Int); omega), trivial⟩⟩
    · refine z_aload0 gi_30_56 ?_
      refine z_callVP (As := []) (v := c (p)) gi_30_57 rfl gk_1 (Nat.le_of_ble_eq_true rfl) (Nat.le_of_ble_eq_true rfl) (here_b hds hdv hR hf hc ht hJ hat (by omega)) ?_
      have q4 := tp_r ht (p) (by omega)
      refine z_istore (ls1 := [some (.ref 1), some (zi r), some (zi o), some (zi most), some (zi i), some (zi (c (p)))]) gi_30_60 rfl ?_
      have ha3 := tp_lt ht (rk_n (s := c p) (by omega)).1
      refine z_aload0 gi_30_62 ?_
      refine z_dup gi_30_63 rfl ?_
      refine z_getI (v := p) gi_30_64 gk_1 (hat) ?_
      refine z_pushJ gp_30_67 ?_
      refine z_iadd (e := p + 1) gi_30_68 rfl ?_
      refine z_putI (y := 2) gi_30_69 rfl gk_1 ?_
      refine z_aload0 gi_30_72 ?_
      refine z_iload1 gi_30_73 ?_
      refine z_pushJ gp_30_74 ?_
      refine z_iadd (e := r + 1) gi_30_75 rfl ?_
      refine z_iload2 gi_30_76 ?_
      have ha2 := tp_lt ht (rk_n (s := c p) (by omega)).1
      have hq : rk (c p) = r := by omega
      have gx := (pE_g ht n (r + 1) o (p + 1) hkr (by omega)).1
      refine z_callV (As := [_, _]) _ gi_30_77 rfl rfl (Nat.le_of_ble_eq_true rfl) (Nat.le_of_ble_eq_true rfl) (ih30 (r + 1) o (p + 1) k _ _ hkr (zK_x (a := 1) (x := 2) (v := p + 1) hJ rfl) zU_e (by omega) ((zU_x (by decide)).trans hkk) (by omega) (by omega)) (fun r J2 M2 R2 hr => ?_)
      obtain ⟨⟨hk2, h22, hke, eM, eR⟩, hr⟩ := hr
      obtain rfl : M = M2 := eM.symm
      obtain rfl : R = R2 := eR.symm
      have hJ2 : zK (kL [3, 4] [(1, 2), (1, 8)]) J J2 := zK_t (zK_x (a := 1) (x := 2) (v := p + 1) zK_r rfl) hk2
      have hJ3 : zK (kL [3, 4] [(1, 2), (1, 8)]) A J2 := zK_t hJ hJ2
      have hb0 : ∀ j, j < k → (zU J 1 2 (p + 1)) 3 j = J 3 j ∧ (zU J 1 2 (p + 1)) 4 j = J 4 j := fun j hj => ⟨(zU_n (by decide)).trans (rfl), (zU_n (by decide)).trans (rfl)⟩
      have hke2 : ∀ j, j < k → J2 3 j = J 3 j ∧ J2 4 j = J 4 j := fun j hj => ⟨(hke j hj).1.trans (hb0 j hj).1, (hke j hj).2.trans (hb0 j hj).2⟩
      rcases hr with ⟨ok, rfl, h28, hl⟩ | ⟨ok, h28, rfl | ⟨rfl, qd⟩⟩
      · show zW _ _ _ _ _ (_ :: _) _ _ _ _
        refine z_if_neT gi_30_80 zr_1 (by decide) ?_
        refine z_aload0 gi_30_85 ?_
        refine z_iload5 gi_30_86 ?_
        refine z_pushJ gp_30_88 ?_
        have gl2 := ((pE_g ht n (r + 1) o (p + 1) hkr (by omega)).2 ok).1.2.1
        refine z_callVx (As := [_, _]) gi_30_89 rfl gk_1 (Nat.le_of_ble_eq_true rfl) (Nat.le_of_ble_eq_true rfl) (addCode_b (k := k + ((pE c n (r + 1) o (p + 1)).2.2.length : Int)) (s := c p) (v := 0) hds hdv h28 (by omega)) ?_
        show zW _ _ _ _ _ _ _ _ _ _
        refine z_iinc (c := 1) (e := i + 1) (ls1 := [some (.ref 1), some (zi r), some (zi o), some (zi most), some (zi (i + 1)), some (zi (c (p)))]) gi_30_92 rfl rfl rfl rfl ?_
        refine z_goto gi_30_95 ?_
        show zW _ _ _ _ [some (.ref 1), some (zi r), some (zi o), some (zi most), some (zi (i + 1)), some (zi (c (p)))] [] _ _ _ _
        have hl2 : lay (zU (zU (zU J2 3 (k + ((pE c n (r + 1) o (p + 1)).2.2.length : Int)) (c p)) 4 (k + ((pE c n (r + 1) o (p + 1)).2.2.length : Int)) 0) 1 8 (k + ((pE c n (r + 1) o (p + 1)).2.2.length : Int) + 1)) 3 4 k ((pE c n (r + 1) o (p + 1)).2.2 ++ [(c p, 0)]) := lay_app _ _ k (lay_keep _ k _ hl (Int.le_refl _) (fun j hj => ⟨(zU_n (by decide)).trans ((zU_n (by decide)).trans (zU_x (by omega))), (zU_n (by decide)).trans ((zU_x (by omega)).trans (zU_n (by decide)))⟩)) ⟨⟨(zU_n (by decide)).trans ((zU_n (by decide)).trans zU_e), (zU_n (by decide)).trans zU_e⟩, trivial⟩
        have e1 : k + ((pE c n (r + 1) o (p + 1)).2.2.length : Int) + 1 = k + (((pE c n (r + 1) o (p + 1)).2.2 ++ [(c p, 0)]).length : Int) := by rw [List.length_append, List.length_singleton]; omega
        have hz := ih (i + 1) (pE c n (r + 1) o (p + 1)).2.1 (k + (((pE c n (r + 1) o (p + 1)).2.2 ++ [(c p, 0)]).length : Int)) (some (zi (c p))) (D + 5) (zU (zU (zU J2 3 (k + ((pE c n (r + 1) o (p + 1)).2.2.length : Int)) (c p)) 4 (k + ((pE c n (r + 1) o (p + 1)).2.2.length : Int)) 0) 1 8 (k + ((pE c n (r + 1) o (p + 1)).2.2.length : Int) + 1)) (by omega) (by omega) (zK_x (a := 1) (x := 8) (v := (k + ((pE c n (r + 1) o (p + 1)).2.2.length : Int) + 1)) (zK_x (a := 4) (x := (k + ((pE c n (r + 1) o (p + 1)).2.2.length : Int))) (v := 0) (zK_x (a := 3) (x := (k + ((pE c n (r + 1) o (p + 1)).2.2.length : Int))) (v := c p) hJ3 rfl) rfl) rfl) ((zU_x (by decide)).trans ((zU_n (by decide)).trans ((zU_n (by decide)).trans (h22)))) (by omega) (zU_e.trans e1) (by omega) hD
        rw [pL_t hq ok, show (pE c n (r + 1) o (p + 1)).2.2 ++ (c p, 0) :: (pL (pE c n (r + 1) o) c r j (pE c n (r + 1) o (p + 1)).2.1).2.2 = ((pE c n (r + 1) o (p + 1)).2.2 ++ [(c p, 0)]) ++ (pL (pE c n (r + 1) o) c r j (pE c n (r + 1) o (p + 1)).2.1).2.2 by rw [List.append_assoc]; rfl]
        exact zW_m hz (fun r6 J6 M6 R6 h => rdcb ((zK_x (a := 1) (x := 8) (v := (k + ((pE c n (r + 1) o (p + 1)).2.2.length : Int) + 1)) (zK_x (a := 4) (x := (k + ((pE c n (r + 1) o (p + 1)).2.2.length : Int))) (v := 0) (zK_x (a := 3) (x := (k + ((pE c n (r + 1) o (p + 1)).2.2.length : Int))) (v := c p) hJ2 rfl) rfl) rfl)) (fun j hj => ⟨(zU_n (by decide)).trans ((zU_n (by decide)).trans ((zU_x (by omega)).trans ((hke2 j hj).1))), (zU_n (by decide)).trans ((zU_x (by omega)).trans ((zU_n (by decide)).trans ((hke2 j hj).2)))⟩) hl2 h)
      · show zW _ _ _ _ _ (_ :: _) _ _ _ _
        refine z_if_neF gi_30_80 zr_0 (by decide) ?_
        refine z_pushJ gp_30_83 ?_
        refine z_bret0 gi_30_84 gr_30 ?_
        rw [pL_f hq ok]
        exact ⟨⟨hJ2, h22, hke2, rfl, rfl⟩, Or.inr ⟨ok, h28, Or.inl rfl⟩⟩
      · show zW _ _ _ _ _ (_ :: _) _ _ _ _
        refine z_if_neT gi_30_80 zr_1 (by decide) ?_
        refine z_aload0 gi_30_85 ?_
        refine z_iload5 gi_30_86 ?_
        refine z_pushJ gp_30_88 ?_
        refine z_callV (As := [_, _]) _ gi_30_89 rfl rfl (Nat.le_of_ble_eq_true rfl) (Nat.le_of_ble_eq_true rfl) (addAny_b (J := J2) hds hdv rfl (by omega)) (fun r J5 M5 R5 h5 => ?_)
        obtain ⟨rfl, k5, e5, b5, r5, eM5, eR5⟩ := h5
        obtain rfl : M = M5 := eM5.symm
        obtain rfl : R = R5 := eR5.symm
        show zW _ _ _ _ _ _ _ _ _ _
        refine z_iinc (c := 1) (e := i + 1) (ls1 := [some (.ref 1), some (zi r), some (zi o), some (zi most), some (zi (i + 1)), some (zi (c (p)))]) gi_30_92 rfl rfl rfl rfl ?_
        refine z_goto gi_30_95 ?_
        show zW _ _ _ _ [some (.ref 1), some (zi r), some (zi o), some (zi most), some (zi (i + 1)), some (zi (c (p)))] [] _ _ _ _
        refine z_iload4 gi_30_39 ?_
        refine z_iload3 gi_30_41 ?_
        refine z_icmp_ge gi_30_42 (by omega) (by omega) (fun h5 => ?_) (fun h5 => ?_)
        · refine z_pushJ gp_30_98 ?_
          refine z_bret1 gi_30_99 gr_30 ?_
          rw [pL_f hq ok]
          exact ⟨⟨zK_t hJ2 k5, e5.trans h22, fun j hj => ⟨(b5 j (by omega)).1.trans (hke2 j hj).1, (b5 j (by omega)).2.trans (hke2 j hj).2⟩, rfl, rfl⟩, Or.inr ⟨ok, ⟨by omega, r5.2⟩, Or.inr ⟨rfl, qd⟩⟩⟩
        · refine z_aload0 gi_30_45 ?_
          refine z_callVP (As := []) (v := c ((pE c n (r + 1) o (p + 1)).2.1)) gi_30_46 rfl gk_1 (Nat.le_of_ble_eq_true rfl) (Nat.le_of_ble_eq_true rfl) (here_b hds hdv hR hf hc ht (zK_t hJ3 k5) (e5.trans h22) (by omega)) ?_
          have q6 := tp_r ht ((pE c n (r + 1) o (p + 1)).2.1) (by omega)
          refine z_callSP (As := [_]) (v := rk (c ((pE c n (r + 1) o (p + 1)).2.1))) gi_30_49 rfl (Nat.le_of_ble_eq_true rfl) (Nat.le_of_ble_eq_true rfl) (rankOf_k (by omega)) ?_
          have q7 := rk_dg qd
          refine z_iload1 gi_30_52 ?_
          refine z_icmp_neT gi_30_53 (by omega) (by omega) (by omega) ?_
          refine z_pushJ gp_30_98 ?_
          refine z_bret1 gi_30_99 gr_30 ?_
          rw [pL_f hq ok]
          exact ⟨⟨zK_t hJ2 k5, e5.trans h22, fun j hj => ⟨(b5 j (by omega)).1.trans (hke2 j hj).1, (b5 j (by omega)).2.trans (hke2 j hj).2⟩, rfl, rfl⟩, Or.inr ⟨ok, ⟨by omega, r5.2⟩, Or.inr ⟨rfl, qd⟩⟩⟩
theorem rdvb {c : Int → Int} {k : Int} {y : rs} {J M J2 M2 : zA} {R R2 : zR} {r : Option Value} (h : rdb c k y J M R r J2 M2 R2) : ∃ v : Int, r = some (zi v) ∧ (v = 0 ∨ v = 1) := by
  rcases h.2 with ⟨_, h, _⟩ | ⟨_, _, h | h⟩
  · exact ⟨1, h, Or.inr rfl⟩
  · exact ⟨0, h, Or.inl rfl⟩
  · exact ⟨1, h.1, Or.inr rfl⟩
theorem chb {X : Nat × (Nat → Int32)} {M : zA} {R : zR} (hds : R 1 6 = some 3) (hdv : R 1 7 = some 4) (hR : zRok R) {A : zA} {c : Int → Int} {f : Int} (hf : A 1 1 = f) (hc : ∀ i, 0 ≤ i → i < f → A 2 i = c i) (ht : tp c f) {n : Nat} (h31 : (∀ (o a k : Int) (D : Nat) (J : zA), pK (n + 1) 5 o → zK (kL [3, 4] [(1, 2), (1, 8)]) A J → J 1 2 = a → (0 ≤ a ∧ a ≤ f) → J 1 8 = k → (0 ≤ k ∧ k ≤ a) → 2 * (n + 1) + 8 ≤ D → zW X D 31 0 (gEn 31 [.ref 1, zi o]) [] J M R (rdb c k (pE c (n + 1) 5 o a) J M R))) (ih30 : (∀ (r o a k : Int) (D : Nat) (J : zA), pK n r o → zK (kL [3, 4] [(1, 2), (1, 8)]) A J → J 1 2 = a → (0 ≤ a ∧ a ≤ f) → J 1 8 = k → (0 ≤ k ∧ k ≤ a) → 2 * n + 9 ≤ D → zW X D 30 0 (gEn 30 [.ref 1, zi r, zi o]) [] J M R (rdb c k (pE c n r o a) J M R))) : (∀ (r o a k : Int) (D : Nat) (J : zA), pK (n + 1) r o → zK (kL [3, 4] [(1, 2), (1, 8)]) A J → J 1 2 = a → (0 ≤ a ∧ a ≤ f) → J 1 8 = k → (0 ≤ k ∧ k ≤ a) → 2 * (n + 1) + 9 ≤ D → zW X D 30 0 (gEn 30 [.ref 1, zi r, zi o]) [] J M R (rdb c k (pE c (n + 1) r o a) J M R)) := by
  intro r o a k D J hk hJ hat ha hkk hk0 hD
  obtain ⟨D, rfl⟩ : ∃ e, D = e + 5 := ⟨D - 5, by omega⟩
  have tf := ht.1
  by_cases r5 : r = 5
  · subst r5
    show zW _ _ _ _ [some (.ref 1), some (zi 5), some (zi o), none, none, none] _ _ _ _ _
    refine z_iload1 gi_30_0 ?_
    refine z_pushJ gp_30_1 ?_
    refine z_icmp_leF gi_30_2 zr_5 zr_4 (by decide) ?_
    refine z_aload0 gi_30_5 ?_
    refine z_iload2 gi_30_6 ?_
    refine z_callV (As := [_]) _ gi_30_7 rfl rfl (Nat.le_of_ble_eq_true rfl) (Nat.le_of_ble_eq_true rfl) (h31 o a k _ _ hk hJ hat ha hkk hk0 (by omega)) (fun r J2 M2 R2 hr => ?_)
    obtain ⟨v, rfl, hv⟩ := rdvb hr
    show zW _ _ _ _ _ (_ :: _) _ _ _ _
    refine z_bret gi_30_10 gr_30 (by omega) ?_
    exact hr
  · show zW _ _ _ _ [some (.ref 1), some (zi r), some (zi o), none, none, none] _ _ _ _ _
    refine z_iload1 gi_30_0 ?_
    refine z_pushJ gp_30_1 ?_
    refine z_icmp_leT gi_30_2 (by omega) zr_4 (by omega) ?_
    refine z_aload0 gi_30_11 ?_
    refine z_iload1 gi_30_12 ?_
    refine z_pushJ gp_30_13 ?_
    refine z_iadd (e := r + 1) gi_30_14 rfl ?_
    refine z_iload2 gi_30_15 ?_
    have gx := (pE_g ht n (r + 1) o a (by omega) ha).1
    refine z_callV (As := [_, _]) _ gi_30_16 rfl rfl (Nat.le_of_ble_eq_true rfl) (Nat.le_of_ble_eq_true rfl) (ih30 (r + 1) o a k _ _ (by omega) hJ hat ha hkk hk0 (by omega)) (fun r J2 M2 R2 hr => ?_)
    obtain ⟨⟨hk2, h22, hke, eM, eR⟩, hr⟩ := hr
    obtain rfl : M = M2 := eM.symm
    obtain rfl : R = R2 := eR.symm
    have hJ2 : zK (kL [3, 4] [(1, 2), (1, 8)]) J J2 := zK_t zK_r hk2
    have hJ3 : zK (kL [3, 4] [(1, 2), (1, 8)]) A J2 := zK_t hJ hJ2
    have hb0 : ∀ j, j < k → J 3 j = J 3 j ∧ J 4 j = J 4 j := fun j hj => ⟨rfl, rfl⟩
    have hke2 : ∀ j, j < k → J2 3 j = J 3 j ∧ J2 4 j = J 4 j := fun j hj => ⟨(hke j hj).1.trans (hb0 j hj).1, (hke j hj).2.trans (hb0 j hj).2⟩
    rcases hr with ⟨ok, rfl, h28, hl⟩ | ⟨ok, h28, rfl | ⟨rfl, qd⟩⟩
    · show zW _ _ _ _ _ (_ :: _) _ _ _ _
      refine z_if_neT gi_30_19 zr_1 (by decide) ?_
      refine z_iload1 gi_30_24 ?_
      refine z_pushJ gp_30_25 ?_
      refine z_icmp_ne gi_30_26 (by omega) zr_2 (fun h1 => ?_) (fun h1 => ?_)
      · refine z_pushJ gp_30_33 ?_
        refine z_istore (ls1 := [some (.ref 1), some (zi r), some (zi o), some (zi 120), none, none]) gi_30_35 rfl ?_
        refine z_pushJ gp_30_36 ?_
        refine z_istore (ls1 := [some (.ref 1), some (zi r), some (zi o), some (zi 120), some (zi 0), none]) gi_30_37 rfl ?_
        show zW _ _ _ _ [some (.ref 1), some (zi r), some (zi o), some (zi 120), some (zi 0), none] [] _ _ _ _
        rw [pE_t (by omega) ok]
        have gl2 := ((pE_g ht n (r + 1) o a (by omega) ha).2 ok).1.2.1
        have hz := lpb (X := X) (M := M) hds hdv hR hf hc ht ih30 (r := r) (o := o) (most := 120) (by omega) (by omega) (by decide) (pM r) 0 (pE c n (r + 1) o a).2.1 (k + ((pE c n (r + 1) o a).2.2.length : Int)) none (D + 5) J2 (by unfold pM; first | rw [if_pos (by omega)]; rfl | rw [if_neg (by omega)]; rfl) (by decide) hJ3 h22 (by omega) h28 (by omega) (by omega)
        exact zW_m hz (fun r6 J6 M6 R6 h => rdcb hJ2 hke2 hl h)
      · refine z_pushJ gp_30_29 ?_
        refine z_goto gi_30_30 ?_
        refine z_istore (ls1 := [some (.ref 1), some (zi r), some (zi o), some (zi 1), none, none]) gi_30_35 rfl ?_
        refine z_pushJ gp_30_36 ?_
        refine z_istore (ls1 := [some (.ref 1), some (zi r), some (zi o), some (zi 1), some (zi 0), none]) gi_30_37 rfl ?_
        show zW _ _ _ _ [some (.ref 1), some (zi r), some (zi o), some (zi 1), some (zi 0), none] [] _ _ _ _
        rw [pE_t (by omega) ok]
        have gl2 := ((pE_g ht n (r + 1) o a (by omega) ha).2 ok).1.2.1
        have hz := lpb (X := X) (M := M) hds hdv hR hf hc ht ih30 (r := r) (o := o) (most := 1) (by omega) (by omega) (by decide) (pM r) 0 (pE c n (r + 1) o a).2.1 (k + ((pE c n (r + 1) o a).2.2.length : Int)) none (D + 5) J2 (by unfold pM; first | rw [if_pos (by omega)]; rfl | rw [if_neg (by omega)]; rfl) (by decide) hJ3 h22 (by omega) h28 (by omega) (by omega)
        exact zW_m hz (fun r6 J6 M6 R6 h => rdcb hJ2 hke2 hl h)
    · show zW _ _ _ _ _ (_ :: _) _ _ _ _
      refine z_if_neF gi_30_19 zr_0 (by decide) ?_
      refine z_pushJ gp_30_22 ?_
      refine z_bret0 gi_30_23 gr_30 ?_
      rw [pE_f (by omega) ok]
      exact ⟨⟨hJ2, h22, hke2, rfl, rfl⟩, Or.inr ⟨ok, h28, Or.inl rfl⟩⟩
    · show zW _ _ _ _ _ (_ :: _) _ _ _ _
      refine z_if_neT gi_30_19 zr_1 (by decide) ?_
      refine z_iload1 gi_30_24 ?_
      refine z_pushJ gp_30_25 ?_
      refine z_icmp_ne gi_30_26 (by omega) zr_2 (fun h1 => ?_) (fun h1 => ?_)
      · refine z_pushJ gp_30_33 ?_
        refine z_istore (ls1 := [some (.ref 1), some (zi r), some (zi o), some (zi 120), none, none]) gi_30_35 rfl ?_
        refine z_pushJ gp_30_36 ?_
        refine z_istore (ls1 := [some (.ref 1), some (zi r), some (zi o), some (zi 120), some (zi 0), none]) gi_30_37 rfl ?_
        refine z_iload4 gi_30_39 ?_
        refine z_iload3 gi_30_41 ?_
        refine z_icmp_geF gi_30_42 zr_0 zr_120 (by decide) ?_
        refine z_aload0 gi_30_45 ?_
        refine z_callVP (As := []) (v := c ((pE c n (r + 1) o a).2.1)) gi_30_46 rfl gk_1 (Nat.le_of_ble_eq_true rfl) (Nat.le_of_ble_eq_true rfl) (here_b hds hdv hR hf hc ht hJ3 h22 (by omega)) ?_
        have q2 := tp_r ht ((pE c n (r + 1) o a).2.1) (by omega)
        refine z_callSP (As := [_]) (v := rk (c ((pE c n (r + 1) o a).2.1))) gi_30_49 rfl (Nat.le_of_ble_eq_true rfl) (Nat.le_of_ble_eq_true rfl) (rankOf_k (by omega)) ?_
        have q3 := rk_dg qd
        refine z_iload1 gi_30_52 ?_
        refine z_icmp_neT gi_30_53 (by omega) (by omega) (by omega) ?_
        refine z_pushJ gp_30_98 ?_
        refine z_bret1 gi_30_99 gr_30 ?_
        rw [pE_f (by omega) ok]
        exact ⟨⟨hJ2, h22, hke2, rfl, rfl⟩, Or.inr ⟨ok, h28, Or.inr ⟨rfl, qd⟩⟩⟩
      · refine z_pushJ gp_30_29 ?_
        refine z_goto gi_30_30 ?_
        refine z_istore (ls1 := [some (.ref 1), some (zi r), some (zi o), some (zi 1), none, none]) gi_30_35 rfl ?_
        refine z_pushJ gp_30_36 ?_
        refine z_istore (ls1 := [some (.ref 1), some (zi r), some (zi o), some (zi 1), some (zi 0), none]) gi_30_37 rfl ?_
        refine z_iload4 gi_30_39 ?_
        refine z_iload3 gi_30_41 ?_
        refine z_icmp_geF gi_30_42 zr_0 zr_1 (by decide) ?_
        refine z_aload0 gi_30_45 ?_
        refine z_callVP (As := []) (v := c ((pE c n (r + 1) o a).2.1)) gi_30_46 rfl gk_1 (Nat.le_of_ble_eq_true rfl) (Nat.le_of_ble_eq_true rfl) (here_b hds hdv hR hf hc ht hJ3 h22 (by omega)) ?_
        have q4 := tp_r ht ((pE c n (r + 1) o a).2.1) (by omega)
        refine z_callSP (As := [_]) (v := rk (c ((pE c n (r + 1) o a).2.1))) gi_30_49 rfl (Nat.le_of_ble_eq_true rfl) (Nat.le_of_ble_eq_true rfl) (rankOf_k (by omega)) ?_
        have q5 := rk_dg qd
        refine z_iload1 gi_30_52 ?_
        refine z_icmp_neT gi_30_53 (by omega) (by omega) (by omega) ?_
        refine z_pushJ gp_30_98 ?_
        refine z_bret1 gi_30_99 gr_30 ?_
        rw [pE_f (by omega) ok]
        exact ⟨⟨hJ2, h22, hke2, rfl, rfl⟩, Or.inr ⟨ok, h28, Or.inr ⟨rfl, qd⟩⟩⟩
theorem rdAllb {X : Nat × (Nat → Int32)} {M : zA} {R : zR} (hds : R 1 6 = some 3) (hdv : R 1 7 = some 4) (hR : zRok R) {A : zA} {c : Int → Int} {f : Int} (hf : A 1 1 = f) (hc : ∀ i, 0 ≤ i → i < f → A 2 i = c i) (ht : tp c f) : ∀ n : Nat, (∀ (o a k : Int) (D : Nat) (J : zA), pK n 5 o → zK (kL [3, 4] [(1, 2), (1, 8)]) A J → J 1 2 = a → (0 ≤ a ∧ a ≤ f) → J 1 8 = k → (0 ≤ k ∧ k ≤ a) → 2 * n + 8 ≤ D → zW X D 31 0 (gEn 31 [.ref 1, zi o]) [] J M R (rdb c k (pE c n 5 o a) J M R)) ∧ (∀ (r o a k : Int) (D : Nat) (J : zA), pK n r o → zK (kL [3, 4] [(1, 2), (1, 8)]) A J → J 1 2 = a → (0 ≤ a ∧ a ≤ f) → J 1 8 = k → (0 ≤ k ∧ k ≤ a) → 2 * n + 9 ≤ D → zW X D 30 0 (gEn 30 [.ref 1, zi r, zi o]) [] J M R (rdb c k (pE c n r o a) J M R)) := by
  intro n
  induction n with
  | zero =>
    refine ⟨?_, ?_⟩
    · intro o a k D J hk
      exfalso
      omega
    · intro r o a k D J hk
      exfalso
      omega
  | succ n ih =>
    have h31 := opb hds hdv hR hf hc ht ih.1 ih.2
    exact ⟨h31, chb hds hdv hR hf hc ht h31 ih.2⟩
