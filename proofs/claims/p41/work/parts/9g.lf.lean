theorem rop {X : Nat × (Nat → Int32)} {M : zA} {R : zR} (hR : zRoR R) {A : zA} {c : Int → Int} {f : Int} (hf : A 50 15 = f) (hc : ∀ i, 0 ≤ i → i < f → A 61 i = zb (c i)) (ht : tp c f) {n : Nat} (ih5 : (∀ (o a k : Int) (D : Nat) (J : zA), pK n 5 o → zK (kL [62, 63] [(50, 16), (50, 17), (50, 18), (50, 19)]) A J → J 50 16 = a → J 50 17 = -1 → J 50 18 = o → J 50 19 = k → (0 ≤ a ∧ a ≤ f) → (0 ≤ k ∧ k ≤ a) → n + 8 ≤ D → zW X D 171 0 (gEn 171 [.ref 50]) [] J M R (rr c k o a (pE c n 5 o a) J M R))) (ihE : (∀ (o a k : Int) (D : Nat) (J : zA), pK n 0 o → zK (kL [62, 63] [(50, 16), (50, 17), (50, 18), (50, 19)]) A J → J 50 16 = a → J 50 17 = -1 → J 50 18 = o → J 50 19 = k → (0 ≤ a ∧ a ≤ f) → (0 ≤ k ∧ k ≤ a) → n + 8 ≤ D → zW X D 176 0 (gEn 176 [.ref 50]) [] J M R (rr c k o a (pE c n 0 o a) J M R))) : (∀ (o a k : Int) (D : Nat) (J : zA), pK (n + 1) 5 o → zK (kL [62, 63] [(50, 16), (50, 17), (50, 18), (50, 19)]) A J → J 50 16 = a → J 50 17 = -1 → J 50 18 = o → J 50 19 = k → (0 ≤ a ∧ a ≤ f) → (0 ≤ k ∧ k ≤ a) → (n + 1) + 8 ≤ D → zW X D 171 0 (gEn 171 [.ref 50]) [] J M R (rr c k o a (pE c (n + 1) 5 o a) J M R)) := by
  intro o a k D J hk hJ hat hfa hop hkk ha hk0 hD
  obtain ⟨D, rfl⟩ : ∃ e, D = e + 6 := ⟨D - 6, by omega⟩
  have tf := ht.1
  rw [pE_5]
  show zW _ _ _ _ [some (.ref 50), none] _ _ _ _ _
  refine z_aload0 rfl ?_
  refine z_callVP (As := []) (v := lo (c (a))) rfl rfl gk_50 (Nat.le_of_ble_eq_true rfl) (Nat.le_of_ble_eq_true rfl) (look_k hR hf hc ht hJ (by exact hat) (by omega)) ?_
  have q1 := tp_r ht (a) (by omega)
  have q2 := lo_r (c (a))
  refine z_istore (ls1 := [some (.ref 50), some (zi (lo (c (a))))]) rfl rfl ?_
  refine z_iload1 rfl ?_
  refine z_callSP (As := [_]) (v := nmx (lo (c (a)))) rfl rfl (Nat.le_of_ble_eq_true rfl) (Nat.le_of_ble_eq_true rfl) (nameOf_k (by omega)) ?_
  have q3 := nmx_r (lo (c (a)))
  refine z_if_lt rfl (by omega) (fun h4 => ?_) (fun h4 => ?_)
  · refine z_iload1 rfl ?_
    refine z_pushJ gp_171_35 ?_
    refine z_icmp_eq rfl (by omega) zr_33 (fun h5 => ?_) (fun h5 => ?_)
    · refine z_aload0 gi_171_46 ?_
      refine z_cV0 gi_171_47 gk_50 go_169 (Nat.le_of_ble_eq_true rfl) gc_169_R ?_
      refine z_aload0 gi_169_0 ?_
      refine z_getI (v := o) gi_169_1 gk_50 (hop) ?_
      refine z_pushJ gp_169_4 ?_
      refine z_icmp_ne gi_169_6 (by omega) zr_6 (fun h6 => ?_) (fun h6 => ?_)
      · refine z_aload0 gi_169_15 ?_
        refine z_dup gi_169_16 rfl ?_
        refine z_getI (v := o) gi_169_17 gk_50 (hop) ?_
        refine z_pushJ gp_169_20 ?_
        refine z_iadd (e := o + 1) gi_169_21 rfl ?_
        refine z_putI (y := 18) gi_169_22 rfl gk_50 ?_
        refine z_aload0 gi_169_25 ?_
        refine z_dup gi_169_26 rfl ?_
        refine z_getI (v := a) gi_169_27 gk_50 ((zU_x (by decide)).trans (hat)) ?_
        refine z_pushJ gp_169_30 ?_
        refine z_iadd (e := a + 1) gi_169_31 rfl ?_
        refine z_putI (y := 16) gi_169_32 rfl gk_50 ?_
        refine z_pushJ gp_169_35 ?_
        refine z_bret1 gi_169_36 gr_169 ?_
        show zW _ _ _ _ _ _ _ _ _ _
        refine z_if_neT gi_171_50 zr_1 (by decide) ?_
        refine z_aload0 gi_171_54 ?_
        have ha2 := tp_lt ht (show ¬ c a = -1 by omega)
        have gx := (pE_g ht n 5 (o + 1) (a + 1) (by omega) (by omega)).1
        have gl : (pE c n 5 (o + 1) (a + 1)).1 = true → ((pE c n 5 (o + 1) (a + 1)).2.2.length : Int) ≤ (pE c n 5 (o + 1) (a + 1)).2.1 - (a + 1) := fun t => ((pE_g ht n 5 (o + 1) (a + 1) (by omega) (by omega)).2 t).1.2.1
        refine z_callV (As := []) _ gi_171_55 rfl rfl (Nat.le_of_ble_eq_true rfl) (Nat.le_of_ble_eq_true rfl) (ih5 (o + 1) (a + 1) k _ _ (by omega) (zK_x (a := 50) (x := 16) (v := a + 1) (zK_x (a := 50) (x := 18) (v := o + 1) hJ rfl) rfl) (by exact zU_e) (by exact (zU_x (by decide)).trans ((zU_x (by decide)).trans (hfa))) (by exact (zU_x (by decide)).trans (zU_e)) (by exact (zU_x (by decide)).trans ((zU_x (by decide)).trans (hkk))) (by omega) (by omega) (by omega)) (fun r J2 M2 R2 hr => ?_)
        obtain ⟨⟨rfl, hk2, h22, hke, eM, eR⟩, hr⟩ := hr
        obtain rfl : M = M2 := eM.symm
        obtain rfl : R = R2 := eR.symm
        have hJ2 : zK (kL [62, 63] [(50, 16), (50, 17), (50, 18), (50, 19)]) J J2 := zK_t (zK_x (a := 50) (x := 16) (v := a + 1) (zK_x (a := 50) (x := 18) (v := o + 1) zK_r rfl) rfl) hk2
        have hJ3 : zK (kL [62, 63] [(50, 16), (50, 17), (50, 18), (50, 19)]) A J2 := zK_t hJ hJ2
        have hb0 : ∀ j, j < 130 + (k) → (zU (zU J 50 18 (o + 1)) 50 16 (a + 1)) 62 j = J 62 j ∧ (zU (zU J 50 18 (o + 1)) 50 16 (a + 1)) 63 j = J 63 j := fun j hj => ⟨(zU_n (by decide)).trans ((zU_n (by decide)).trans (rfl)), (zU_n (by decide)).trans ((zU_n (by decide)).trans (rfl))⟩
        have hke2 : ∀ j, j < 130 + (k) → J2 62 j = J 62 j ∧ J2 63 j = J 63 j := fun j hj => ⟨(hke j hj).1.trans (hb0 j hj).1, (hke j hj).2.trans (hb0 j hj).2⟩
        rcases hr with ⟨ok, h27, h28, h29, hl⟩ | ⟨ok, h27, h29⟩
        · show zW _ _ _ _ _ _ _ _ _ _
          have gl2 := gl ok
          refine z_aload0 gi_171_58 ?_
          refine z_dup gi_171_59 rfl ?_
          refine z_getI (v := o + 1) gi_171_60 gk_50 (h28) ?_
          refine z_pushJ gp_171_63 ?_
          refine z_isub (e := o + 1 - 1) gi_171_64 rfl ?_
          refine z_putI (y := 18) gi_171_65 rfl gk_50 ?_
          refine z_aload0 gi_171_68 ?_
          refine z_iload1 gi_171_69 ?_
          refine z_pushJ gp_171_70 ?_
          refine z_icmp_neF gi_171_72 (by omega) zr_33 (by omega) ?_
          refine z_pushJ gp_171_75 ?_
          refine z_goto gi_171_76 ?_
          refine z_pushJ gp_171_80 ?_
          refine z_callVx (As := [_, _]) gi_171_81 rfl gk_50 (Nat.le_of_ble_eq_true rfl) (Nat.le_of_ble_eq_true rfl) (addStep_k (k := k + ((pE c n 5 (o + 1) (a + 1)).2.2.length : Int)) (s := 3) (v := 0) hR (by omega) (by exact (zU_x (by decide)).trans (h29)) (by omega)) ?_
          show zW _ _ _ _ _ _ _ _ _ _
          refine z_goto gi_171_84 ?_
          refine z_vret gi_171_154 gr_171 ?_
          have ex : opd c o (pE c n 0 (o + 1)) (pE c n 5 (o + 1)) a = (true, (pE c n 5 (o + 1) (a + 1)).2.1, (pE c n 5 (o + 1) (a + 1)).2.2 ++ [(33, 0)]) := by
            unfold opd
            rw [if_neg (show ¬ dg (c a) by omega), if_neg (show ¬ nmd (c a) by omega), if_pos (show (c a = 40 ∨ c a = 33 ∨ c a = 45) ∧ o < 6 by omega), if_neg (show ¬ c a = 40 by omega), if_pos ok, if_neg (show ¬ c a = 45 by omega)]
          rw [ex]
          have gl2 := gl ok
          refine ⟨⟨rfl, (zK_x (a := 50) (x := 19) (v := (k + ((pE c n 5 (o + 1) (a + 1)).2.2.length : Int)) + 1) (zK_x (a := 63) (x := 130 + (k + ((pE c n 5 (o + 1) (a + 1)).2.2.length : Int))) (v := 0) (zK_x (a := 62) (x := 130 + (k + ((pE c n 5 (o + 1) (a + 1)).2.2.length : Int))) (v := 3) (zK_x (a := 50) (x := 18) (v := o + 1 - 1) hJ2 rfl) rfl) rfl) rfl), (zU_x (by decide)).trans ((zU_n (by decide)).trans ((zU_n (by decide)).trans ((zU_x (by decide)).trans (h22)))), fun j hj => ⟨(zU_n (by decide)).trans ((zU_n (by decide)).trans ((zU_x (by omega)).trans ((zU_n (by decide)).trans ((hke2 j hj).1)))), (zU_n (by decide)).trans ((zU_x (by omega)).trans ((zU_n (by decide)).trans ((zU_n (by decide)).trans ((hke2 j hj).2))))⟩, rfl, rfl⟩, Or.inl ⟨rfl, (zU_x (by decide)).trans ((zU_n (by decide)).trans ((zU_n (by decide)).trans ((zU_x (by decide)).trans (h27)))), ((zU_x (by decide)).trans ((zU_n (by decide)).trans ((zU_n (by decide)).trans (zU_e)))).trans (by omega), ?_, ?_⟩⟩
          · rw [zU_e, List.length_append, List.length_singleton]
            omega
          · show lay _ 62 63 (130 + k) (((pE c n 5 (o + 1) (a + 1)).2.2 ++ [(33, 0)]).map enc)
            rw [List.map_append]
            refine lay_app _ _ _ (lay_keep _ _ (130 + k + ((pE c n 5 (o + 1) (a + 1)).2.2.length : Int)) hl (by rw [List.length_map]; omega) (fun j hj => ⟨?_, ?_⟩)) ⟨⟨?_, ?_⟩, trivial⟩
            · exact (zU_n (by decide)).trans ((zU_n (by decide)).trans ((zU_x (by omega)).trans (zU_n (by decide))))
            · exact (zU_n (by decide)).trans ((zU_x (by omega)).trans ((zU_n (by decide)).trans (zU_n (by decide))))
            · exact (zU_n (by decide)).trans ((zU_n (by decide)).trans (zU_ex (by rw [List.length_map]; omega)))
            · exact (zU_n (by decide)).trans (zU_ex (by rw [List.length_map]; omega))
        · show zW _ _ _ _ _ _ _ _ _ _
          refine z_aload0 gi_171_58 ?_
          refine z_dup gi_171_59 rfl ?_
          refine z_getI (v := J2 50 18) gi_171_60 gk_50 (rfl) ?_
          refine z_pushJ gp_171_63 ?_
          refine z_isub (e := (J2 50 18) - 1) gi_171_64 rfl ?_
          refine z_putI (y := 18) gi_171_65 rfl gk_50 ?_
          refine z_aload0 gi_171_68 ?_
          refine z_iload1 gi_171_69 ?_
          refine z_pushJ gp_171_70 ?_
          refine z_icmp_neF gi_171_72 (by omega) zr_33 (by omega) ?_
          refine z_pushJ gp_171_75 ?_
          refine z_goto gi_171_76 ?_
          refine z_pushJ gp_171_80 ?_
          refine z_callVx (As := [_, _]) gi_171_81 rfl gk_50 (Nat.le_of_ble_eq_true rfl) (Nat.le_of_ble_eq_true rfl) (addStep_k (k := J2 50 19) (s := 3) (v := 0) hR (by omega) (by exact (zU_x (by decide)).trans (rfl)) (by omega)) ?_
          show zW _ _ _ _ _ _ _ _ _ _
          refine z_goto gi_171_84 ?_
          refine z_vret gi_171_154 gr_171 ?_
          have ex : opd c o (pE c n 0 (o + 1)) (pE c n 5 (o + 1)) a = (pE c n 5 (o + 1) (a + 1)) := by
            unfold opd
            rw [if_neg (show ¬ dg (c a) by omega), if_neg (show ¬ nmd (c a) by omega), if_pos (show (c a = 40 ∨ c a = 33 ∨ c a = 45) ∧ o < 6 by omega), if_neg (show ¬ c a = 40 by omega), if_neg (by rw [ok]; decide)]
          rw [ex]
          refine ⟨⟨rfl, (zK_x (a := 50) (x := 19) (v := (J2 50 19) + 1) (zK_x (a := 63) (x := 130 + (J2 50 19)) (v := 0) (zK_x (a := 62) (x := 130 + (J2 50 19)) (v := 3) (zK_x (a := 50) (x := 18) (v := (J2 50 18) - 1) hJ2 rfl) rfl) rfl) rfl), (zU_x (by decide)).trans ((zU_n (by decide)).trans ((zU_n (by decide)).trans ((zU_x (by decide)).trans (h22)))), fun j hj => ⟨(zU_n (by decide)).trans ((zU_n (by decide)).trans ((zU_x (by omega)).trans ((zU_n (by decide)).trans ((hke2 j hj).1)))), (zU_n (by decide)).trans ((zU_x (by omega)).trans ((zU_n (by decide)).trans ((zU_n (by decide)).trans ((hke2 j hj).2))))⟩, rfl, rfl⟩, Or.inr ⟨ok, (zU_x (by decide)).trans ((zU_n (by decide)).trans ((zU_n (by decide)).trans ((zU_x (by decide)).trans (h27)))), ?_⟩⟩
          rw [zU_e]
          omega
      · refine z_aload0 gi_169_9 ?_
        refine z_cV0 gi_169_10 gk_50 go_166 (Nat.le_of_ble_eq_true rfl) gc_166_R ?_
        refine z_aload0 gi_166_0 ?_
        refine z_getI (v := (-1)) gi_166_1 gk_50 (hfa) ?_
        refine z_if_geF gi_166_4 zrn_1 (by decide) ?_
        refine z_aload0 gi_166_7 ?_
        refine z_aload0 gi_166_8 ?_
        refine z_getI (v := a) gi_166_9 gk_50 (hat) ?_
        refine z_putI (y := 17) gi_166_12 rfl gk_50 ?_
        refine z_vret gi_166_15 gr_166 ?_
        show zW _ _ _ _ _ _ _ _ _ _
        refine z_pushJ gp_169_13 ?_
        refine z_bret0 gi_169_14 gr_169 ?_
        show zW _ _ _ _ _ _ _ _ _ _
        refine z_if_neF gi_171_50 zr_0 (by decide) ?_
        refine z_vret gi_171_53 gr_171 ?_
        have ex : opd c o (pE c n 0 (o + 1)) (pE c n 5 (o + 1)) a = (false, a, []) := by
          unfold opd
          rw [if_neg (show ¬ dg (c a) by omega), if_neg (show ¬ nmd (c a) by omega), if_neg (by omega)]
        rw [ex]
        refine ⟨⟨rfl, (zK_x (a := 50) (x := 17) (v := a) zK_r rfl), (zU_x (by decide)).trans (hat), fun j hj => ⟨(zU_n (by decide)).trans (rfl), (zU_n (by decide)).trans (rfl)⟩, rfl, rfl⟩, Or.inr ⟨rfl, zU_e, ?_⟩⟩
        rw [show _ = k from (zU_x (by decide)).trans (hkk)]
        show k ≤ k ∧ k ≤ k + (a - a) + 1
        omega
    · refine z_iload1 rfl ?_
      refine z_pushJ gp_171_41 ?_
      refine z_icmp_ne rfl (by omega) zr_45 (fun h7 => ?_) (fun h7 => ?_)
      · refine z_iload1 rfl ?_
        refine z_pushJ gp_171_88 ?_
        refine z_icmp_ne rfl (by omega) zr_40 (fun h8 => ?_) (fun h8 => ?_)
        · refine z_aload0 rfl ?_
          refine z_callV (As := []) _ rfl rfl rfl (Nat.le_of_ble_eq_true rfl) (Nat.le_of_ble_eq_true rfl) (figure_k (op := o) hR hf hc ht hJ hat hfa hop hkk ha hk0) (fun r J2 M2 R2 hr => ?_)
          have ex : opd c o (pE c n 0 (o + 1)) (pE c n 5 (o + 1)) a = (if dg (c a) then (if dg (c (nu c 4 a 0).1) then (false, (nu c 4 a 0).1, []) else (true, (nu c 4 a 0).1, [(48, (nu c 4 a 0).2)])) else (false, a, [])) := by
            unfold opd
            by_cases q : dg (c a)
            · rw [if_pos q, if_pos q]
            · rw [if_neg q, if_neg q, if_neg (show ¬ nmd (c a) by omega), if_neg (by omega)]
          obtain rfl := hr.1.1
          show zW _ _ _ _ _ _ _ _ _ _
          refine z_vret gi_171_154 gr_171 ?_
          rw [ex]
          exact hr
        · refine z_aload0 rfl ?_
          refine z_cV0 rfl gk_50 go_169 (Nat.le_of_ble_eq_true rfl) gc_169_R ?_
          refine z_aload0 gi_169_0 ?_
          refine z_getI (v := o) gi_169_1 gk_50 (hop) ?_
          refine z_pushJ gp_169_4 ?_
          refine z_icmp_ne gi_169_6 (by omega) zr_6 (fun h9 => ?_) (fun h9 => ?_)
          · refine z_aload0 gi_169_15 ?_
            refine z_dup gi_169_16 rfl ?_
            refine z_getI (v := o) gi_169_17 gk_50 (hop) ?_
            refine z_pushJ gp_169_20 ?_
            refine z_iadd (e := o + 1) gi_169_21 rfl ?_
            refine z_putI (y := 18) gi_169_22 rfl gk_50 ?_
            refine z_aload0 gi_169_25 ?_
            refine z_dup gi_169_26 rfl ?_
            refine z_getI (v := a) gi_169_27 gk_50 ((zU_x (by decide)).trans (hat)) ?_
            refine z_pushJ gp_169_30 ?_
            refine z_iadd (e := a + 1) gi_169_31 rfl ?_
            refine z_putI (y := 16) gi_169_32 rfl gk_50 ?_
            refine z_pushJ gp_169_35 ?_
            refine z_bret1 gi_169_36 gr_169 ?_
            show zW _ _ _ _ _ _ _ _ _ _
            refine z_if_neT gi_171_97 zr_1 (by decide) ?_
            refine z_aload0 rfl ?_
            have ha2 := tp_lt ht (show ¬ c a = -1 by omega)
            have gx := (pE_g ht n 0 (o + 1) (a + 1) (by omega) (by omega)).1
            have gl : (pE c n 0 (o + 1) (a + 1)).1 = true → ((pE c n 0 (o + 1) (a + 1)).2.2.length : Int) ≤ (pE c n 0 (o + 1) (a + 1)).2.1 - (a + 1) := fun t => ((pE_g ht n 0 (o + 1) (a + 1) (by omega) (by omega)).2 t).1.2.1
            refine z_callV (As := []) _ rfl rfl rfl (Nat.le_of_ble_eq_true rfl) (Nat.le_of_ble_eq_true rfl) (ihE (o + 1) (a + 1) k _ _ (by omega) (zK_x (a := 50) (x := 16) (v := a + 1) (zK_x (a := 50) (x := 18) (v := o + 1) hJ rfl) rfl) (by exact zU_e) (by exact (zU_x (by decide)).trans ((zU_x (by decide)).trans (hfa))) (by exact (zU_x (by decide)).trans (zU_e)) (by exact (zU_x (by decide)).trans ((zU_x (by decide)).trans (hkk))) (by omega) (by omega) (by omega)) (fun r J2 M2 R2 hr => ?_)
            obtain ⟨⟨rfl, hk2, h22, hke, eM, eR⟩, hr⟩ := hr
            obtain rfl : M = M2 := eM.symm
            obtain rfl : R = R2 := eR.symm
            have hJ2 : zK (kL [62, 63] [(50, 16), (50, 17), (50, 18), (50, 19)]) J J2 := zK_t (zK_x (a := 50) (x := 16) (v := a + 1) (zK_x (a := 50) (x := 18) (v := o + 1) zK_r rfl) rfl) hk2
            have hJ3 : zK (kL [62, 63] [(50, 16), (50, 17), (50, 18), (50, 19)]) A J2 := zK_t hJ hJ2
            have hb0 : ∀ j, j < 130 + (k) → (zU (zU J 50 18 (o + 1)) 50 16 (a + 1)) 62 j = J 62 j ∧ (zU (zU J 50 18 (o + 1)) 50 16 (a + 1)) 63 j = J 63 j := fun j hj => ⟨(zU_n (by decide)).trans ((zU_n (by decide)).trans (rfl)), (zU_n (by decide)).trans ((zU_n (by decide)).trans (rfl))⟩
            have hke2 : ∀ j, j < 130 + (k) → J2 62 j = J 62 j ∧ J2 63 j = J 63 j := fun j hj => ⟨(hke j hj).1.trans (hb0 j hj).1, (hke j hj).2.trans (hb0 j hj).2⟩
            rcases hr with ⟨ok, h27, h28, h29, hl⟩ | ⟨ok, h27, h29⟩
            · show zW _ _ _ _ _ _ _ _ _ _
              have gl2 := gl ok
              refine z_aload0 gi_171_105 ?_
              refine z_getI (v := (-1)) gi_171_106 gk_50 (h27) ?_
              refine z_if_ltT gi_171_109 zrn_1 (by decide) ?_
              refine z_aload0 rfl ?_
              refine z_callVP (As := []) (v := lo (c ((pE c n 0 (o + 1) (a + 1)).2.1))) rfl rfl gk_50 (Nat.le_of_ble_eq_true rfl) (Nat.le_of_ble_eq_true rfl) (look_k hR hf hc ht hJ3 (by exact h22) (by omega)) ?_
              have q10 := tp_r ht ((pE c n 0 (o + 1) (a + 1)).2.1) (by omega)
              have q11 := lo_r (c ((pE c n 0 (o + 1) (a + 1)).2.1))
              refine z_pushJ gp_171_117 ?_
              refine z_icmp_eq rfl (by omega) zr_41 (fun h12 => ?_) (fun h12 => ?_)
              · refine z_aload0 rfl ?_
                refine z_dup rfl rfl ?_
                refine z_getI (v := (pE c n 0 (o + 1) (a + 1)).2.1) rfl gk_50 (h22) ?_
                refine z_pushJ gp_171_132 ?_
                refine z_iadd (e := ((pE c n 0 (o + 1) (a + 1)).2.1) + 1) rfl rfl ?_
                refine z_putI (y := 16) rfl rfl gk_50 ?_
                refine z_aload0 rfl ?_
                refine z_dup rfl rfl ?_
                refine z_getI (v := o + 1) rfl gk_50 ((zU_x (by decide)).trans (h28)) ?_
                refine z_pushJ gp_171_142 ?_
                refine z_isub (e := o + 1 - 1) rfl rfl ?_
                refine z_putI (y := 18) rfl rfl gk_50 ?_
                refine z_goto rfl ?_
                refine z_vret gi_171_154 gr_171 ?_
                have ex : opd c o (pE c n 0 (o + 1)) (pE c n 5 (o + 1)) a = (true, (pE c n 0 (o + 1) (a + 1)).2.1 + 1, (pE c n 0 (o + 1) (a + 1)).2.2) := by
                  unfold opd
                  rw [if_neg (show ¬ dg (c a) by omega), if_neg (show ¬ nmd (c a) by omega), if_pos (show (c a = 40 ∨ c a = 33 ∨ c a = 45) ∧ o < 6 by omega), if_pos (show c a = 40 by omega), if_pos ok, if_pos (show c (pE c n 0 (o + 1) (a + 1)).2.1 = 41 by omega)]
                rw [ex]
                exact ⟨⟨rfl, (zK_x (a := 50) (x := 18) (v := o + 1 - 1) (zK_x (a := 50) (x := 16) (v := ((pE c n 0 (o + 1) (a + 1)).2.1) + 1) hJ2 rfl) rfl), (zU_x (by decide)).trans (zU_e), fun j hj => ⟨(zU_n (by decide)).trans ((zU_n (by decide)).trans ((hke2 j hj).1)), (zU_n (by decide)).trans ((zU_n (by decide)).trans ((hke2 j hj).2))⟩, rfl, rfl⟩, Or.inl ⟨rfl, (zU_x (by decide)).trans ((zU_x (by decide)).trans (h27)), (zU_e).trans (by omega), (zU_x (by decide)).trans ((zU_x (by decide)).trans (h29)), lay_keep ((pE c n 0 (o + 1) (a + 1)).2.2.map enc) (130 + k) (130 + k + ((pE c n 0 (o + 1) (a + 1)).2.2.length : Int)) hl (by rw [List.length_map]; omega) (fun j _ => ⟨(zU_n (by decide)).trans (zU_n (by decide)), (zU_n (by decide)).trans (zU_n (by decide))⟩)⟩⟩
              · refine z_aload0 rfl ?_
                refine z_cV0 rfl gk_50 go_166 (Nat.le_of_ble_eq_true rfl) gc_166_R ?_
                refine z_aload0 gi_166_0 ?_
                refine z_getI (v := (-1)) gi_166_1 gk_50 (h27) ?_
                refine z_if_geF gi_166_4 zrn_1 (by decide) ?_
                refine z_aload0 gi_166_7 ?_
                refine z_aload0 gi_166_8 ?_
                refine z_getI (v := (pE c n 0 (o + 1) (a + 1)).2.1) gi_166_9 gk_50 (h22) ?_
                refine z_putI (y := 17) gi_166_12 rfl gk_50 ?_
                refine z_vret gi_166_15 gr_166 ?_
                show zW _ _ _ _ _ _ _ _ _ _
                refine z_vret rfl gr_171 ?_
                have gl2 := gl ok
                have ex : opd c o (pE c n 0 (o + 1)) (pE c n 5 (o + 1)) a = (false, (pE c n 0 (o + 1) (a + 1)).2.1, []) := by
                  unfold opd
                  rw [if_neg (show ¬ dg (c a) by omega), if_neg (show ¬ nmd (c a) by omega), if_pos (show (c a = 40 ∨ c a = 33 ∨ c a = 45) ∧ o < 6 by omega), if_pos (show c a = 40 by omega), if_pos ok, if_neg (show ¬ c (pE c n 0 (o + 1) (a + 1)).2.1 = 41 by omega)]
                rw [ex]
                refine ⟨⟨rfl, (zK_x (a := 50) (x := 17) (v := (pE c n 0 (o + 1) (a + 1)).2.1) hJ2 rfl), (zU_x (by decide)).trans (h22), fun j hj => ⟨(zU_n (by decide)).trans ((hke2 j hj).1), (zU_n (by decide)).trans ((hke2 j hj).2)⟩, rfl, rfl⟩, Or.inr ⟨rfl, zU_e, ?_⟩⟩
                rw [show _ = k + ((pE c n 0 (o + 1) (a + 1)).2.2.length : Int) from (zU_x (by decide)).trans (h29)]
                show k ≤ k + ((pE c n 0 (o + 1) (a + 1)).2.2.length : Int) ∧ k + ((pE c n 0 (o + 1) (a + 1)).2.2.length : Int) ≤ k + ((pE c n 0 (o + 1) (a + 1)).2.1 - a) + 1
                omega
            · show zW _ _ _ _ _ _ _ _ _ _
              refine z_aload0 gi_171_105 ?_
              refine z_getI (v := (pE c n 0 (o + 1) (a + 1)).2.1) gi_171_106 gk_50 (h27) ?_
              refine z_if_ltF gi_171_109 (by omega) (by omega) ?_
              refine z_vret rfl gr_171 ?_
              have ex : opd c o (pE c n 0 (o + 1)) (pE c n 5 (o + 1)) a = (pE c n 0 (o + 1) (a + 1)) := by
                unfold opd
                rw [if_neg (show ¬ dg (c a) by omega), if_neg (show ¬ nmd (c a) by omega), if_pos (show (c a = 40 ∨ c a = 33 ∨ c a = 45) ∧ o < 6 by omega), if_pos (show c a = 40 by omega), if_neg (by rw [ok]; decide)]
              rw [ex]
              refine ⟨⟨rfl, hJ2, h22, fun j hj => ⟨(hke2 j hj).1, (hke2 j hj).2⟩, rfl, rfl⟩, Or.inr ⟨ok, h27, ?_⟩⟩
              omega
          · refine z_aload0 gi_169_9 ?_
            refine z_cV0 gi_169_10 gk_50 go_166 (Nat.le_of_ble_eq_true rfl) gc_166_R ?_
            refine z_aload0 gi_166_0 ?_
            refine z_getI (v := (-1)) gi_166_1 gk_50 (hfa) ?_
            refine z_if_geF gi_166_4 zrn_1 (by decide) ?_
            refine z_aload0 gi_166_7 ?_
            refine z_aload0 gi_166_8 ?_
            refine z_getI (v := a) gi_166_9 gk_50 (hat) ?_
            refine z_putI (y := 17) gi_166_12 rfl gk_50 ?_
            refine z_vret gi_166_15 gr_166 ?_
            show zW _ _ _ _ _ _ _ _ _ _
            refine z_pushJ gp_169_13 ?_
            refine z_bret0 gi_169_14 gr_169 ?_
            show zW _ _ _ _ _ _ _ _ _ _
            refine z_if_neF gi_171_97 zr_0 (by decide) ?_
            refine z_vret rfl gr_171 ?_
            have ex : opd c o (pE c n 0 (o + 1)) (pE c n 5 (o + 1)) a = (false, a, []) := by
              unfold opd
              rw [if_neg (show ¬ dg (c a) by omega), if_neg (show ¬ nmd (c a) by omega), if_neg (by omega)]
            rw [ex]
            refine ⟨⟨rfl, (zK_x (a := 50) (x := 17) (v := a) zK_r rfl), (zU_x (by decide)).trans (hat), fun j hj => ⟨(zU_n (by decide)).trans (rfl), (zU_n (by decide)).trans (rfl)⟩, rfl, rfl⟩, Or.inr ⟨rfl, zU_e, ?_⟩⟩
            rw [show _ = k from (zU_x (by decide)).trans (hkk)]
            show k ≤ k ∧ k ≤ k + (a - a) + 1
            omega
      · refine z_aload0 gi_171_46 ?_
        refine z_cV0 gi_171_47 gk_50 go_169 (Nat.le_of_ble_eq_true rfl) gc_169_R ?_
        refine z_aload0 gi_169_0 ?_
        refine z_getI (v := o) gi_169_1 gk_50 (hop) ?_
        refine z_pushJ gp_169_4 ?_
        refine z_icmp_ne gi_169_6 (by omega) zr_6 (fun h10 => ?_) (fun h10 => ?_)
        · refine z_aload0 gi_169_15 ?_
          refine z_dup gi_169_16 rfl ?_
          refine z_getI (v := o) gi_169_17 gk_50 (hop) ?_
          refine z_pushJ gp_169_20 ?_
          refine z_iadd (e := o + 1) gi_169_21 rfl ?_
          refine z_putI (y := 18) gi_169_22 rfl gk_50 ?_
          refine z_aload0 gi_169_25 ?_
          refine z_dup gi_169_26 rfl ?_
          refine z_getI (v := a) gi_169_27 gk_50 ((zU_x (by decide)).trans (hat)) ?_
          refine z_pushJ gp_169_30 ?_
          refine z_iadd (e := a + 1) gi_169_31 rfl ?_
          refine z_putI (y := 16) gi_169_32 rfl gk_50 ?_
          refine z_pushJ gp_169_35 ?_
          refine z_bret1 gi_169_36 gr_169 ?_
          show zW _ _ _ _ _ _ _ _ _ _
          refine z_if_neT gi_171_50 zr_1 (by decide) ?_
          refine z_aload0 gi_171_54 ?_
          have ha2 := tp_lt ht (show ¬ c a = -1 by omega)
          have gx := (pE_g ht n 5 (o + 1) (a + 1) (by omega) (by omega)).1
          have gl : (pE c n 5 (o + 1) (a + 1)).1 = true → ((pE c n 5 (o + 1) (a + 1)).2.2.length : Int) ≤ (pE c n 5 (o + 1) (a + 1)).2.1 - (a + 1) := fun t => ((pE_g ht n 5 (o + 1) (a + 1) (by omega) (by omega)).2 t).1.2.1
          refine z_callV (As := []) _ gi_171_55 rfl rfl (Nat.le_of_ble_eq_true rfl) (Nat.le_of_ble_eq_true rfl) (ih5 (o + 1) (a + 1) k _ _ (by omega) (zK_x (a := 50) (x := 16) (v := a + 1) (zK_x (a := 50) (x := 18) (v := o + 1) hJ rfl) rfl) (by exact zU_e) (by exact (zU_x (by decide)).trans ((zU_x (by decide)).trans (hfa))) (by exact (zU_x (by decide)).trans (zU_e)) (by exact (zU_x (by decide)).trans ((zU_x (by decide)).trans (hkk))) (by omega) (by omega) (by omega)) (fun r J2 M2 R2 hr => ?_)
          obtain ⟨⟨rfl, hk2, h22, hke, eM, eR⟩, hr⟩ := hr
          obtain rfl : M = M2 := eM.symm
          obtain rfl : R = R2 := eR.symm
          have hJ2 : zK (kL [62, 63] [(50, 16), (50, 17), (50, 18), (50, 19)]) J J2 := zK_t (zK_x (a := 50) (x := 16) (v := a + 1) (zK_x (a := 50) (x := 18) (v := o + 1) zK_r rfl) rfl) hk2
          have hJ3 : zK (kL [62, 63] [(50, 16), (50, 17), (50, 18), (50, 19)]) A J2 := zK_t hJ hJ2
          have hb0 : ∀ j, j < 130 + (k) → (zU (zU J 50 18 (o + 1)) 50 16 (a + 1)) 62 j = J 62 j ∧ (zU (zU J 50 18 (o + 1)) 50 16 (a + 1)) 63 j = J 63 j := fun j hj => ⟨(zU_n (by decide)).trans ((zU_n (by decide)).trans (rfl)), (zU_n (by decide)).trans ((zU_n (by decide)).trans (rfl))⟩
          have hke2 : ∀ j, j < 130 + (k) → J2 62 j = J 62 j ∧ J2 63 j = J 63 j := fun j hj => ⟨(hke j hj).1.trans (hb0 j hj).1, (hke j hj).2.trans (hb0 j hj).2⟩
          rcases hr with ⟨ok, h27, h28, h29, hl⟩ | ⟨ok, h27, h29⟩
          · show zW _ _ _ _ _ _ _ _ _ _
            have gl2 := gl ok
            refine z_aload0 gi_171_58 ?_
            refine z_dup gi_171_59 rfl ?_
            refine z_getI (v := o + 1) gi_171_60 gk_50 (h28) ?_
            refine z_pushJ gp_171_63 ?_
            refine z_isub (e := o + 1 - 1) gi_171_64 rfl ?_
            refine z_putI (y := 18) gi_171_65 rfl gk_50 ?_
            refine z_aload0 gi_171_68 ?_
            refine z_iload1 gi_171_69 ?_
            refine z_pushJ gp_171_70 ?_
            refine z_icmp_neT gi_171_72 (by omega) zr_33 (by omega) ?_
            refine z_pushJ gp_171_79 ?_
            refine z_pushJ gp_171_80 ?_
            refine z_callVx (As := [_, _]) gi_171_81 rfl gk_50 (Nat.le_of_ble_eq_true rfl) (Nat.le_of_ble_eq_true rfl) (addStep_k (k := k + ((pE c n 5 (o + 1) (a + 1)).2.2.length : Int)) (s := 4) (v := 0) hR (by omega) (by exact (zU_x (by decide)).trans (h29)) (by omega)) ?_
            show zW _ _ _ _ _ _ _ _ _ _
            refine z_goto gi_171_84 ?_
            refine z_vret gi_171_154 gr_171 ?_
            have ex : opd c o (pE c n 0 (o + 1)) (pE c n 5 (o + 1)) a = (true, (pE c n 5 (o + 1) (a + 1)).2.1, (pE c n 5 (o + 1) (a + 1)).2.2 ++ [(95, 0)]) := by
              unfold opd
              rw [if_neg (show ¬ dg (c a) by omega), if_neg (show ¬ nmd (c a) by omega), if_pos (show (c a = 40 ∨ c a = 33 ∨ c a = 45) ∧ o < 6 by omega), if_neg (show ¬ c a = 40 by omega), if_pos ok, if_pos (show c a = 45 by omega)]
            rw [ex]
            have gl2 := gl ok
            refine ⟨⟨rfl, (zK_x (a := 50) (x := 19) (v := (k + ((pE c n 5 (o + 1) (a + 1)).2.2.length : Int)) + 1) (zK_x (a := 63) (x := 130 + (k + ((pE c n 5 (o + 1) (a + 1)).2.2.length : Int))) (v := 0) (zK_x (a := 62) (x := 130 + (k + ((pE c n 5 (o + 1) (a + 1)).2.2.length : Int))) (v := 4) (zK_x (a := 50) (x := 18) (v := o + 1 - 1) hJ2 rfl) rfl) rfl) rfl), (zU_x (by decide)).trans ((zU_n (by decide)).trans ((zU_n (by decide)).trans ((zU_x (by decide)).trans (h22)))), fun j hj => ⟨(zU_n (by decide)).trans ((zU_n (by decide)).trans ((zU_x (by omega)).trans ((zU_n (by decide)).trans ((hke2 j hj).1)))), (zU_n (by decide)).trans ((zU_x (by omega)).trans ((zU_n (by decide)).trans ((zU_n (by decide)).trans ((hke2 j hj).2))))⟩, rfl, rfl⟩, Or.inl ⟨rfl, (zU_x (by decide)).trans ((zU_n (by decide)).trans ((zU_n (by decide)).trans ((zU_x (by decide)).trans (h27)))), ((zU_x (by decide)).trans ((zU_n (by decide)).trans ((zU_n (by decide)).trans (zU_e)))).trans (by omega), ?_, ?_⟩⟩
            · rw [zU_e, List.length_append, List.length_singleton]
              omega
            · show lay _ 62 63 (130 + k) (((pE c n 5 (o + 1) (a + 1)).2.2 ++ [(95, 0)]).map enc)
              rw [List.map_append]
              refine lay_app _ _ _ (lay_keep _ _ (130 + k + ((pE c n 5 (o + 1) (a + 1)).2.2.length : Int)) hl (by rw [List.length_map]; omega) (fun j hj => ⟨?_, ?_⟩)) ⟨⟨?_, ?_⟩, trivial⟩
              · exact (zU_n (by decide)).trans ((zU_n (by decide)).trans ((zU_x (by omega)).trans (zU_n (by decide))))
              · exact (zU_n (by decide)).trans ((zU_x (by omega)).trans ((zU_n (by decide)).trans (zU_n (by decide))))
              · exact (zU_n (by decide)).trans ((zU_n (by decide)).trans (zU_ex (by rw [List.length_map]; omega)))
              · exact (zU_n (by decide)).trans (zU_ex (by rw [List.length_map]; omega))
          · show zW _ _ _ _ _ _ _ _ _ _
            refine z_aload0 gi_171_58 ?_
            refine z_dup gi_171_59 rfl ?_
            refine z_getI (v := J2 50 18) gi_171_60 gk_50 (rfl) ?_
            refine z_pushJ gp_171_63 ?_
            refine z_isub (e := (J2 50 18) - 1) gi_171_64 rfl ?_
            refine z_putI (y := 18) gi_171_65 rfl gk_50 ?_
            refine z_aload0 gi_171_68 ?_
            refine z_iload1 gi_171_69 ?_
            refine z_pushJ gp_171_70 ?_
            refine z_icmp_neT gi_171_72 (by omega) zr_33 (by omega) ?_
            refine z_pushJ gp_171_79 ?_
            refine z_pushJ gp_171_80 ?_
            refine z_callVx (As := [_, _]) gi_171_81 rfl gk_50 (Nat.le_of_ble_eq_true rfl) (Nat.le_of_ble_eq_true rfl) (addStep_k (k := J2 50 19) (s := 4) (v := 0) hR (by omega) (by exact (zU_x (by decide)).trans (rfl)) (by omega)) ?_
            show zW _ _ _ _ _ _ _ _ _ _
            refine z_goto gi_171_84 ?_
            refine z_vret gi_171_154 gr_171 ?_
            have ex : opd c o (pE c n 0 (o + 1)) (pE c n 5 (o + 1)) a = (pE c n 5 (o + 1) (a + 1)) := by
              unfold opd
              rw [if_neg (show ¬ dg (c a) by omega), if_neg (show ¬ nmd (c a) by omega), if_pos (show (c a = 40 ∨ c a = 33 ∨ c a = 45) ∧ o < 6 by omega), if_neg (show ¬ c a = 40 by omega), if_neg (by rw [ok]; decide)]
            rw [ex]
            refine ⟨⟨rfl, (zK_x (a := 50) (x := 19) (v := (J2 50 19) + 1) (zK_x (a := 63) (x := 130 + (J2 50 19)) (v := 0) (zK_x (a := 62) (x := 130 + (J2 50 19)) (v := 4) (zK_x (a := 50) (x := 18) (v := (J2 50 18) - 1) hJ2 rfl) rfl) rfl) rfl), (zU_x (by decide)).trans ((zU_n (by decide)).trans ((zU_n (by decide)).trans ((zU_x (by decide)).trans (h22)))), fun j hj => ⟨(zU_n (by decide)).trans ((zU_n (by decide)).trans ((zU_x (by omega)).trans ((zU_n (by decide)).trans ((hke2 j hj).1)))), (zU_n (by decide)).trans ((zU_x (by omega)).trans ((zU_n (by decide)).trans ((zU_n (by decide)).trans ((hke2 j hj).2))))⟩, rfl, rfl⟩, Or.inr ⟨ok, (zU_x (by decide)).trans ((zU_n (by decide)).trans ((zU_n (by decide)).trans ((zU_x (by decide)).trans (h27)))), ?_⟩⟩
            rw [zU_e]
            omega
        · refine z_aload0 gi_169_9 ?_
          refine z_cV0 gi_169_10 gk_50 go_166 (Nat.le_of_ble_eq_true rfl) gc_166_R ?_
          refine z_aload0 gi_166_0 ?_
          refine z_getI (v := (-1)) gi_166_1 gk_50 (hfa) ?_
          refine z_if_geF gi_166_4 zrn_1 (by decide) ?_
          refine z_aload0 gi_166_7 ?_
          refine z_aload0 gi_166_8 ?_
          refine z_getI (v := a) gi_166_9 gk_50 (hat) ?_
          refine z_putI (y := 17) gi_166_12 rfl gk_50 ?_
          refine z_vret gi_166_15 gr_166 ?_
          show zW _ _ _ _ _ _ _ _ _ _
          refine z_pushJ gp_169_13 ?_
          refine z_bret0 gi_169_14 gr_169 ?_
          show zW _ _ _ _ _ _ _ _ _ _
          refine z_if_neF gi_171_50 zr_0 (by decide) ?_
          refine z_vret gi_171_53 gr_171 ?_
          have ex : opd c o (pE c n 0 (o + 1)) (pE c n 5 (o + 1)) a = (false, a, []) := by
            unfold opd
            rw [if_neg (show ¬ dg (c a) by omega), if_neg (show ¬ nmd (c a) by omega), if_neg (by omega)]
          rw [ex]
          refine ⟨⟨rfl, (zK_x (a := 50) (x := 17) (v := a) zK_r rfl), (zU_x (by decide)).trans (hat), fun j hj => ⟨(zU_n (by decide)).trans (rfl), (zU_n (by decide)).trans (rfl)⟩, rfl, rfl⟩, Or.inr ⟨rfl, zU_e, ?_⟩⟩
          rw [show _ = k from (zU_x (by decide)).trans (hkk)]
          show k ≤ k ∧ k ≤ k + (a - a) + 1
          omega
  · refine z_aload0 rfl ?_
    refine z_pushJ gp_171_13 ?_
    refine z_iload1 rfl ?_
    refine z_callSP (As := [_]) (v := nmx (lo (c (a)))) rfl rfl (Nat.le_of_ble_eq_true rfl) (Nat.le_of_ble_eq_true rfl) (nameOf_k (by omega)) ?_
    have q11 := nmx_r (lo (c (a)))
    refine z_callVx (As := [_, _]) rfl rfl gk_50 (Nat.le_of_ble_eq_true rfl) (Nat.le_of_ble_eq_true rfl) (addStep_k (k := k) (s := 2) (v := nmx (lo (c (a)))) hR (by omega) (by exact hkk) (by omega)) ?_
    show zW _ _ _ _ _ _ _ _ _ _
    have ha3 := tp_lt ht (show ¬ c a = -1 by omega)
    refine z_aload0 rfl ?_
    refine z_dup rfl rfl ?_
    refine z_getI (v := a) rfl gk_50 ((zU_x (by decide)).trans ((zU_n (by decide)).trans ((zU_n (by decide)).trans (hat)))) ?_
    refine z_pushJ gp_171_26 ?_
    refine z_iadd (e := a + 1) rfl rfl ?_
    refine z_putI (y := 16) rfl rfl gk_50 ?_
    refine z_goto rfl ?_
    refine z_vret gi_171_154 gr_171 ?_
    have ex : opd c o (pE c n 0 (o + 1)) (pE c n 5 (o + 1)) a = (true, a + 1, [(c a, 0)]) := by
      unfold opd
      rw [if_neg (show ¬ dg (c a) by omega), if_pos (show nmd (c a) by omega)]
    rw [ex]
    have el : lo (c a) = c a := by omega
    refine ⟨⟨rfl, (zK_x (a := 50) (x := 16) (v := a + 1) (zK_x (a := 50) (x := 19) (v := k + 1) (zK_x (a := 63) (x := 130 + k) (v := nmx (lo (c (a)))) (zK_x (a := 62) (x := 130 + k) (v := 2) zK_r rfl) rfl) rfl) rfl), zU_e, fun j hj => ⟨(zU_n (by decide)).trans ((zU_n (by decide)).trans ((zU_n (by decide)).trans ((zU_x (by omega)).trans (rfl)))), (zU_n (by decide)).trans ((zU_n (by decide)).trans ((zU_x (by omega)).trans ((zU_n (by decide)).trans (rfl))))⟩, rfl, rfl⟩, Or.inl ⟨rfl, (zU_x (by decide)).trans ((zU_x (by decide)).trans ((zU_n (by decide)).trans ((zU_n (by decide)).trans (hfa)))), (zU_x (by decide)).trans ((zU_x (by decide)).trans ((zU_n (by decide)).trans ((zU_n (by decide)).trans (hop)))), (zU_x (by decide)).trans (zU_e), ?_⟩⟩
    show lay _ 62 63 (130 + k) [enc (c a, 0)]
    rw [enc_n (show nmd (c a) by omega)]
    exact ⟨⟨(zU_n (by decide)).trans ((zU_n (by decide)).trans ((zU_n (by decide)).trans (zU_e))), ((zU_n (by decide)).trans ((zU_n (by decide)).trans (zU_e))).trans (by rw [el])⟩, trivial⟩
theorem rlp4 {X : Nat × (Nat → Int32)} {M : zA} {R : zR} (hR : zRoR R) {A : zA} {c : Int → Int} {f : Int} (hf : A 50 15 = f) (hc : ∀ i, 0 ≤ i → i < f → A 61 i = zb (c i)) (ht : tp c f) {n : Nat} (ih : (∀ (o a k : Int) (D : Nat) (J : zA), pK n 5 o → zK (kL [62, 63] [(50, 16), (50, 17), (50, 18), (50, 19)]) A J → J 50 16 = a → J 50 17 = -1 → J 50 18 = o → J 50 19 = k → (0 ≤ a ∧ a ≤ f) → (0 ≤ k ∧ k ≤ a) → n + 8 ≤ D → zW X D 171 0 (gEn 171 [.ref 50]) [] J M R (rr c k o a (pE c n 5 o a) J M R))) {o : Int} (hkr : pK (n + 1) 4 o) : ∀ (m : Nat) (p k : Int) (e1 : Option Value) (D : Nat) (J : zA), zK (kL [62, 63] [(50, 16), (50, 17), (50, 18), (50, 19)]) A J → J 50 16 = p → J 50 17 = -1 → J 50 18 = o → J 50 19 = k → (0 ≤ p ∧ p ≤ f) → (0 ≤ k ∧ k ≤ p) → 120 ≤ p + m → n + 9 ≤ D → zW X D 172 4 [some (.ref 50), e1] [] J M R (rr c k o p (pL (pE c n 5 o) c 4 m p) J M R) := by
  intro m
  induction m with
  | zero =>
    intro p k e1 D J hJ hat hfa hop hkk hp hk0 hpm hD
    obtain ⟨D, rfl⟩ : ∃ e, D = e + 6 := ⟨D - 6, by omega⟩
    have tf := ht.1
    have cp := ht.2.2 p (by omega)
    have lp : lo (c (p)) = -1 := by rw [cp]; rfl
    show zW _ _ _ _ [some (.ref 50), e1] _ _ _ _ _
    refine z_aload0 gi_172_4 ?_
    refine z_getI (v := (-1)) gi_172_5 gk_50 (hfa) ?_
    refine z_if_geF gi_172_8 zrn_1 (by decide) ?_
    refine z_aload0 gi_172_11 ?_
    refine z_callVP (As := []) (v := lo (c (p))) gi_172_12 rfl gk_50 (Nat.le_of_ble_eq_true rfl) (Nat.le_of_ble_eq_true rfl) (look_k hR hf hc ht hJ hat (by omega)) ?_
    refine z_pushJ gp_172_15 ?_
    refine z_icmp_eqF gi_172_17 (by omega) zr_42 (by omega) ?_
    refine z_aload0 gi_172_20 ?_
    refine z_callVP (As := []) (v := lo (c (p))) gi_172_21 rfl gk_50 (Nat.le_of_ble_eq_true rfl) (Nat.le_of_ble_eq_true rfl) (look_k hR hf hc ht hJ hat (by omega)) ?_
    refine z_pushJ gp_172_24 ?_
    refine z_icmp_eqF gi_172_26 (by omega) zr_47 (by omega) ?_
    refine z_aload0 gi_172_29 ?_
    refine z_callVP (As := []) (v := lo (c (p))) gi_172_30 rfl gk_50 (Nat.le_of_ble_eq_true rfl) (Nat.le_of_ble_eq_true rfl) (look_k hR hf hc ht hJ hat (by omega)) ?_
    refine z_pushJ gp_172_33 ?_
    refine z_icmp_neT gi_172_35 (by omega) zr_37 (by omega) ?_
    refine z_vret gi_172_66 gr_172 ?_
    exact ⟨⟨rfl, zK_r, hat, fun j _ => ⟨rfl, rfl⟩, rfl, rfl⟩, Or.inl ⟨rfl, hfa, hop, hkk.trans (by show k = k + ((0 : Nat) : Int); omega), trivial⟩⟩
  | succ j ih2 =>
    intro p k e1 D J hJ hat hfa hop hkk hp hk0 hpm hD
    obtain ⟨D, rfl⟩ : ∃ e, D = e + 6 := ⟨D - 6, by omega⟩
    have tf := ht.1
    show zW _ _ _ _ [some (.ref 50), e1] _ _ _ _ _
    refine z_aload0 gi_172_4 ?_
    refine z_getI (v := (-1)) gi_172_5 gk_50 (hfa) ?_
    refine z_if_geF gi_172_8 zrn_1 (by decide) ?_
    refine z_aload0 gi_172_11 ?_
    refine z_callVP (As := []) (v := lo (c (p))) gi_172_12 rfl gk_50 (Nat.le_of_ble_eq_true rfl) (Nat.le_of_ble_eq_true rfl) (look_k hR hf hc ht hJ (by exact hat) (by omega)) ?_
    have q1 := tp_r ht (p) (by omega)
    have q2 := lo_r (c (p))
    refine z_pushJ gp_172_15 ?_
    refine z_icmp_eq gi_172_17 (by omega) zr_42 (fun h3 => ?_) (fun h3 => ?_)
    · refine z_aload0 gi_172_38 ?_
      refine z_callVP (As := []) (v := lo (c (p))) gi_172_39 rfl gk_50 (Nat.le_of_ble_eq_true rfl) (Nat.le_of_ble_eq_true rfl) (look_k hR hf hc ht hJ (by exact hat) (by omega)) ?_
      have q4 := tp_r ht (p) (by omega)
      have q5 := lo_r (c (p))
      refine z_istore (ls1 := [some (.ref 50), some (zi (lo (c (p))))]) gi_172_42 rfl ?_
      refine z_aload0 gi_172_43 ?_
      refine z_dup gi_172_44 rfl ?_
      refine z_getI (v := p) gi_172_45 gk_50 (hat) ?_
      refine z_pushJ gp_172_48 ?_
      refine z_iadd (e := p + 1) gi_172_49 rfl ?_
      refine z_putI (y := 16) gi_172_50 rfl gk_50 ?_
      refine z_aload0 gi_172_53 ?_
      have hq : rk (c p) = 4 := by unfold rk; (repeat' split) <;> omega
      have ha2 := tp_lt ht (rk_n (s := c p) (by omega)).1
      have rb := rk_b (s := c p) (by omega)
      have gx := (pE_g ht n 5 o (p + 1) (by omega) (by omega)).1
      have gl : (pE c n 5 o (p + 1)).1 = true → (p + 1 < (pE c n 5 o (p + 1)).2.1 ∧ ((pE c n 5 o (p + 1)).2.2.length : Int) ≤ (pE c n 5 o (p + 1)).2.1 - (p + 1)) := fun t => ⟨((pE_g ht n 5 o (p + 1) (by omega) (by omega)).2 t).1.1, ((pE_g ht n 5 o (p + 1) (by omega) (by omega)).2 t).1.2.1⟩
      refine z_callV (As := []) _ gi_172_54 rfl rfl (Nat.le_of_ble_eq_true rfl) (Nat.le_of_ble_eq_true rfl) (ih o (p + 1) k _ _ (by omega) (zK_x (a := 50) (x := 16) (v := p + 1) hJ rfl) (by exact zU_e) (by exact (zU_x (by decide)).trans (hfa)) (by exact (zU_x (by decide)).trans (hop)) (by exact (zU_x (by decide)).trans (hkk)) (by omega) (by omega) (by omega)) (fun r J2 M2 R2 hr => ?_)
      obtain ⟨⟨rfl, hk2, h22, hke, eM, eR⟩, hr⟩ := hr
      obtain rfl : M = M2 := eM.symm
      obtain rfl : R = R2 := eR.symm
      have hJ2 : zK (kL [62, 63] [(50, 16), (50, 17), (50, 18), (50, 19)]) J J2 := zK_t (zK_x (a := 50) (x := 16) (v := p + 1) zK_r rfl) hk2
      have hJ3 : zK (kL [62, 63] [(50, 16), (50, 17), (50, 18), (50, 19)]) A J2 := zK_t hJ hJ2
      have hb0 : ∀ j, j < 130 + (k) → (zU J 50 16 (p + 1)) 62 j = J 62 j ∧ (zU J 50 16 (p + 1)) 63 j = J 63 j := fun j hj => ⟨(zU_n (by decide)).trans (rfl), (zU_n (by decide)).trans (rfl)⟩
      have hke2 : ∀ j, j < 130 + (k) → J2 62 j = J 62 j ∧ J2 63 j = J 63 j := fun j hj => ⟨(hke j hj).1.trans (hb0 j hj).1, (hke j hj).2.trans (hb0 j hj).2⟩
      rcases hr with ⟨ok, h27, h28, h29, hl⟩ | ⟨ok, h27, h29⟩
      · show zW _ _ _ _ _ _ _ _ _ _
        have gl2 := gl ok
        refine z_aload0 gi_172_57 ?_
        refine z_iload1 gi_172_58 ?_
        refine z_pushJ gp_172_59 ?_
        refine z_callVx (As := [_, _]) gi_172_60 rfl gk_50 (Nat.le_of_ble_eq_true rfl) (Nat.le_of_ble_eq_true rfl) (addStep_k (k := k + ((pE c n 5 o (p + 1)).2.2.length : Int)) (s := lo (c (p))) (v := 0) hR (by omega) (by exact h29) (by omega)) ?_
        show zW _ _ _ _ _ _ _ _ _ _
        refine z_goto gi_172_63 ?_
        show zW _ _ _ _ [some (.ref 50), some (zi (lo (c (p))))] [] _ _ _ _
        have gl2 := gl ok
        have hl2 : lay (zU (zU (zU J2 62 (130 + (k + ((pE c n 5 o (p + 1)).2.2.length : Int))) (lo (c (p)))) 63 (130 + (k + ((pE c n 5 o (p + 1)).2.2.length : Int))) 0) 50 19 ((k + ((pE c n 5 o (p + 1)).2.2.length : Int)) + 1)) 62 63 (130 + k) (((pE c n 5 o (p + 1)).2.2 ++ [(c p, 0)]).map enc) := by
          rw [List.map_append]
          refine lay_app _ _ _ (lay_keep _ _ (130 + k + ((pE c n 5 o (p + 1)).2.2.length : Int)) hl (by rw [List.length_map]; omega) (fun j hj => ⟨?_, ?_⟩)) ?_
          · exact (zU_n (by decide)).trans ((zU_n (by decide)).trans (zU_x (by omega)))
          · exact (zU_n (by decide)).trans (zU_x (by omega))
          · show lay _ 62 63 _ [enc (c p, 0)]
            rw [enc_b (by omega)]
            refine ⟨⟨?_, ?_⟩, trivial⟩
            · exact ((zU_n (by decide)).trans ((zU_n (by decide)).trans (zU_ex (by rw [List.length_map]; omega)))).trans (show lo (c (p)) = c p by omega)
            · exact (zU_n (by decide)).trans (zU_ex (by rw [List.length_map]; omega))
        have e1 : k + ((pE c n 5 o (p + 1)).2.2.length : Int) + 1 = k + (((pE c n 5 o (p + 1)).2.2 ++ [(c p, 0)]).length : Int) := by rw [List.length_append, List.length_singleton]; omega
        have hz := ih2 (pE c n 5 o (p + 1)).2.1 (k + (((pE c n 5 o (p + 1)).2.2 ++ [(c p, 0)]).length : Int)) (some (zi (lo (c (p))))) (D + 6) (zU (zU (zU J2 62 (130 + (k + ((pE c n 5 o (p + 1)).2.2.length : Int))) (lo (c (p)))) 63 (130 + (k + ((pE c n 5 o (p + 1)).2.2.length : Int))) 0) 50 19 ((k + ((pE c n 5 o (p + 1)).2.2.length : Int)) + 1)) (zK_x (a := 50) (x := 19) (v := (k + ((pE c n 5 o (p + 1)).2.2.length : Int)) + 1) (zK_x (a := 63) (x := 130 + (k + ((pE c n 5 o (p + 1)).2.2.length : Int))) (v := 0) (zK_x (a := 62) (x := 130 + (k + ((pE c n 5 o (p + 1)).2.2.length : Int))) (v := lo (c (p))) hJ3 rfl) rfl) rfl) ((zU_x (by decide)).trans ((zU_n (by decide)).trans ((zU_n (by decide)).trans (h22)))) ((zU_x (by decide)).trans ((zU_n (by decide)).trans ((zU_n (by decide)).trans (h27)))) ((zU_x (by decide)).trans ((zU_n (by decide)).trans ((zU_n (by decide)).trans (h28)))) (zU_e.trans e1) (by omega) (by omega) (by omega) hD
        rw [pL_t hq ok, show (pE c n 5 o (p + 1)).2.2 ++ (c p, 0) :: (pL (pE c n 5 o) c 4 j (pE c n 5 o (p + 1)).2.1).2.2 = ((pE c n 5 o (p + 1)).2.2 ++ [(c p, 0)]) ++ (pL (pE c n 5 o) c 4 j (pE c n 5 o (p + 1)).2.1).2.2 by rw [List.append_assoc]; rfl]
        exact zW_m hz (fun r6 J6 M6 R6 h => rrc (p := (pE c n 5 o (p + 1)).2.1) (by rw [List.length_append, List.length_singleton]; omega) ((zK_x (a := 50) (x := 19) (v := (k + ((pE c n 5 o (p + 1)).2.2.length : Int)) + 1) (zK_x (a := 63) (x := 130 + (k + ((pE c n 5 o (p + 1)).2.2.length : Int))) (v := 0) (zK_x (a := 62) (x := 130 + (k + ((pE c n 5 o (p + 1)).2.2.length : Int))) (v := lo (c (p))) hJ2 rfl) rfl) rfl)) (fun j hj => ⟨(zU_n (by decide)).trans ((zU_n (by decide)).trans ((zU_x (by omega)).trans ((hke2 j hj).1))), (zU_n (by decide)).trans ((zU_x (by omega)).trans ((zU_n (by decide)).trans ((hke2 j hj).2)))⟩) hl2 h)
      · show zW _ _ _ _ _ _ _ _ _ _
        refine z_aload0 gi_172_57 ?_
        refine z_iload1 gi_172_58 ?_
        refine z_pushJ gp_172_59 ?_
        refine z_callVx (As := [_, _]) gi_172_60 rfl gk_50 (Nat.le_of_ble_eq_true rfl) (Nat.le_of_ble_eq_true rfl) (addStep_k (k := J2 50 19) (s := lo (c (p))) (v := 0) hR (by omega) (by exact rfl) (by omega)) ?_
        show zW _ _ _ _ _ _ _ _ _ _
        refine z_goto gi_172_63 ?_
        show zW _ _ _ _ [some (.ref 50), some (zi (lo (c (p))))] [] _ _ _ _
        refine z_aload0 gi_172_4 ?_
        refine z_getI (v := (pE c n 5 o (p + 1)).2.1) gi_172_5 gk_50 ((zU_x (by decide)).trans ((zU_n (by decide)).trans ((zU_n (by decide)).trans (h27)))) ?_
        refine z_if_geT gi_172_8 (by omega) (by omega) ?_
        refine z_vret gi_172_66 gr_172 ?_
        rw [pL_f hq ok]
        refine ⟨⟨rfl, (zK_x (a := 50) (x := 19) (v := (J2 50 19) + 1) (zK_x (a := 63) (x := 130 + (J2 50 19)) (v := 0) (zK_x (a := 62) (x := 130 + (J2 50 19)) (v := lo (c (p))) hJ2 rfl) rfl) rfl), (zU_x (by decide)).trans ((zU_n (by decide)).trans ((zU_n (by decide)).trans (h22))), fun j hj => ⟨(zU_n (by decide)).trans ((zU_n (by decide)).trans ((zU_x (by omega)).trans ((hke2 j hj).1))), (zU_n (by decide)).trans ((zU_x (by omega)).trans ((zU_n (by decide)).trans ((hke2 j hj).2)))⟩, rfl, rfl⟩, Or.inr ⟨ok, (zU_x (by decide)).trans ((zU_n (by decide)).trans ((zU_n (by decide)).trans (h27))), ?_⟩⟩
        rw [zU_e]
        omega
    · refine z_aload0 gi_172_20 ?_
      refine z_callVP (As := []) (v := lo (c (p))) gi_172_21 rfl gk_50 (Nat.le_of_ble_eq_true rfl) (Nat.le_of_ble_eq_true rfl) (look_k hR hf hc ht hJ (by exact hat) (by omega)) ?_
      have q6 := tp_r ht (p) (by omega)
      have q7 := lo_r (c (p))
      refine z_pushJ gp_172_24 ?_
      refine z_icmp_eq gi_172_26 (by omega) zr_47 (fun h8 => ?_) (fun h8 => ?_)
      · refine z_aload0 gi_172_38 ?_
        refine z_callVP (As := []) (v := lo (c (p))) gi_172_39 rfl gk_50 (Nat.le_of_ble_eq_true rfl) (Nat.le_of_ble_eq_true rfl) (look_k hR hf hc ht hJ (by exact hat) (by omega)) ?_
        have q9 := tp_r ht (p) (by omega)
        have q10 := lo_r (c (p))
        refine z_istore (ls1 := [some (.ref 50), some (zi (lo (c (p))))]) gi_172_42 rfl ?_
        refine z_aload0 gi_172_43 ?_
        refine z_dup gi_172_44 rfl ?_
        refine z_getI (v := p) gi_172_45 gk_50 (hat) ?_
        refine z_pushJ gp_172_48 ?_
        refine z_iadd (e := p + 1) gi_172_49 rfl ?_
        refine z_putI (y := 16) gi_172_50 rfl gk_50 ?_
        refine z_aload0 gi_172_53 ?_
        have hq : rk (c p) = 4 := by unfold rk; (repeat' split) <;> omega
        have ha2 := tp_lt ht (rk_n (s := c p) (by omega)).1
        have rb := rk_b (s := c p) (by omega)
        have gx := (pE_g ht n 5 o (p + 1) (by omega) (by omega)).1
        have gl : (pE c n 5 o (p + 1)).1 = true → (p + 1 < (pE c n 5 o (p + 1)).2.1 ∧ ((pE c n 5 o (p + 1)).2.2.length : Int) ≤ (pE c n 5 o (p + 1)).2.1 - (p + 1)) := fun t => ⟨((pE_g ht n 5 o (p + 1) (by omega) (by omega)).2 t).1.1, ((pE_g ht n 5 o (p + 1) (by omega) (by omega)).2 t).1.2.1⟩
        refine z_callV (As := []) _ gi_172_54 rfl rfl (Nat.le_of_ble_eq_true rfl) (Nat.le_of_ble_eq_true rfl) (ih o (p + 1) k _ _ (by omega) (zK_x (a := 50) (x := 16) (v := p + 1) hJ rfl) (by exact zU_e) (by exact (zU_x (by decide)).trans (hfa)) (by exact (zU_x (by decide)).trans (hop)) (by exact (zU_x (by decide)).trans (hkk)) (by omega) (by omega) (by omega)) (fun r J2 M2 R2 hr => ?_)
        obtain ⟨⟨rfl, hk2, h22, hke, eM, eR⟩, hr⟩ := hr
        obtain rfl : M = M2 := eM.symm
        obtain rfl : R = R2 := eR.symm
        have hJ2 : zK (kL [62, 63] [(50, 16), (50, 17), (50, 18), (50, 19)]) J J2 := zK_t (zK_x (a := 50) (x := 16) (v := p + 1) zK_r rfl) hk2
        have hJ3 : zK (kL [62, 63] [(50, 16), (50, 17), (50, 18), (50, 19)]) A J2 := zK_t hJ hJ2
        have hb0 : ∀ j, j < 130 + (k) → (zU J 50 16 (p + 1)) 62 j = J 62 j ∧ (zU J 50 16 (p + 1)) 63 j = J 63 j := fun j hj => ⟨(zU_n (by decide)).trans (rfl), (zU_n (by decide)).trans (rfl)⟩
        have hke2 : ∀ j, j < 130 + (k) → J2 62 j = J 62 j ∧ J2 63 j = J 63 j := fun j hj => ⟨(hke j hj).1.trans (hb0 j hj).1, (hke j hj).2.trans (hb0 j hj).2⟩
        rcases hr with ⟨ok, h27, h28, h29, hl⟩ | ⟨ok, h27, h29⟩
        · show zW _ _ _ _ _ _ _ _ _ _
          have gl2 := gl ok
          refine z_aload0 gi_172_57 ?_
          refine z_iload1 gi_172_58 ?_
          refine z_pushJ gp_172_59 ?_
          refine z_callVx (As := [_, _]) gi_172_60 rfl gk_50 (Nat.le_of_ble_eq_true rfl) (Nat.le_of_ble_eq_true rfl) (addStep_k (k := k + ((pE c n 5 o (p + 1)).2.2.length : Int)) (s := lo (c (p))) (v := 0) hR (by omega) (by exact h29) (by omega)) ?_
          show zW _ _ _ _ _ _ _ _ _ _
          refine z_goto gi_172_63 ?_
          show zW _ _ _ _ [some (.ref 50), some (zi (lo (c (p))))] [] _ _ _ _
          have gl2 := gl ok
          have hl2 : lay (zU (zU (zU J2 62 (130 + (k + ((pE c n 5 o (p + 1)).2.2.length : Int))) (lo (c (p)))) 63 (130 + (k + ((pE c n 5 o (p + 1)).2.2.length : Int))) 0) 50 19 ((k + ((pE c n 5 o (p + 1)).2.2.length : Int)) + 1)) 62 63 (130 + k) (((pE c n 5 o (p + 1)).2.2 ++ [(c p, 0)]).map enc) := by
            rw [List.map_append]
            refine lay_app _ _ _ (lay_keep _ _ (130 + k + ((pE c n 5 o (p + 1)).2.2.length : Int)) hl (by rw [List.length_map]; omega) (fun j hj => ⟨?_, ?_⟩)) ?_
            · exact (zU_n (by decide)).trans ((zU_n (by decide)).trans (zU_x (by omega)))
            · exact (zU_n (by decide)).trans (zU_x (by omega))
            · show lay _ 62 63 _ [enc (c p, 0)]
              rw [enc_b (by omega)]
              refine ⟨⟨?_, ?_⟩, trivial⟩
              · exact ((zU_n (by decide)).trans ((zU_n (by decide)).trans (zU_ex (by rw [List.length_map]; omega)))).trans (show lo (c (p)) = c p by omega)
              · exact (zU_n (by decide)).trans (zU_ex (by rw [List.length_map]; omega))
          have e1 : k + ((pE c n 5 o (p + 1)).2.2.length : Int) + 1 = k + (((pE c n 5 o (p + 1)).2.2 ++ [(c p, 0)]).length : Int) := by rw [List.length_append, List.length_singleton]; omega
          have hz := ih2 (pE c n 5 o (p + 1)).2.1 (k + (((pE c n 5 o (p + 1)).2.2 ++ [(c p, 0)]).length : Int)) (some (zi (lo (c (p))))) (D + 6) (zU (zU (zU J2 62 (130 + (k + ((pE c n 5 o (p + 1)).2.2.length : Int))) (lo (c (p)))) 63 (130 + (k + ((pE c n 5 o (p + 1)).2.2.length : Int))) 0) 50 19 ((k + ((pE c n 5 o (p + 1)).2.2.length : Int)) + 1)) (zK_x (a := 50) (x := 19) (v := (k + ((pE c n 5 o (p + 1)).2.2.length : Int)) + 1) (zK_x (a := 63) (x := 130 + (k + ((pE c n 5 o (p + 1)).2.2.length : Int))) (v := 0) (zK_x (a := 62) (x := 130 + (k + ((pE c n 5 o (p + 1)).2.2.length : Int))) (v := lo (c (p))) hJ3 rfl) rfl) rfl) ((zU_x (by decide)).trans ((zU_n (by decide)).trans ((zU_n (by decide)).trans (h22)))) ((zU_x (by decide)).trans ((zU_n (by decide)).trans ((zU_n (by decide)).trans (h27)))) ((zU_x (by decide)).trans ((zU_n (by decide)).trans ((zU_n (by decide)).trans (h28)))) (zU_e.trans e1) (by omega) (by omega) (by omega) hD
          rw [pL_t hq ok, show (pE c n 5 o (p + 1)).2.2 ++ (c p, 0) :: (pL (pE c n 5 o) c 4 j (pE c n 5 o (p + 1)).2.1).2.2 = ((pE c n 5 o (p + 1)).2.2 ++ [(c p, 0)]) ++ (pL (pE c n 5 o) c 4 j (pE c n 5 o (p + 1)).2.1).2.2 by rw [List.append_assoc]; rfl]
          exact zW_m hz (fun r6 J6 M6 R6 h => rrc (p := (pE c n 5 o (p + 1)).2.1) (by rw [List.length_append, List.length_singleton]; omega) ((zK_x (a := 50) (x := 19) (v := (k + ((pE c n 5 o (p + 1)).2.2.length : Int)) + 1) (zK_x (a := 63) (x := 130 + (k + ((pE c n 5 o (p + 1)).2.2.length : Int))) (v := 0) (zK_x (a := 62) (x := 130 + (k + ((pE c n 5 o (p + 1)).2.2.length : Int))) (v := lo (c (p))) hJ2 rfl) rfl) rfl)) (fun j hj => ⟨(zU_n (by decide)).trans ((zU_n (by decide)).trans ((zU_x (by omega)).trans ((hke2 j hj).1))), (zU_n (by decide)).trans ((zU_x (by omega)).trans ((zU_n (by decide)).trans ((hke2 j hj).2)))⟩) hl2 h)
        · show zW _ _ _ _ _ _ _ _ _ _
          refine z_aload0 gi_172_57 ?_
          refine z_iload1 gi_172_58 ?_
          refine z_pushJ gp_172_59 ?_
          refine z_callVx (As := [_, _]) gi_172_60 rfl gk_50 (Nat.le_of_ble_eq_true rfl) (Nat.le_of_ble_eq_true rfl) (addStep_k (k := J2 50 19) (s := lo (c (p))) (v := 0) hR (by omega) (by exact rfl) (by omega)) ?_
          show zW _ _ _ _ _ _ _ _ _ _
          refine z_goto gi_172_63 ?_
          show zW _ _ _ _ [some (.ref 50), some (zi (lo (c (p))))] [] _ _ _ _
          refine z_aload0 gi_172_4 ?_
          refine z_getI (v := (pE c n 5 o (p + 1)).2.1) gi_172_5 gk_50 ((zU_x (by decide)).trans ((zU_n (by decide)).trans ((zU_n (by decide)).trans (h27)))) ?_
          refine z_if_geT gi_172_8 (by omega) (by omega) ?_
          refine z_vret gi_172_66 gr_172 ?_
          rw [pL_f hq ok]
          refine ⟨⟨rfl, (zK_x (a := 50) (x := 19) (v := (J2 50 19) + 1) (zK_x (a := 63) (x := 130 + (J2 50 19)) (v := 0) (zK_x (a := 62) (x := 130 + (J2 50 19)) (v := lo (c (p))) hJ2 rfl) rfl) rfl), (zU_x (by decide)).trans ((zU_n (by decide)).trans ((zU_n (by decide)).trans (h22))), fun j hj => ⟨(zU_n (by decide)).trans ((zU_n (by decide)).trans ((zU_x (by omega)).trans ((hke2 j hj).1))), (zU_n (by decide)).trans ((zU_x (by omega)).trans ((zU_n (by decide)).trans ((hke2 j hj).2)))⟩, rfl, rfl⟩, Or.inr ⟨ok, (zU_x (by decide)).trans ((zU_n (by decide)).trans ((zU_n (by decide)).trans (h27))), ?_⟩⟩
          rw [zU_e]
          omega
      · refine z_aload0 gi_172_29 ?_
        refine z_callVP (As := []) (v := lo (c (p))) gi_172_30 rfl gk_50 (Nat.le_of_ble_eq_true rfl) (Nat.le_of_ble_eq_true rfl) (look_k hR hf hc ht hJ (by exact hat) (by omega)) ?_
        have q11 := tp_r ht (p) (by omega)
        have q12 := lo_r (c (p))
        refine z_pushJ gp_172_33 ?_
        refine z_icmp_ne gi_172_35 (by omega) zr_37 (fun h13 => ?_) (fun h13 => ?_)
        · refine z_vret gi_172_66 gr_172 ?_
          rw [pL_n (show ¬ rk (c p) = 4 by unfold rk; (repeat' split) <;> omega)]
          exact ⟨⟨rfl, zK_r, hat, fun j _ => ⟨rfl, rfl⟩, rfl, rfl⟩, Or.inl ⟨rfl, hfa, hop, hkk.trans (by show k = k + ((0 : Nat) : Int); omega), trivial⟩⟩
        · refine z_aload0 gi_172_38 ?_
          refine z_callVP (As := []) (v := lo (c (p))) gi_172_39 rfl gk_50 (Nat.le_of_ble_eq_true rfl) (Nat.le_of_ble_eq_true rfl) (look_k hR hf hc ht hJ (by exact hat) (by omega)) ?_
          have q14 := tp_r ht (p) (by omega)
          have q15 := lo_r (c (p))
          refine z_istore (ls1 := [some (.ref 50), some (zi (lo (c (p))))]) gi_172_42 rfl ?_
          refine z_aload0 gi_172_43 ?_
          refine z_dup gi_172_44 rfl ?_
          refine z_getI (v := p) gi_172_45 gk_50 (hat) ?_
          refine z_pushJ gp_172_48 ?_
          refine z_iadd (e := p + 1) gi_172_49 rfl ?_
          refine z_putI (y := 16) gi_172_50 rfl gk_50 ?_
          refine z_aload0 gi_172_53 ?_
          have hq : rk (c p) = 4 := by unfold rk; (repeat' split) <;> omega
          have ha2 := tp_lt ht (rk_n (s := c p) (by omega)).1
          have rb := rk_b (s := c p) (by omega)
          have gx := (pE_g ht n 5 o (p + 1) (by omega) (by omega)).1
          have gl : (pE c n 5 o (p + 1)).1 = true → (p + 1 < (pE c n 5 o (p + 1)).2.1 ∧ ((pE c n 5 o (p + 1)).2.2.length : Int) ≤ (pE c n 5 o (p + 1)).2.1 - (p + 1)) := fun t => ⟨((pE_g ht n 5 o (p + 1) (by omega) (by omega)).2 t).1.1, ((pE_g ht n 5 o (p + 1) (by omega) (by omega)).2 t).1.2.1⟩
          refine z_callV (As := []) _ gi_172_54 rfl rfl (Nat.le_of_ble_eq_true rfl) (Nat.le_of_ble_eq_true rfl) (ih o (p + 1) k _ _ (by omega) (zK_x (a := 50) (x := 16) (v := p + 1) hJ rfl) (by exact zU_e) (by exact (zU_x (by decide)).trans (hfa)) (by exact (zU_x (by decide)).trans (hop)) (by exact (zU_x (by decide)).trans (hkk)) (by omega) (by omega) (by omega)) (fun r J2 M2 R2 hr => ?_)
          obtain ⟨⟨rfl, hk2, h22, hke, eM, eR⟩, hr⟩ := hr
          obtain rfl : M = M2 := eM.symm
          obtain rfl : R = R2 := eR.symm
          have hJ2 : zK (kL [62, 63] [(50, 16), (50, 17), (50, 18), (50, 19)]) J J2 := zK_t (zK_x (a := 50) (x := 16) (v := p + 1) zK_r rfl) hk2
          have hJ3 : zK (kL [62, 63] [(50, 16), (50, 17), (50, 18), (50, 19)]) A J2 := zK_t hJ hJ2
          have hb0 : ∀ j, j < 130 + (k) → (zU J 50 16 (p + 1)) 62 j = J 62 j ∧ (zU J 50 16 (p + 1)) 63 j = J 63 j := fun j hj => ⟨(zU_n (by decide)).trans (rfl), (zU_n (by decide)).trans (rfl)⟩
          have hke2 : ∀ j, j < 130 + (k) → J2 62 j = J 62 j ∧ J2 63 j = J 63 j := fun j hj => ⟨(hke j hj).1.trans (hb0 j hj).1, (hke j hj).2.trans (hb0 j hj).2⟩
          rcases hr with ⟨ok, h27, h28, h29, hl⟩ | ⟨ok, h27, h29⟩
          · show zW _ _ _ _ _ _ _ _ _ _
            have gl2 := gl ok
            refine z_aload0 gi_172_57 ?_
            refine z_iload1 gi_172_58 ?_
            refine z_pushJ gp_172_59 ?_
            refine z_callVx (As := [_, _]) gi_172_60 rfl gk_50 (Nat.le_of_ble_eq_true rfl) (Nat.le_of_ble_eq_true rfl) (addStep_k (k := k + ((pE c n 5 o (p + 1)).2.2.length : Int)) (s := lo (c (p))) (v := 0) hR (by omega) (by exact h29) (by omega)) ?_
            show zW _ _ _ _ _ _ _ _ _ _
            refine z_goto gi_172_63 ?_
            show zW _ _ _ _ [some (.ref 50), some (zi (lo (c (p))))] [] _ _ _ _
            have gl2 := gl ok
            have hl2 : lay (zU (zU (zU J2 62 (130 + (k + ((pE c n 5 o (p + 1)).2.2.length : Int))) (lo (c (p)))) 63 (130 + (k + ((pE c n 5 o (p + 1)).2.2.length : Int))) 0) 50 19 ((k + ((pE c n 5 o (p + 1)).2.2.length : Int)) + 1)) 62 63 (130 + k) (((pE c n 5 o (p + 1)).2.2 ++ [(c p, 0)]).map enc) := by
              rw [List.map_append]
              refine lay_app _ _ _ (lay_keep _ _ (130 + k + ((pE c n 5 o (p + 1)).2.2.length : Int)) hl (by rw [List.length_map]; omega) (fun j hj => ⟨?_, ?_⟩)) ?_
              · exact (zU_n (by decide)).trans ((zU_n (by decide)).trans (zU_x (by omega)))
              · exact (zU_n (by decide)).trans (zU_x (by omega))
              · show lay _ 62 63 _ [enc (c p, 0)]
                rw [enc_b (by omega)]
                refine ⟨⟨?_, ?_⟩, trivial⟩
                · exact ((zU_n (by decide)).trans ((zU_n (by decide)).trans (zU_ex (by rw [List.length_map]; omega)))).trans (show lo (c (p)) = c p by omega)
                · exact (zU_n (by decide)).trans (zU_ex (by rw [List.length_map]; omega))
            have e1 : k + ((pE c n 5 o (p + 1)).2.2.length : Int) + 1 = k + (((pE c n 5 o (p + 1)).2.2 ++ [(c p, 0)]).length : Int) := by rw [List.length_append, List.length_singleton]; omega
            have hz := ih2 (pE c n 5 o (p + 1)).2.1 (k + (((pE c n 5 o (p + 1)).2.2 ++ [(c p, 0)]).length : Int)) (some (zi (lo (c (p))))) (D + 6) (zU (zU (zU J2 62 (130 + (k + ((pE c n 5 o (p + 1)).2.2.length : Int))) (lo (c (p)))) 63 (130 + (k + ((pE c n 5 o (p + 1)).2.2.length : Int))) 0) 50 19 ((k + ((pE c n 5 o (p + 1)).2.2.length : Int)) + 1)) (zK_x (a := 50) (x := 19) (v := (k + ((pE c n 5 o (p + 1)).2.2.length : Int)) + 1) (zK_x (a := 63) (x := 130 + (k + ((pE c n 5 o (p + 1)).2.2.length : Int))) (v := 0) (zK_x (a := 62) (x := 130 + (k + ((pE c n 5 o (p + 1)).2.2.length : Int))) (v := lo (c (p))) hJ3 rfl) rfl) rfl) ((zU_x (by decide)).trans ((zU_n (by decide)).trans ((zU_n (by decide)).trans (h22)))) ((zU_x (by decide)).trans ((zU_n (by decide)).trans ((zU_n (by decide)).trans (h27)))) ((zU_x (by decide)).trans ((zU_n (by decide)).trans ((zU_n (by decide)).trans (h28)))) (zU_e.trans e1) (by omega) (by omega) (by omega) hD
            rw [pL_t hq ok, show (pE c n 5 o (p + 1)).2.2 ++ (c p, 0) :: (pL (pE c n 5 o) c 4 j (pE c n 5 o (p + 1)).2.1).2.2 = ((pE c n 5 o (p + 1)).2.2 ++ [(c p, 0)]) ++ (pL (pE c n 5 o) c 4 j (pE c n 5 o (p + 1)).2.1).2.2 by rw [List.append_assoc]; rfl]
            exact zW_m hz (fun r6 J6 M6 R6 h => rrc (p := (pE c n 5 o (p + 1)).2.1) (by rw [List.length_append, List.length_singleton]; omega) ((zK_x (a := 50) (x := 19) (v := (k + ((pE c n 5 o (p + 1)).2.2.length : Int)) + 1) (zK_x (a := 63) (x := 130 + (k + ((pE c n 5 o (p + 1)).2.2.length : Int))) (v := 0) (zK_x (a := 62) (x := 130 + (k + ((pE c n 5 o (p + 1)).2.2.length : Int))) (v := lo (c (p))) hJ2 rfl) rfl) rfl)) (fun j hj => ⟨(zU_n (by decide)).trans ((zU_n (by decide)).trans ((zU_x (by omega)).trans ((hke2 j hj).1))), (zU_n (by decide)).trans ((zU_x (by omega)).trans ((zU_n (by decide)).trans ((hke2 j hj).2)))⟩) hl2 h)
          · show zW _ _ _ _ _ _ _ _ _ _
            refine z_aload0 gi_172_57 ?_
            refine z_iload1 gi_172_58 ?_
            refine z_pushJ gp_172_59 ?_
            refine z_callVx (As := [_, _]) gi_172_60 rfl gk_50 (Nat.le_of_ble_eq_true rfl) (Nat.le_of_ble_eq_true rfl) (addStep_k (k := J2 50 19) (s := lo (c (p))) (v := 0) hR (by omega) (by exact rfl) (by omega)) ?_
            show zW _ _ _ _ _ _ _ _ _ _
            refine z_goto gi_172_63 ?_
            show zW _ _ _ _ [some (.ref 50), some (zi (lo (c (p))))] [] _ _ _ _
            refine z_aload0 gi_172_4 ?_
            refine z_getI (v := (pE c n 5 o (p + 1)).2.1) gi_172_5 gk_50 ((zU_x (by decide)).trans ((zU_n (by decide)).trans ((zU_n (by decide)).trans (h27)))) ?_
            refine z_if_geT gi_172_8 (by omega) (by omega) ?_
            refine z_vret gi_172_66 gr_172 ?_
            rw [pL_f hq ok]
            refine ⟨⟨rfl, (zK_x (a := 50) (x := 19) (v := (J2 50 19) + 1) (zK_x (a := 63) (x := 130 + (J2 50 19)) (v := 0) (zK_x (a := 62) (x := 130 + (J2 50 19)) (v := lo (c (p))) hJ2 rfl) rfl) rfl), (zU_x (by decide)).trans ((zU_n (by decide)).trans ((zU_n (by decide)).trans (h22))), fun j hj => ⟨(zU_n (by decide)).trans ((zU_n (by decide)).trans ((zU_x (by omega)).trans ((hke2 j hj).1))), (zU_n (by decide)).trans ((zU_x (by omega)).trans ((zU_n (by decide)).trans ((hke2 j hj).2)))⟩, rfl, rfl⟩, Or.inr ⟨ok, (zU_x (by decide)).trans ((zU_n (by decide)).trans ((zU_n (by decide)).trans (h27))), ?_⟩⟩
            rw [zU_e]
            omega
theorem rch4 {X : Nat × (Nat → Int32)} {M : zA} {R : zR} (hR : zRoR R) {A : zA} {c : Int → Int} {f : Int} (hf : A 50 15 = f) (hc : ∀ i, 0 ≤ i → i < f → A 61 i = zb (c i)) (ht : tp c f) {n : Nat} (ih : (∀ (o a k : Int) (D : Nat) (J : zA), pK n 5 o → zK (kL [62, 63] [(50, 16), (50, 17), (50, 18), (50, 19)]) A J → J 50 16 = a → J 50 17 = -1 → J 50 18 = o → J 50 19 = k → (0 ≤ a ∧ a ≤ f) → (0 ≤ k ∧ k ≤ a) → n + 8 ≤ D → zW X D 171 0 (gEn 171 [.ref 50]) [] J M R (rr c k o a (pE c n 5 o a) J M R))) : (∀ (o a k : Int) (D : Nat) (J : zA), pK (n + 1) 4 o → zK (kL [62, 63] [(50, 16), (50, 17), (50, 18), (50, 19)]) A J → J 50 16 = a → J 50 17 = -1 → J 50 18 = o → J 50 19 = k → (0 ≤ a ∧ a ≤ f) → (0 ≤ k ∧ k ≤ a) → (n + 1) + 8 ≤ D → zW X D 172 0 (gEn 172 [.ref 50]) [] J M R (rr c k o a (pE c (n + 1) 4 o a) J M R)) := by
  intro o a k D J hk hJ hat hfa hop hkk ha hk0 hD
  obtain ⟨D, rfl⟩ : ∃ e, D = e + 6 := ⟨D - 6, by omega⟩
  have tf := ht.1
  show zW _ _ _ _ [some (.ref 50), none] _ _ _ _ _
  refine z_aload0 rfl ?_
  have gx := (pE_g ht n 5 o a (by omega) ha).1
  have gl : (pE c n 5 o a).1 = true → (a < (pE c n 5 o a).2.1 ∧ ((pE c n 5 o a).2.2.length : Int) ≤ (pE c n 5 o a).2.1 - a) := fun t => ⟨((pE_g ht n 5 o a (by omega) ha).2 t).1.1, ((pE_g ht n 5 o a (by omega) ha).2 t).1.2.1⟩
  refine z_callV (As := []) _ rfl rfl rfl (Nat.le_of_ble_eq_true rfl) (Nat.le_of_ble_eq_true rfl) (ih o a k _ _ (by omega) hJ hat hfa hop hkk ha hk0 (by omega)) (fun r J2 M2 R2 hr => ?_)
  obtain ⟨⟨rfl, hk2, h22, hke, eM, eR⟩, hr⟩ := hr
  obtain rfl : M = M2 := eM.symm
  obtain rfl : R = R2 := eR.symm
  have hJ2 : zK (kL [62, 63] [(50, 16), (50, 17), (50, 18), (50, 19)]) J J2 := zK_t zK_r hk2
  have hJ3 : zK (kL [62, 63] [(50, 16), (50, 17), (50, 18), (50, 19)]) A J2 := zK_t hJ hJ2
  have hb0 : ∀ j, j < 130 + (k) → J 62 j = J 62 j ∧ J 63 j = J 63 j := fun j hj => ⟨rfl, rfl⟩
  have hke2 : ∀ j, j < 130 + (k) → J2 62 j = J 62 j ∧ J2 63 j = J 63 j := fun j hj => ⟨(hke j hj).1.trans (hb0 j hj).1, (hke j hj).2.trans (hb0 j hj).2⟩
  rcases hr with ⟨ok, h27, h28, h29, hl⟩ | ⟨ok, h27, h29⟩
  · show zW _ _ _ _ _ _ _ _ _ _
    have gl2 := gl ok
    show zW _ _ _ _ [some (.ref 50), none] [] _ _ _ _
    rw [pE_t (by decide) ok]
    have gl2 := gl ok
    have hz := rlp4 (X := X) (M := M) hR hf hc ht ih hk (pM 4) (pE c n 5 o a).2.1 (k + ((pE c n 5 o a).2.2.length : Int)) none (D + 6) J2 hJ3 h22 h27 h28 h29 (by omega) (by omega) (by show 120 ≤ (pE c n 5 o a).2.1 + ((120 : Nat) : Int); omega) hD
    exact zW_m hz (fun r6 J6 M6 R6 h => rrc (l := (pE c n 5 o a).2.2) (p := (pE c n 5 o a).2.1) (show ((pE c n 5 o a).2.2.length : Int) ≤ (pE c n 5 o a).2.1 - a by omega) hJ2 hke2 hl h)
  · show zW _ _ _ _ _ _ _ _ _ _
    refine z_aload0 gi_172_4 ?_
    refine z_getI (v := (pE c n 5 o a).2.1) gi_172_5 gk_50 (h27) ?_
    refine z_if_geT gi_172_8 (by omega) (by omega) ?_
    refine z_vret gi_172_66 gr_172 ?_
    rw [pE_f (by decide) ok]
    exact ⟨⟨rfl, hJ2, h22, hke2, rfl, rfl⟩, Or.inr ⟨ok, h27, h29⟩⟩
theorem rlp3 {X : Nat × (Nat → Int32)} {M : zA} {R : zR} (hR : zRoR R) {A : zA} {c : Int → Int} {f : Int} (hf : A 50 15 = f) (hc : ∀ i, 0 ≤ i → i < f → A 61 i = zb (c i)) (ht : tp c f) {n : Nat} (ih : (∀ (o a k : Int) (D : Nat) (J : zA), pK n 4 o → zK (kL [62, 63] [(50, 16), (50, 17), (50, 18), (50, 19)]) A J → J 50 16 = a → J 50 17 = -1 → J 50 18 = o → J 50 19 = k → (0 ≤ a ∧ a ≤ f) → (0 ≤ k ∧ k ≤ a) → n + 8 ≤ D → zW X D 172 0 (gEn 172 [.ref 50]) [] J M R (rr c k o a (pE c n 4 o a) J M R))) {o : Int} (hkr : pK (n + 1) 3 o) : ∀ (m : Nat) (p k : Int) (e1 : Option Value) (D : Nat) (J : zA), zK (kL [62, 63] [(50, 16), (50, 17), (50, 18), (50, 19)]) A J → J 50 16 = p → J 50 17 = -1 → J 50 18 = o → J 50 19 = k → (0 ≤ p ∧ p ≤ f) → (0 ≤ k ∧ k ≤ p) → 120 ≤ p + m → n + 9 ≤ D → zW X D 173 4 [some (.ref 50), e1] [] J M R (rr c k o p (pL (pE c n 4 o) c 3 m p) J M R) := by
  intro m
  induction m with
  | zero =>
    intro p k e1 D J hJ hat hfa hop hkk hp hk0 hpm hD
    obtain ⟨D, rfl⟩ : ∃ e, D = e + 6 := ⟨D - 6, by omega⟩
    have tf := ht.1
    have cp := ht.2.2 p (by omega)
    have lp : lo (c (p)) = -1 := by rw [cp]; rfl
    show zW _ _ _ _ [some (.ref 50), e1] _ _ _ _ _
    refine z_aload0 gi_173_4 ?_
    refine z_getI (v := (-1)) gi_173_5 gk_50 (hfa) ?_
    refine z_if_geF gi_173_8 zrn_1 (by decide) ?_
    refine z_aload0 gi_173_11 ?_
    refine z_callVP (As := []) (v := lo (c (p))) gi_173_12 rfl gk_50 (Nat.le_of_ble_eq_true rfl) (Nat.le_of_ble_eq_true rfl) (look_k hR hf hc ht hJ hat (by omega)) ?_
    refine z_pushJ gp_173_15 ?_
    refine z_icmp_eqF gi_173_17 (by omega) zr_43 (by omega) ?_
    refine z_aload0 gi_173_20 ?_
    refine z_callVP (As := []) (v := lo (c (p))) gi_173_21 rfl gk_50 (Nat.le_of_ble_eq_true rfl) (Nat.le_of_ble_eq_true rfl) (look_k hR hf hc ht hJ hat (by omega)) ?_
    refine z_pushJ gp_173_24 ?_
    refine z_icmp_neT gi_173_26 (by omega) zr_45 (by omega) ?_
    refine z_vret gi_173_57 gr_173 ?_
    exact ⟨⟨rfl, zK_r, hat, fun j _ => ⟨rfl, rfl⟩, rfl, rfl⟩, Or.inl ⟨rfl, hfa, hop, hkk.trans (by show k = k + ((0 : Nat) : Int); omega), trivial⟩⟩
  | succ j ih2 =>
    intro p k e1 D J hJ hat hfa hop hkk hp hk0 hpm hD
    obtain ⟨D, rfl⟩ : ∃ e, D = e + 6 := ⟨D - 6, by omega⟩
    have tf := ht.1
    show zW _ _ _ _ [some (.ref 50), e1] _ _ _ _ _
    refine z_aload0 gi_173_4 ?_
    refine z_getI (v := (-1)) gi_173_5 gk_50 (hfa) ?_
    refine z_if_geF gi_173_8 zrn_1 (by decide) ?_
    refine z_aload0 gi_173_11 ?_
    refine z_callVP (As := []) (v := lo (c (p))) gi_173_12 rfl gk_50 (Nat.le_of_ble_eq_true rfl) (Nat.le_of_ble_eq_true rfl) (look_k hR hf hc ht hJ (by exact hat) (by omega)) ?_
    have q1 := tp_r ht (p) (by omega)
    have q2 := lo_r (c (p))
    refine z_pushJ gp_173_15 ?_
    refine z_icmp_eq gi_173_17 (by omega) zr_43 (fun h3 => ?_) (fun h3 => ?_)
    · refine z_aload0 gi_173_29 ?_
      refine z_callVP (As := []) (v := lo (c (p))) gi_173_30 rfl gk_50 (Nat.le_of_ble_eq_true rfl) (Nat.le_of_ble_eq_true rfl) (look_k hR hf hc ht hJ (by exact hat) (by omega)) ?_
      have q4 := tp_r ht (p) (by omega)
      have q5 := lo_r (c (p))
      refine z_istore (ls1 := [some (.ref 50), some (zi (lo (c (p))))]) gi_173_33 rfl ?_
      refine z_aload0 gi_173_34 ?_
      refine z_dup gi_173_35 rfl ?_
      refine z_getI (v := p) gi_173_36 gk_50 (hat) ?_
      refine z_pushJ gp_173_39 ?_
      refine z_iadd (e := p + 1) gi_173_40 rfl ?_
      refine z_putI (y := 16) gi_173_41 rfl gk_50 ?_
      refine z_aload0 gi_173_44 ?_
      have hq : rk (c p) = 3 := by unfold rk; (repeat' split) <;> omega
      have ha2 := tp_lt ht (rk_n (s := c p) (by omega)).1
      have rb := rk_b (s := c p) (by omega)
      have gx := (pE_g ht n 4 o (p + 1) (by omega) (by omega)).1
      have gl : (pE c n 4 o (p + 1)).1 = true → (p + 1 < (pE c n 4 o (p + 1)).2.1 ∧ ((pE c n 4 o (p + 1)).2.2.length : Int) ≤ (pE c n 4 o (p + 1)).2.1 - (p + 1)) := fun t => ⟨((pE_g ht n 4 o (p + 1) (by omega) (by omega)).2 t).1.1, ((pE_g ht n 4 o (p + 1) (by omega) (by omega)).2 t).1.2.1⟩
      refine z_callV (As := []) _ gi_173_45 rfl rfl (Nat.le_of_ble_eq_true rfl) (Nat.le_of_ble_eq_true rfl) (ih o (p + 1) k _ _ (by omega) (zK_x (a := 50) (x := 16) (v := p + 1) hJ rfl) (by exact zU_e) (by exact (zU_x (by decide)).trans (hfa)) (by exact (zU_x (by decide)).trans (hop)) (by exact (zU_x (by decide)).trans (hkk)) (by omega) (by omega) (by omega)) (fun r J2 M2 R2 hr => ?_)
      obtain ⟨⟨rfl, hk2, h22, hke, eM, eR⟩, hr⟩ := hr
      obtain rfl : M = M2 := eM.symm
      obtain rfl : R = R2 := eR.symm
      have hJ2 : zK (kL [62, 63] [(50, 16), (50, 17), (50, 18), (50, 19)]) J J2 := zK_t (zK_x (a := 50) (x := 16) (v := p + 1) zK_r rfl) hk2
      have hJ3 : zK (kL [62, 63] [(50, 16), (50, 17), (50, 18), (50, 19)]) A J2 := zK_t hJ hJ2
      have hb0 : ∀ j, j < 130 + (k) → (zU J 50 16 (p + 1)) 62 j = J 62 j ∧ (zU J 50 16 (p + 1)) 63 j = J 63 j := fun j hj => ⟨(zU_n (by decide)).trans (rfl), (zU_n (by decide)).trans (rfl)⟩
      have hke2 : ∀ j, j < 130 + (k) → J2 62 j = J 62 j ∧ J2 63 j = J 63 j := fun j hj => ⟨(hke j hj).1.trans (hb0 j hj).1, (hke j hj).2.trans (hb0 j hj).2⟩
      rcases hr with ⟨ok, h27, h28, h29, hl⟩ | ⟨ok, h27, h29⟩
      · show zW _ _ _ _ _ _ _ _ _ _
        have gl2 := gl ok
        refine z_aload0 gi_173_48 ?_
        refine z_iload1 gi_173_49 ?_
        refine z_pushJ gp_173_50 ?_
        refine z_callVx (As := [_, _]) gi_173_51 rfl gk_50 (Nat.le_of_ble_eq_true rfl) (Nat.le_of_ble_eq_true rfl) (addStep_k (k := k + ((pE c n 4 o (p + 1)).2.2.length : Int)) (s := lo (c (p))) (v := 0) hR (by omega) (by exact h29) (by omega)) ?_
        show zW _ _ _ _ _ _ _ _ _ _
        refine z_goto gi_173_54 ?_
        show zW _ _ _ _ [some (.ref 50), some (zi (lo (c (p))))] [] _ _ _ _
        have gl2 := gl ok
        have hl2 : lay (zU (zU (zU J2 62 (130 + (k + ((pE c n 4 o (p + 1)).2.2.length : Int))) (lo (c (p)))) 63 (130 + (k + ((pE c n 4 o (p + 1)).2.2.length : Int))) 0) 50 19 ((k + ((pE c n 4 o (p + 1)).2.2.length : Int)) + 1)) 62 63 (130 + k) (((pE c n 4 o (p + 1)).2.2 ++ [(c p, 0)]).map enc) := by
          rw [List.map_append]
          refine lay_app _ _ _ (lay_keep _ _ (130 + k + ((pE c n 4 o (p + 1)).2.2.length : Int)) hl (by rw [List.length_map]; omega) (fun j hj => ⟨?_, ?_⟩)) ?_
          · exact (zU_n (by decide)).trans ((zU_n (by decide)).trans (zU_x (by omega)))
          · exact (zU_n (by decide)).trans (zU_x (by omega))
          · show lay _ 62 63 _ [enc (c p, 0)]
            rw [enc_b (by omega)]
            refine ⟨⟨?_, ?_⟩, trivial⟩
            · exact ((zU_n (by decide)).trans ((zU_n (by decide)).trans (zU_ex (by rw [List.length_map]; omega)))).trans (show lo (c (p)) = c p by omega)
            · exact (zU_n (by decide)).trans (zU_ex (by rw [List.length_map]; omega))
        have e1 : k + ((pE c n 4 o (p + 1)).2.2.length : Int) + 1 = k + (((pE c n 4 o (p + 1)).2.2 ++ [(c p, 0)]).length : Int) := by rw [List.length_append, List.length_singleton]; omega
        have hz := ih2 (pE c n 4 o (p + 1)).2.1 (k + (((pE c n 4 o (p + 1)).2.2 ++ [(c p, 0)]).length : Int)) (some (zi (lo (c (p))))) (D + 6) (zU (zU (zU J2 62 (130 + (k + ((pE c n 4 o (p + 1)).2.2.length : Int))) (lo (c (p)))) 63 (130 + (k + ((pE c n 4 o (p + 1)).2.2.length : Int))) 0) 50 19 ((k + ((pE c n 4 o (p + 1)).2.2.length : Int)) + 1)) (zK_x (a := 50) (x := 19) (v := (k + ((pE c n 4 o (p + 1)).2.2.length : Int)) + 1) (zK_x (a := 63) (x := 130 + (k + ((pE c n 4 o (p + 1)).2.2.length : Int))) (v := 0) (zK_x (a := 62) (x := 130 + (k + ((pE c n 4 o (p + 1)).2.2.length : Int))) (v := lo (c (p))) hJ3 rfl) rfl) rfl) ((zU_x (by decide)).trans ((zU_n (by decide)).trans ((zU_n (by decide)).trans (h22)))) ((zU_x (by decide)).trans ((zU_n (by decide)).trans ((zU_n (by decide)).trans (h27)))) ((zU_x (by decide)).trans ((zU_n (by decide)).trans ((zU_n (by decide)).trans (h28)))) (zU_e.trans e1) (by omega) (by omega) (by omega) hD
        rw [pL_t hq ok, show (pE c n 4 o (p + 1)).2.2 ++ (c p, 0) :: (pL (pE c n 4 o) c 3 j (pE c n 4 o (p + 1)).2.1).2.2 = ((pE c n 4 o (p + 1)).2.2 ++ [(c p, 0)]) ++ (pL (pE c n 4 o) c 3 j (pE c n 4 o (p + 1)).2.1).2.2 by rw [List.append_assoc]; rfl]
        exact zW_m hz (fun r6 J6 M6 R6 h => rrc (p := (pE c n 4 o (p + 1)).2.1) (by rw [List.length_append, List.length_singleton]; omega) ((zK_x (a := 50) (x := 19) (v := (k + ((pE c n 4 o (p + 1)).2.2.length : Int)) + 1) (zK_x (a := 63) (x := 130 + (k + ((pE c n 4 o (p + 1)).2.2.length : Int))) (v := 0) (zK_x (a := 62) (x := 130 + (k + ((pE c n 4 o (p + 1)).2.2.length : Int))) (v := lo (c (p))) hJ2 rfl) rfl) rfl)) (fun j hj => ⟨(zU_n (by decide)).trans ((zU_n (by decide)).trans ((zU_x (by omega)).trans ((hke2 j hj).1))), (zU_n (by decide)).trans ((zU_x (by omega)).trans ((zU_n (by decide)).trans ((hke2 j hj).2)))⟩) hl2 h)
      · show zW _ _ _ _ _ _ _ _ _ _
        refine z_aload0 gi_173_48 ?_
        refine z_iload1 gi_173_49 ?_
        refine z_pushJ gp_173_50 ?_
        refine z_callVx (As := [_, _]) gi_173_51 rfl gk_50 (Nat.le_of_ble_eq_true rfl) (Nat.le_of_ble_eq_true rfl) (addStep_k (k := J2 50 19) (s := lo (c (p))) (v := 0) hR (by omega) (by exact rfl) (by omega)) ?_
        show zW _ _ _ _ _ _ _ _ _ _
        refine z_goto gi_173_54 ?_
        show zW _ _ _ _ [some (.ref 50), some (zi (lo (c (p))))] [] _ _ _ _
        refine z_aload0 gi_173_4 ?_
        refine z_getI (v := (pE c n 4 o (p + 1)).2.1) gi_173_5 gk_50 ((zU_x (by decide)).trans ((zU_n (by decide)).trans ((zU_n (by decide)).trans (h27)))) ?_
        refine z_if_geT gi_173_8 (by omega) (by omega) ?_
        refine z_vret gi_173_57 gr_173 ?_
        rw [pL_f hq ok]
        refine ⟨⟨rfl, (zK_x (a := 50) (x := 19) (v := (J2 50 19) + 1) (zK_x (a := 63) (x := 130 + (J2 50 19)) (v := 0) (zK_x (a := 62) (x := 130 + (J2 50 19)) (v := lo (c (p))) hJ2 rfl) rfl) rfl), (zU_x (by decide)).trans ((zU_n (by decide)).trans ((zU_n (by decide)).trans (h22))), fun j hj => ⟨(zU_n (by decide)).trans ((zU_n (by decide)).trans ((zU_x (by omega)).trans ((hke2 j hj).1))), (zU_n (by decide)).trans ((zU_x (by omega)).trans ((zU_n (by decide)).trans ((hke2 j hj).2)))⟩, rfl, rfl⟩, Or.inr ⟨ok, (zU_x (by decide)).trans ((zU_n (by decide)).trans ((zU_n (by decide)).trans (h27))), ?_⟩⟩
        rw [zU_e]
        omega
    · refine z_aload0 gi_173_20 ?_
      refine z_callVP (As := []) (v := lo (c (p))) gi_173_21 rfl gk_50 (Nat.le_of_ble_eq_true rfl) (Nat.le_of_ble_eq_true rfl) (look_k hR hf hc ht hJ (by exact hat) (by omega)) ?_
      have q6 := tp_r ht (p) (by omega)
      have q7 := lo_r (c (p))
      refine z_pushJ gp_173_24 ?_
      refine z_icmp_ne gi_173_26 (by omega) zr_45 (fun h8 => ?_) (fun h8 => ?_)
      · refine z_vret gi_173_57 gr_173 ?_
        rw [pL_n (show ¬ rk (c p) = 3 by unfold rk; (repeat' split) <;> omega)]
        exact ⟨⟨rfl, zK_r, hat, fun j _ => ⟨rfl, rfl⟩, rfl, rfl⟩, Or.inl ⟨rfl, hfa, hop, hkk.trans (by show k = k + ((0 : Nat) : Int); omega), trivial⟩⟩
      · refine z_aload0 gi_173_29 ?_
        refine z_callVP (As := []) (v := lo (c (p))) gi_173_30 rfl gk_50 (Nat.le_of_ble_eq_true rfl) (Nat.le_of_ble_eq_true rfl) (look_k hR hf hc ht hJ (by exact hat) (by omega)) ?_
        have q9 := tp_r ht (p) (by omega)
        have q10 := lo_r (c (p))
        refine z_istore (ls1 := [some (.ref 50), some (zi (lo (c (p))))]) gi_173_33 rfl ?_
        refine z_aload0 gi_173_34 ?_
        refine z_dup gi_173_35 rfl ?_
        refine z_getI (v := p) gi_173_36 gk_50 (hat) ?_
        refine z_pushJ gp_173_39 ?_
        refine z_iadd (e := p + 1) gi_173_40 rfl ?_
        refine z_putI (y := 16) gi_173_41 rfl gk_50 ?_
        refine z_aload0 gi_173_44 ?_
        have hq : rk (c p) = 3 := by unfold rk; (repeat' split) <;> omega
        have ha2 := tp_lt ht (rk_n (s := c p) (by omega)).1
        have rb := rk_b (s := c p) (by omega)
        have gx := (pE_g ht n 4 o (p + 1) (by omega) (by omega)).1
        have gl : (pE c n 4 o (p + 1)).1 = true → (p + 1 < (pE c n 4 o (p + 1)).2.1 ∧ ((pE c n 4 o (p + 1)).2.2.length : Int) ≤ (pE c n 4 o (p + 1)).2.1 - (p + 1)) := fun t => ⟨((pE_g ht n 4 o (p + 1) (by omega) (by omega)).2 t).1.1, ((pE_g ht n 4 o (p + 1) (by omega) (by omega)).2 t).1.2.1⟩
        refine z_callV (As := []) _ gi_173_45 rfl rfl (Nat.le_of_ble_eq_true rfl) (Nat.le_of_ble_eq_true rfl) (ih o (p + 1) k _ _ (by omega) (zK_x (a := 50) (x := 16) (v := p + 1) hJ rfl) (by exact zU_e) (by exact (zU_x (by decide)).trans (hfa)) (by exact (zU_x (by decide)).trans (hop)) (by exact (zU_x (by decide)).trans (hkk)) (by omega) (by omega) (by omega)) (fun r J2 M2 R2 hr => ?_)
        obtain ⟨⟨rfl, hk2, h22, hke, eM, eR⟩, hr⟩ := hr
        obtain rfl : M = M2 := eM.symm
        obtain rfl : R = R2 := eR.symm
        have hJ2 : zK (kL [62, 63] [(50, 16), (50, 17), (50, 18), (50, 19)]) J J2 := zK_t (zK_x (a := 50) (x := 16) (v := p + 1) zK_r rfl) hk2
        have hJ3 : zK (kL [62, 63] [(50, 16), (50, 17), (50, 18), (50, 19)]) A J2 := zK_t hJ hJ2
        have hb0 : ∀ j, j < 130 + (k) → (zU J 50 16 (p + 1)) 62 j = J 62 j ∧ (zU J 50 16 (p + 1)) 63 j = J 63 j := fun j hj => ⟨(zU_n (by decide)).trans (rfl), (zU_n (by decide)).trans (rfl)⟩
        have hke2 : ∀ j, j < 130 + (k) → J2 62 j = J 62 j ∧ J2 63 j = J 63 j := fun j hj => ⟨(hke j hj).1.trans (hb0 j hj).1, (hke j hj).2.trans (hb0 j hj).2⟩
        rcases hr with ⟨ok, h27, h28, h29, hl⟩ | ⟨ok, h27, h29⟩
        · show zW _ _ _ _ _ _ _ _ _ _
          have gl2 := gl ok
          refine z_aload0 gi_173_48 ?_
          refine z_iload1 gi_173_49 ?_
          refine z_pushJ gp_173_50 ?_
          refine z_callVx (As := [_, _]) gi_173_51 rfl gk_50 (Nat.le_of_ble_eq_true rfl) (Nat.le_of_ble_eq_true rfl) (addStep_k (k := k + ((pE c n 4 o (p + 1)).2.2.length : Int)) (s := lo (c (p))) (v := 0) hR (by omega) (by exact h29) (by omega)) ?_
          show zW _ _ _ _ _ _ _ _ _ _
          refine z_goto gi_173_54 ?_
          show zW _ _ _ _ [some (.ref 50), some (zi (lo (c (p))))] [] _ _ _ _
          have gl2 := gl ok
          have hl2 : lay (zU (zU (zU J2 62 (130 + (k + ((pE c n 4 o (p + 1)).2.2.length : Int))) (lo (c (p)))) 63 (130 + (k + ((pE c n 4 o (p + 1)).2.2.length : Int))) 0) 50 19 ((k + ((pE c n 4 o (p + 1)).2.2.length : Int)) + 1)) 62 63 (130 + k) (((pE c n 4 o (p + 1)).2.2 ++ [(c p, 0)]).map enc) := by
            rw [List.map_append]
            refine lay_app _ _ _ (lay_keep _ _ (130 + k + ((pE c n 4 o (p + 1)).2.2.length : Int)) hl (by rw [List.length_map]; omega) (fun j hj => ⟨?_, ?_⟩)) ?_
            · exact (zU_n (by decide)).trans ((zU_n (by decide)).trans (zU_x (by omega)))
            · exact (zU_n (by decide)).trans (zU_x (by omega))
            · show lay _ 62 63 _ [enc (c p, 0)]
              rw [enc_b (by omega)]
              refine ⟨⟨?_, ?_⟩, trivial⟩
              · exact ((zU_n (by decide)).trans ((zU_n (by decide)).trans (zU_ex (by rw [List.length_map]; omega)))).trans (show lo (c (p)) = c p by omega)
              · exact (zU_n (by decide)).trans (zU_ex (by rw [List.length_map]; omega))
          have e1 : k + ((pE c n 4 o (p + 1)).2.2.length : Int) + 1 = k + (((pE c n 4 o (p + 1)).2.2 ++ [(c p, 0)]).length : Int) := by rw [List.length_append, List.length_singleton]; omega
          have hz := ih2 (pE c n 4 o (p + 1)).2.1 (k + (((pE c n 4 o (p + 1)).2.2 ++ [(c p, 0)]).length : Int)) (some (zi (lo (c (p))))) (D + 6) (zU (zU (zU J2 62 (130 + (k + ((pE c n 4 o (p + 1)).2.2.length : Int))) (lo (c (p)))) 63 (130 + (k + ((pE c n 4 o (p + 1)).2.2.length : Int))) 0) 50 19 ((k + ((pE c n 4 o (p + 1)).2.2.length : Int)) + 1)) (zK_x (a := 50) (x := 19) (v := (k + ((pE c n 4 o (p + 1)).2.2.length : Int)) + 1) (zK_x (a := 63) (x := 130 + (k + ((pE c n 4 o (p + 1)).2.2.length : Int))) (v := 0) (zK_x (a := 62) (x := 130 + (k + ((pE c n 4 o (p + 1)).2.2.length : Int))) (v := lo (c (p))) hJ3 rfl) rfl) rfl) ((zU_x (by decide)).trans ((zU_n (by decide)).trans ((zU_n (by decide)).trans (h22)))) ((zU_x (by decide)).trans ((zU_n (by decide)).trans ((zU_n (by decide)).trans (h27)))) ((zU_x (by decide)).trans ((zU_n (by decide)).trans ((zU_n (by decide)).trans (h28)))) (zU_e.trans e1) (by omega) (by omega) (by omega) hD
          rw [pL_t hq ok, show (pE c n 4 o (p + 1)).2.2 ++ (c p, 0) :: (pL (pE c n 4 o) c 3 j (pE c n 4 o (p + 1)).2.1).2.2 = ((pE c n 4 o (p + 1)).2.2 ++ [(c p, 0)]) ++ (pL (pE c n 4 o) c 3 j (pE c n 4 o (p + 1)).2.1).2.2 by rw [List.append_assoc]; rfl]
          exact zW_m hz (fun r6 J6 M6 R6 h => rrc (p := (pE c n 4 o (p + 1)).2.1) (by rw [List.length_append, List.length_singleton]; omega) ((zK_x (a := 50) (x := 19) (v := (k + ((pE c n 4 o (p + 1)).2.2.length : Int)) + 1) (zK_x (a := 63) (x := 130 + (k + ((pE c n 4 o (p + 1)).2.2.length : Int))) (v := 0) (zK_x (a := 62) (x := 130 + (k + ((pE c n 4 o (p + 1)).2.2.length : Int))) (v := lo (c (p))) hJ2 rfl) rfl) rfl)) (fun j hj => ⟨(zU_n (by decide)).trans ((zU_n (by decide)).trans ((zU_x (by omega)).trans ((hke2 j hj).1))), (zU_n (by decide)).trans ((zU_x (by omega)).trans ((zU_n (by decide)).trans ((hke2 j hj).2)))⟩) hl2 h)
        · show zW _ _ _ _ _ _ _ _ _ _
          refine z_aload0 gi_173_48 ?_
          refine z_iload1 gi_173_49 ?_
          refine z_pushJ gp_173_50 ?_
          refine z_callVx (As := [_, _]) gi_173_51 rfl gk_50 (Nat.le_of_ble_eq_true rfl) (Nat.le_of_ble_eq_true rfl) (addStep_k (k := J2 50 19) (s := lo (c (p))) (v := 0) hR (by omega) (by exact rfl) (by omega)) ?_
          show zW _ _ _ _ _ _ _ _ _ _
          refine z_goto gi_173_54 ?_
          show zW _ _ _ _ [some (.ref 50), some (zi (lo (c (p))))] [] _ _ _ _
          refine z_aload0 gi_173_4 ?_
          refine z_getI (v := (pE c n 4 o (p + 1)).2.1) gi_173_5 gk_50 ((zU_x (by decide)).trans ((zU_n (by decide)).trans ((zU_n (by decide)).trans (h27)))) ?_
          refine z_if_geT gi_173_8 (by omega) (by omega) ?_
          refine z_vret gi_173_57 gr_173 ?_
          rw [pL_f hq ok]
          refine ⟨⟨rfl, (zK_x (a := 50) (x := 19) (v := (J2 50 19) + 1) (zK_x (a := 63) (x := 130 + (J2 50 19)) (v := 0) (zK_x (a := 62) (x := 130 + (J2 50 19)) (v := lo (c (p))) hJ2 rfl) rfl) rfl), (zU_x (by decide)).trans ((zU_n (by decide)).trans ((zU_n (by decide)).trans (h22))), fun j hj => ⟨(zU_n (by decide)).trans ((zU_n (by decide)).trans ((zU_x (by omega)).trans ((hke2 j hj).1))), (zU_n (by decide)).trans ((zU_x (by omega)).trans ((zU_n (by decide)).trans ((hke2 j hj).2)))⟩, rfl, rfl⟩, Or.inr ⟨ok, (zU_x (by decide)).trans ((zU_n (by decide)).trans ((zU_n (by decide)).trans (h27))), ?_⟩⟩
          rw [zU_e]
          omega
theorem rch3 {X : Nat × (Nat → Int32)} {M : zA} {R : zR} (hR : zRoR R) {A : zA} {c : Int → Int} {f : Int} (hf : A 50 15 = f) (hc : ∀ i, 0 ≤ i → i < f → A 61 i = zb (c i)) (ht : tp c f) {n : Nat} (ih : (∀ (o a k : Int) (D : Nat) (J : zA), pK n 4 o → zK (kL [62, 63] [(50, 16), (50, 17), (50, 18), (50, 19)]) A J → J 50 16 = a → J 50 17 = -1 → J 50 18 = o → J 50 19 = k → (0 ≤ a ∧ a ≤ f) → (0 ≤ k ∧ k ≤ a) → n + 8 ≤ D → zW X D 172 0 (gEn 172 [.ref 50]) [] J M R (rr c k o a (pE c n 4 o a) J M R))) : (∀ (o a k : Int) (D : Nat) (J : zA), pK (n + 1) 3 o → zK (kL [62, 63] [(50, 16), (50, 17), (50, 18), (50, 19)]) A J → J 50 16 = a → J 50 17 = -1 → J 50 18 = o → J 50 19 = k → (0 ≤ a ∧ a ≤ f) → (0 ≤ k ∧ k ≤ a) → (n + 1) + 8 ≤ D → zW X D 173 0 (gEn 173 [.ref 50]) [] J M R (rr c k o a (pE c (n + 1) 3 o a) J M R)) := by
  intro o a k D J hk hJ hat hfa hop hkk ha hk0 hD
  obtain ⟨D, rfl⟩ : ∃ e, D = e + 6 := ⟨D - 6, by omega⟩
  have tf := ht.1
  show zW _ _ _ _ [some (.ref 50), none] _ _ _ _ _
  refine z_aload0 rfl ?_
  have gx := (pE_g ht n 4 o a (by omega) ha).1
  have gl : (pE c n 4 o a).1 = true → (a < (pE c n 4 o a).2.1 ∧ ((pE c n 4 o a).2.2.length : Int) ≤ (pE c n 4 o a).2.1 - a) := fun t => ⟨((pE_g ht n 4 o a (by omega) ha).2 t).1.1, ((pE_g ht n 4 o a (by omega) ha).2 t).1.2.1⟩
  refine z_callV (As := []) _ rfl rfl rfl (Nat.le_of_ble_eq_true rfl) (Nat.le_of_ble_eq_true rfl) (ih o a k _ _ (by omega) hJ hat hfa hop hkk ha hk0 (by omega)) (fun r J2 M2 R2 hr => ?_)
  obtain ⟨⟨rfl, hk2, h22, hke, eM, eR⟩, hr⟩ := hr
  obtain rfl : M = M2 := eM.symm
  obtain rfl : R = R2 := eR.symm
  have hJ2 : zK (kL [62, 63] [(50, 16), (50, 17), (50, 18), (50, 19)]) J J2 := zK_t zK_r hk2
  have hJ3 : zK (kL [62, 63] [(50, 16), (50, 17), (50, 18), (50, 19)]) A J2 := zK_t hJ hJ2
  have hb0 : ∀ j, j < 130 + (k) → J 62 j = J 62 j ∧ J 63 j = J 63 j := fun j hj => ⟨rfl, rfl⟩
  have hke2 : ∀ j, j < 130 + (k) → J2 62 j = J 62 j ∧ J2 63 j = J 63 j := fun j hj => ⟨(hke j hj).1.trans (hb0 j hj).1, (hke j hj).2.trans (hb0 j hj).2⟩
  rcases hr with ⟨ok, h27, h28, h29, hl⟩ | ⟨ok, h27, h29⟩
  · show zW _ _ _ _ _ _ _ _ _ _
    have gl2 := gl ok
    show zW _ _ _ _ [some (.ref 50), none] [] _ _ _ _
    rw [pE_t (by decide) ok]
    have gl2 := gl ok
    have hz := rlp3 (X := X) (M := M) hR hf hc ht ih hk (pM 3) (pE c n 4 o a).2.1 (k + ((pE c n 4 o a).2.2.length : Int)) none (D + 6) J2 hJ3 h22 h27 h28 h29 (by omega) (by omega) (by show 120 ≤ (pE c n 4 o a).2.1 + ((120 : Nat) : Int); omega) hD
    exact zW_m hz (fun r6 J6 M6 R6 h => rrc (l := (pE c n 4 o a).2.2) (p := (pE c n 4 o a).2.1) (show ((pE c n 4 o a).2.2.length : Int) ≤ (pE c n 4 o a).2.1 - a by omega) hJ2 hke2 hl h)
  · show zW _ _ _ _ _ _ _ _ _ _
    refine z_aload0 gi_173_4 ?_
    refine z_getI (v := (pE c n 4 o a).2.1) gi_173_5 gk_50 (h27) ?_
    refine z_if_geT gi_173_8 (by omega) (by omega) ?_
    refine z_vret gi_173_57 gr_173 ?_
    rw [pE_f (by decide) ok]
    exact ⟨⟨rfl, hJ2, h22, hke2, rfl, rfl⟩, Or.inr ⟨ok, h27, h29⟩⟩
theorem rlp2 {X : Nat × (Nat → Int32)} {M : zA} {R : zR} (hR : zRoR R) {A : zA} {c : Int → Int} {f : Int} (hf : A 50 15 = f) (hc : ∀ i, 0 ≤ i → i < f → A 61 i = zb (c i)) (ht : tp c f) {n : Nat} (ih : (∀ (o a k : Int) (D : Nat) (J : zA), pK n 3 o → zK (kL [62, 63] [(50, 16), (50, 17), (50, 18), (50, 19)]) A J → J 50 16 = a → J 50 17 = -1 → J 50 18 = o → J 50 19 = k → (0 ≤ a ∧ a ≤ f) → (0 ≤ k ∧ k ≤ a) → n + 8 ≤ D → zW X D 173 0 (gEn 173 [.ref 50]) [] J M R (rr c k o a (pE c n 3 o a) J M R))) {o : Int} (hkr : pK (n + 1) 2 o) : ∀ (p k : Int) (e1 : Option Value) (D : Nat) (J : zA), zK (kL [62, 63] [(50, 16), (50, 17), (50, 18), (50, 19)]) A J → J 50 16 = p → J 50 17 = -1 → J 50 18 = o → J 50 19 = k → (0 ≤ p ∧ p ≤ f) → (0 ≤ k ∧ k ≤ p) → n + 9 ≤ D → zW X D 174 4 [some (.ref 50), e1] [] J M R (rr c k o p (pL (pE c n 3 o) c 2 1 p) J M R) := by
  intro p k e1 D J hJ hat hfa hop hkk hp hk0 hD
  obtain ⟨D, rfl⟩ : ∃ e, D = e + 6 := ⟨D - 6, by omega⟩
  have tf := ht.1
  show zW _ _ _ _ [some (.ref 50), e1] _ _ _ _ _
  refine z_aload0 gi_174_4 ?_
  refine z_callVP (As := []) (v := lo (c (p))) gi_174_5 rfl gk_50 (Nat.le_of_ble_eq_true rfl) (Nat.le_of_ble_eq_true rfl) (look_k hR hf hc ht hJ (by exact hat) (by omega)) ?_
  have q1 := tp_r ht (p) (by omega)
  have q2 := lo_r (c (p))
  refine z_istore (ls1 := [some (.ref 50), some (zi (lo (c (p))))]) gi_174_8 rfl ?_
  refine z_aload0 gi_174_9 ?_
  refine z_getI (v := (-1)) gi_174_10 gk_50 (hfa) ?_
  refine z_if_geF gi_174_13 zrn_1 (by decide) ?_
  refine z_iload1 rfl ?_
  refine z_pushJ gp_174_17 ?_
  refine z_icmp_eq rfl (by omega) zr_60 (fun h3 => ?_) (fun h3 => ?_)
  · refine z_aload0 gi_174_35 ?_
    refine z_dup gi_174_36 rfl ?_
    refine z_getI (v := p) gi_174_37 gk_50 (hat) ?_
    refine z_pushJ gp_174_40 ?_
    refine z_iadd (e := p + 1) gi_174_41 rfl ?_
    refine z_putI (y := 16) gi_174_42 rfl gk_50 ?_
    refine z_aload0 gi_174_45 ?_
    have hq : rk (c p) = 2 := by unfold rk; (repeat' split) <;> omega
    have ha2 := tp_lt ht (rk_n (s := c p) (by omega)).1
    have rb := rk_b (s := c p) (by omega)
    have gx := (pE_g ht n 3 o (p + 1) (by omega) (by omega)).1
    have gl : (pE c n 3 o (p + 1)).1 = true → (p + 1 < (pE c n 3 o (p + 1)).2.1 ∧ ((pE c n 3 o (p + 1)).2.2.length : Int) ≤ (pE c n 3 o (p + 1)).2.1 - (p + 1)) := fun t => ⟨((pE_g ht n 3 o (p + 1) (by omega) (by omega)).2 t).1.1, ((pE_g ht n 3 o (p + 1) (by omega) (by omega)).2 t).1.2.1⟩
    refine z_callV (As := []) _ gi_174_46 rfl rfl (Nat.le_of_ble_eq_true rfl) (Nat.le_of_ble_eq_true rfl) (ih o (p + 1) k _ _ (by omega) (zK_x (a := 50) (x := 16) (v := p + 1) hJ rfl) (by exact zU_e) (by exact (zU_x (by decide)).trans (hfa)) (by exact (zU_x (by decide)).trans (hop)) (by exact (zU_x (by decide)).trans (hkk)) (by omega) (by omega) (by omega)) (fun r J2 M2 R2 hr => ?_)
    obtain ⟨⟨rfl, hk2, h22, hke, eM, eR⟩, hr⟩ := hr
    obtain rfl : M = M2 := eM.symm
    obtain rfl : R = R2 := eR.symm
    have hJ2 : zK (kL [62, 63] [(50, 16), (50, 17), (50, 18), (50, 19)]) J J2 := zK_t (zK_x (a := 50) (x := 16) (v := p + 1) zK_r rfl) hk2
    have hJ3 : zK (kL [62, 63] [(50, 16), (50, 17), (50, 18), (50, 19)]) A J2 := zK_t hJ hJ2
    have hb0 : ∀ j, j < 130 + (k) → (zU J 50 16 (p + 1)) 62 j = J 62 j ∧ (zU J 50 16 (p + 1)) 63 j = J 63 j := fun j hj => ⟨(zU_n (by decide)).trans (rfl), (zU_n (by decide)).trans (rfl)⟩
    have hke2 : ∀ j, j < 130 + (k) → J2 62 j = J 62 j ∧ J2 63 j = J 63 j := fun j hj => ⟨(hke j hj).1.trans (hb0 j hj).1, (hke j hj).2.trans (hb0 j hj).2⟩
    rcases hr with ⟨ok, h27, h28, h29, hl⟩ | ⟨ok, h27, h29⟩
    · show zW _ _ _ _ _ _ _ _ _ _
      have gl2 := gl ok
      refine z_aload0 gi_174_49 ?_
      refine z_iload1 gi_174_50 ?_
      refine z_pushJ gp_174_51 ?_
      refine z_callVx (As := [_, _]) gi_174_52 rfl gk_50 (Nat.le_of_ble_eq_true rfl) (Nat.le_of_ble_eq_true rfl) (addStep_k (k := k + ((pE c n 3 o (p + 1)).2.2.length : Int)) (s := lo (c (p))) (v := 0) hR (by omega) (by exact h29) (by omega)) ?_
      show zW _ _ _ _ _ _ _ _ _ _
      refine z_vret gi_174_55 gr_174 ?_
      have gl2 := gl ok
      have hl2 : lay (zU (zU (zU J2 62 (130 + (k + ((pE c n 3 o (p + 1)).2.2.length : Int))) (lo (c (p)))) 63 (130 + (k + ((pE c n 3 o (p + 1)).2.2.length : Int))) 0) 50 19 ((k + ((pE c n 3 o (p + 1)).2.2.length : Int)) + 1)) 62 63 (130 + k) (((pE c n 3 o (p + 1)).2.2 ++ [(c p, 0)]).map enc) := by
        rw [List.map_append]
        refine lay_app _ _ _ (lay_keep _ _ (130 + k + ((pE c n 3 o (p + 1)).2.2.length : Int)) hl (by rw [List.length_map]; omega) (fun j hj => ⟨?_, ?_⟩)) ?_
        · exact (zU_n (by decide)).trans ((zU_n (by decide)).trans (zU_x (by omega)))
        · exact (zU_n (by decide)).trans (zU_x (by omega))
        · show lay _ 62 63 _ [enc (c p, 0)]
          rw [enc_b (by omega)]
          refine ⟨⟨?_, ?_⟩, trivial⟩
          · exact ((zU_n (by decide)).trans ((zU_n (by decide)).trans (zU_ex (by rw [List.length_map]; omega)))).trans (show lo (c (p)) = c p by omega)
          · exact (zU_n (by decide)).trans (zU_ex (by rw [List.length_map]; omega))
      rw [pL_t hq ok]
      refine ⟨⟨rfl, (zK_x (a := 50) (x := 19) (v := (k + ((pE c n 3 o (p + 1)).2.2.length : Int)) + 1) (zK_x (a := 63) (x := 130 + (k + ((pE c n 3 o (p + 1)).2.2.length : Int))) (v := 0) (zK_x (a := 62) (x := 130 + (k + ((pE c n 3 o (p + 1)).2.2.length : Int))) (v := lo (c (p))) hJ2 rfl) rfl) rfl), (zU_x (by decide)).trans ((zU_n (by decide)).trans ((zU_n (by decide)).trans (h22))), fun j hj => ⟨(zU_n (by decide)).trans ((zU_n (by decide)).trans ((zU_x (by omega)).trans ((hke2 j hj).1))), (zU_n (by decide)).trans ((zU_x (by omega)).trans ((zU_n (by decide)).trans ((hke2 j hj).2)))⟩, rfl, rfl⟩, Or.inl ⟨rfl, (zU_x (by decide)).trans ((zU_n (by decide)).trans ((zU_n (by decide)).trans (h27))), (zU_x (by decide)).trans ((zU_n (by decide)).trans ((zU_n (by decide)).trans (h28))), ?_, hl2⟩⟩
      rw [zU_e]
      show k + ((pE c n 3 o (p + 1)).2.2.length : Int) + 1 = k + (((pE c n 3 o (p + 1)).2.2 ++ [(c p, 0)]).length : Int)
      rw [List.length_append, List.length_singleton]
      omega
    · show zW _ _ _ _ _ _ _ _ _ _
      refine z_aload0 gi_174_49 ?_
      refine z_iload1 gi_174_50 ?_
      refine z_pushJ gp_174_51 ?_
      refine z_callVx (As := [_, _]) gi_174_52 rfl gk_50 (Nat.le_of_ble_eq_true rfl) (Nat.le_of_ble_eq_true rfl) (addStep_k (k := J2 50 19) (s := lo (c (p))) (v := 0) hR (by omega) (by exact rfl) (by omega)) ?_
      show zW _ _ _ _ _ _ _ _ _ _
      refine z_vret gi_174_55 gr_174 ?_
      rw [pL_f hq ok]
      refine ⟨⟨rfl, (zK_x (a := 50) (x := 19) (v := (J2 50 19) + 1) (zK_x (a := 63) (x := 130 + (J2 50 19)) (v := 0) (zK_x (a := 62) (x := 130 + (J2 50 19)) (v := lo (c (p))) hJ2 rfl) rfl) rfl), (zU_x (by decide)).trans ((zU_n (by decide)).trans ((zU_n (by decide)).trans (h22))), fun j hj => ⟨(zU_n (by decide)).trans ((zU_n (by decide)).trans ((zU_x (by omega)).trans ((hke2 j hj).1))), (zU_n (by decide)).trans ((zU_x (by omega)).trans ((zU_n (by decide)).trans ((hke2 j hj).2)))⟩, rfl, rfl⟩, Or.inr ⟨ok, (zU_x (by decide)).trans ((zU_n (by decide)).trans ((zU_n (by decide)).trans (h27))), ?_⟩⟩
      rw [zU_e]
      omega
  · refine z_iload1 rfl ?_
    refine z_pushJ gp_174_23 ?_
    refine z_icmp_eq rfl (by omega) zr_61 (fun h4 => ?_) (fun h4 => ?_)
    · refine z_aload0 gi_174_35 ?_
      refine z_dup gi_174_36 rfl ?_
      refine z_getI (v := p) gi_174_37 gk_50 (hat) ?_
      refine z_pushJ gp_174_40 ?_
      refine z_iadd (e := p + 1) gi_174_41 rfl ?_
      refine z_putI (y := 16) gi_174_42 rfl gk_50 ?_
      refine z_aload0 gi_174_45 ?_
      have hq : rk (c p) = 2 := by unfold rk; (repeat' split) <;> omega
      have ha2 := tp_lt ht (rk_n (s := c p) (by omega)).1
      have rb := rk_b (s := c p) (by omega)
      have gx := (pE_g ht n 3 o (p + 1) (by omega) (by omega)).1
      have gl : (pE c n 3 o (p + 1)).1 = true → (p + 1 < (pE c n 3 o (p + 1)).2.1 ∧ ((pE c n 3 o (p + 1)).2.2.length : Int) ≤ (pE c n 3 o (p + 1)).2.1 - (p + 1)) := fun t => ⟨((pE_g ht n 3 o (p + 1) (by omega) (by omega)).2 t).1.1, ((pE_g ht n 3 o (p + 1) (by omega) (by omega)).2 t).1.2.1⟩
      refine z_callV (As := []) _ gi_174_46 rfl rfl (Nat.le_of_ble_eq_true rfl) (Nat.le_of_ble_eq_true rfl) (ih o (p + 1) k _ _ (by omega) (zK_x (a := 50) (x := 16) (v := p + 1) hJ rfl) (by exact zU_e) (by exact (zU_x (by decide)).trans (hfa)) (by exact (zU_x (by decide)).trans (hop)) (by exact (zU_x (by decide)).trans (hkk)) (by omega) (by omega) (by omega)) (fun r J2 M2 R2 hr => ?_)
      obtain ⟨⟨rfl, hk2, h22, hke, eM, eR⟩, hr⟩ := hr
      obtain rfl : M = M2 := eM.symm
      obtain rfl : R = R2 := eR.symm
      have hJ2 : zK (kL [62, 63] [(50, 16), (50, 17), (50, 18), (50, 19)]) J J2 := zK_t (zK_x (a := 50) (x := 16) (v := p + 1) zK_r rfl) hk2
      have hJ3 : zK (kL [62, 63] [(50, 16), (50, 17), (50, 18), (50, 19)]) A J2 := zK_t hJ hJ2
      have hb0 : ∀ j, j < 130 + (k) → (zU J 50 16 (p + 1)) 62 j = J 62 j ∧ (zU J 50 16 (p + 1)) 63 j = J 63 j := fun j hj => ⟨(zU_n (by decide)).trans (rfl), (zU_n (by decide)).trans (rfl)⟩
      have hke2 : ∀ j, j < 130 + (k) → J2 62 j = J 62 j ∧ J2 63 j = J 63 j := fun j hj => ⟨(hke j hj).1.trans (hb0 j hj).1, (hke j hj).2.trans (hb0 j hj).2⟩
      rcases hr with ⟨ok, h27, h28, h29, hl⟩ | ⟨ok, h27, h29⟩
      · show zW _ _ _ _ _ _ _ _ _ _
        have gl2 := gl ok
        refine z_aload0 gi_174_49 ?_
        refine z_iload1 gi_174_50 ?_
        refine z_pushJ gp_174_51 ?_
        refine z_callVx (As := [_, _]) gi_174_52 rfl gk_50 (Nat.le_of_ble_eq_true rfl) (Nat.le_of_ble_eq_true rfl) (addStep_k (k := k + ((pE c n 3 o (p + 1)).2.2.length : Int)) (s := lo (c (p))) (v := 0) hR (by omega) (by exact h29) (by omega)) ?_
        show zW _ _ _ _ _ _ _ _ _ _
        refine z_vret gi_174_55 gr_174 ?_
        have gl2 := gl ok
        have hl2 : lay (zU (zU (zU J2 62 (130 + (k + ((pE c n 3 o (p + 1)).2.2.length : Int))) (lo (c (p)))) 63 (130 + (k + ((pE c n 3 o (p + 1)).2.2.length : Int))) 0) 50 19 ((k + ((pE c n 3 o (p + 1)).2.2.length : Int)) + 1)) 62 63 (130 + k) (((pE c n 3 o (p + 1)).2.2 ++ [(c p, 0)]).map enc) := by
          rw [List.map_append]
          refine lay_app _ _ _ (lay_keep _ _ (130 + k + ((pE c n 3 o (p + 1)).2.2.length : Int)) hl (by rw [List.length_map]; omega) (fun j hj => ⟨?_, ?_⟩)) ?_
          · exact (zU_n (by decide)).trans ((zU_n (by decide)).trans (zU_x (by omega)))
          · exact (zU_n (by decide)).trans (zU_x (by omega))
          · show lay _ 62 63 _ [enc (c p, 0)]
            rw [enc_b (by omega)]
            refine ⟨⟨?_, ?_⟩, trivial⟩
            · exact ((zU_n (by decide)).trans ((zU_n (by decide)).trans (zU_ex (by rw [List.length_map]; omega)))).trans (show lo (c (p)) = c p by omega)
            · exact (zU_n (by decide)).trans (zU_ex (by rw [List.length_map]; omega))
        rw [pL_t hq ok]
        refine ⟨⟨rfl, (zK_x (a := 50) (x := 19) (v := (k + ((pE c n 3 o (p + 1)).2.2.length : Int)) + 1) (zK_x (a := 63) (x := 130 + (k + ((pE c n 3 o (p + 1)).2.2.length : Int))) (v := 0) (zK_x (a := 62) (x := 130 + (k + ((pE c n 3 o (p + 1)).2.2.length : Int))) (v := lo (c (p))) hJ2 rfl) rfl) rfl), (zU_x (by decide)).trans ((zU_n (by decide)).trans ((zU_n (by decide)).trans (h22))), fun j hj => ⟨(zU_n (by decide)).trans ((zU_n (by decide)).trans ((zU_x (by omega)).trans ((hke2 j hj).1))), (zU_n (by decide)).trans ((zU_x (by omega)).trans ((zU_n (by decide)).trans ((hke2 j hj).2)))⟩, rfl, rfl⟩, Or.inl ⟨rfl, (zU_x (by decide)).trans ((zU_n (by decide)).trans ((zU_n (by decide)).trans (h27))), (zU_x (by decide)).trans ((zU_n (by decide)).trans ((zU_n (by decide)).trans (h28))), ?_, hl2⟩⟩
        rw [zU_e]
        show k + ((pE c n 3 o (p + 1)).2.2.length : Int) + 1 = k + (((pE c n 3 o (p + 1)).2.2 ++ [(c p, 0)]).length : Int)
        rw [List.length_append, List.length_singleton]
        omega
      · show zW _ _ _ _ _ _ _ _ _ _
        refine z_aload0 gi_174_49 ?_
        refine z_iload1 gi_174_50 ?_
        refine z_pushJ gp_174_51 ?_
        refine z_callVx (As := [_, _]) gi_174_52 rfl gk_50 (Nat.le_of_ble_eq_true rfl) (Nat.le_of_ble_eq_true rfl) (addStep_k (k := J2 50 19) (s := lo (c (p))) (v := 0) hR (by omega) (by exact rfl) (by omega)) ?_
        show zW _ _ _ _ _ _ _ _ _ _
        refine z_vret gi_174_55 gr_174 ?_
        rw [pL_f hq ok]
        refine ⟨⟨rfl, (zK_x (a := 50) (x := 19) (v := (J2 50 19) + 1) (zK_x (a := 63) (x := 130 + (J2 50 19)) (v := 0) (zK_x (a := 62) (x := 130 + (J2 50 19)) (v := lo (c (p))) hJ2 rfl) rfl) rfl), (zU_x (by decide)).trans ((zU_n (by decide)).trans ((zU_n (by decide)).trans (h22))), fun j hj => ⟨(zU_n (by decide)).trans ((zU_n (by decide)).trans ((zU_x (by omega)).trans ((hke2 j hj).1))), (zU_n (by decide)).trans ((zU_x (by omega)).trans ((zU_n (by decide)).trans ((hke2 j hj).2)))⟩, rfl, rfl⟩, Or.inr ⟨ok, (zU_x (by decide)).trans ((zU_n (by decide)).trans ((zU_n (by decide)).trans (h27))), ?_⟩⟩
        rw [zU_e]
        omega
    · refine z_iload1 rfl ?_
      refine z_pushJ gp_174_29 ?_
      refine z_icmp_eq rfl (by omega) zr_62 (fun h5 => ?_) (fun h5 => ?_)
      · refine z_aload0 gi_174_35 ?_
        refine z_dup gi_174_36 rfl ?_
        refine z_getI (v := p) gi_174_37 gk_50 (hat) ?_
        refine z_pushJ gp_174_40 ?_
        refine z_iadd (e := p + 1) gi_174_41 rfl ?_
        refine z_putI (y := 16) gi_174_42 rfl gk_50 ?_
        refine z_aload0 gi_174_45 ?_
        have hq : rk (c p) = 2 := by unfold rk; (repeat' split) <;> omega
        have ha2 := tp_lt ht (rk_n (s := c p) (by omega)).1
        have rb := rk_b (s := c p) (by omega)
        have gx := (pE_g ht n 3 o (p + 1) (by omega) (by omega)).1
        have gl : (pE c n 3 o (p + 1)).1 = true → (p + 1 < (pE c n 3 o (p + 1)).2.1 ∧ ((pE c n 3 o (p + 1)).2.2.length : Int) ≤ (pE c n 3 o (p + 1)).2.1 - (p + 1)) := fun t => ⟨((pE_g ht n 3 o (p + 1) (by omega) (by omega)).2 t).1.1, ((pE_g ht n 3 o (p + 1) (by omega) (by omega)).2 t).1.2.1⟩
        refine z_callV (As := []) _ gi_174_46 rfl rfl (Nat.le_of_ble_eq_true rfl) (Nat.le_of_ble_eq_true rfl) (ih o (p + 1) k _ _ (by omega) (zK_x (a := 50) (x := 16) (v := p + 1) hJ rfl) (by exact zU_e) (by exact (zU_x (by decide)).trans (hfa)) (by exact (zU_x (by decide)).trans (hop)) (by exact (zU_x (by decide)).trans (hkk)) (by omega) (by omega) (by omega)) (fun r J2 M2 R2 hr => ?_)
        obtain ⟨⟨rfl, hk2, h22, hke, eM, eR⟩, hr⟩ := hr
        obtain rfl : M = M2 := eM.symm
        obtain rfl : R = R2 := eR.symm
        have hJ2 : zK (kL [62, 63] [(50, 16), (50, 17), (50, 18), (50, 19)]) J J2 := zK_t (zK_x (a := 50) (x := 16) (v := p + 1) zK_r rfl) hk2
        have hJ3 : zK (kL [62, 63] [(50, 16), (50, 17), (50, 18), (50, 19)]) A J2 := zK_t hJ hJ2
        have hb0 : ∀ j, j < 130 + (k) → (zU J 50 16 (p + 1)) 62 j = J 62 j ∧ (zU J 50 16 (p + 1)) 63 j = J 63 j := fun j hj => ⟨(zU_n (by decide)).trans (rfl), (zU_n (by decide)).trans (rfl)⟩
        have hke2 : ∀ j, j < 130 + (k) → J2 62 j = J 62 j ∧ J2 63 j = J 63 j := fun j hj => ⟨(hke j hj).1.trans (hb0 j hj).1, (hke j hj).2.trans (hb0 j hj).2⟩
        rcases hr with ⟨ok, h27, h28, h29, hl⟩ | ⟨ok, h27, h29⟩
        · show zW _ _ _ _ _ _ _ _ _ _
          have gl2 := gl ok
          refine z_aload0 gi_174_49 ?_
          refine z_iload1 gi_174_50 ?_
          refine z_pushJ gp_174_51 ?_
          refine z_callVx (As := [_, _]) gi_174_52 rfl gk_50 (Nat.le_of_ble_eq_true rfl) (Nat.le_of_ble_eq_true rfl) (addStep_k (k := k + ((pE c n 3 o (p + 1)).2.2.length : Int)) (s := lo (c (p))) (v := 0) hR (by omega) (by exact h29) (by omega)) ?_
          show zW _ _ _ _ _ _ _ _ _ _
          refine z_vret gi_174_55 gr_174 ?_
          have gl2 := gl ok
          have hl2 : lay (zU (zU (zU J2 62 (130 + (k + ((pE c n 3 o (p + 1)).2.2.length : Int))) (lo (c (p)))) 63 (130 + (k + ((pE c n 3 o (p + 1)).2.2.length : Int))) 0) 50 19 ((k + ((pE c n 3 o (p + 1)).2.2.length : Int)) + 1)) 62 63 (130 + k) (((pE c n 3 o (p + 1)).2.2 ++ [(c p, 0)]).map enc) := by
            rw [List.map_append]
            refine lay_app _ _ _ (lay_keep _ _ (130 + k + ((pE c n 3 o (p + 1)).2.2.length : Int)) hl (by rw [List.length_map]; omega) (fun j hj => ⟨?_, ?_⟩)) ?_
            · exact (zU_n (by decide)).trans ((zU_n (by decide)).trans (zU_x (by omega)))
            · exact (zU_n (by decide)).trans (zU_x (by omega))
            · show lay _ 62 63 _ [enc (c p, 0)]
              rw [enc_b (by omega)]
              refine ⟨⟨?_, ?_⟩, trivial⟩
              · exact ((zU_n (by decide)).trans ((zU_n (by decide)).trans (zU_ex (by rw [List.length_map]; omega)))).trans (show lo (c (p)) = c p by omega)
              · exact (zU_n (by decide)).trans (zU_ex (by rw [List.length_map]; omega))
          rw [pL_t hq ok]
          refine ⟨⟨rfl, (zK_x (a := 50) (x := 19) (v := (k + ((pE c n 3 o (p + 1)).2.2.length : Int)) + 1) (zK_x (a := 63) (x := 130 + (k + ((pE c n 3 o (p + 1)).2.2.length : Int))) (v := 0) (zK_x (a := 62) (x := 130 + (k + ((pE c n 3 o (p + 1)).2.2.length : Int))) (v := lo (c (p))) hJ2 rfl) rfl) rfl), (zU_x (by decide)).trans ((zU_n (by decide)).trans ((zU_n (by decide)).trans (h22))), fun j hj => ⟨(zU_n (by decide)).trans ((zU_n (by decide)).trans ((zU_x (by omega)).trans ((hke2 j hj).1))), (zU_n (by decide)).trans ((zU_x (by omega)).trans ((zU_n (by decide)).trans ((hke2 j hj).2)))⟩, rfl, rfl⟩, Or.inl ⟨rfl, (zU_x (by decide)).trans ((zU_n (by decide)).trans ((zU_n (by decide)).trans (h27))), (zU_x (by decide)).trans ((zU_n (by decide)).trans ((zU_n (by decide)).trans (h28))), ?_, hl2⟩⟩
          rw [zU_e]
          show k + ((pE c n 3 o (p + 1)).2.2.length : Int) + 1 = k + (((pE c n 3 o (p + 1)).2.2 ++ [(c p, 0)]).length : Int)
          rw [List.length_append, List.length_singleton]
          omega
        · show zW _ _ _ _ _ _ _ _ _ _
          refine z_aload0 gi_174_49 ?_
          refine z_iload1 gi_174_50 ?_
          refine z_pushJ gp_174_51 ?_
          refine z_callVx (As := [_, _]) gi_174_52 rfl gk_50 (Nat.le_of_ble_eq_true rfl) (Nat.le_of_ble_eq_true rfl) (addStep_k (k := J2 50 19) (s := lo (c (p))) (v := 0) hR (by omega) (by exact rfl) (by omega)) ?_
          show zW _ _ _ _ _ _ _ _ _ _
          refine z_vret gi_174_55 gr_174 ?_
          rw [pL_f hq ok]
          refine ⟨⟨rfl, (zK_x (a := 50) (x := 19) (v := (J2 50 19) + 1) (zK_x (a := 63) (x := 130 + (J2 50 19)) (v := 0) (zK_x (a := 62) (x := 130 + (J2 50 19)) (v := lo (c (p))) hJ2 rfl) rfl) rfl), (zU_x (by decide)).trans ((zU_n (by decide)).trans ((zU_n (by decide)).trans (h22))), fun j hj => ⟨(zU_n (by decide)).trans ((zU_n (by decide)).trans ((zU_x (by omega)).trans ((hke2 j hj).1))), (zU_n (by decide)).trans ((zU_x (by omega)).trans ((zU_n (by decide)).trans ((hke2 j hj).2)))⟩, rfl, rfl⟩, Or.inr ⟨ok, (zU_x (by decide)).trans ((zU_n (by decide)).trans ((zU_n (by decide)).trans (h27))), ?_⟩⟩
          rw [zU_e]
          omega
      · refine z_vret gi_174_34 gr_174 ?_
        rw [pL_n (show ¬ rk (c p) = 2 by unfold rk; (repeat' split) <;> omega)]
        exact ⟨⟨rfl, zK_r, hat, fun j _ => ⟨rfl, rfl⟩, rfl, rfl⟩, Or.inl ⟨rfl, hfa, hop, hkk.trans (by show k = k + ((0 : Nat) : Int); omega), trivial⟩⟩
theorem rch2 {X : Nat × (Nat → Int32)} {M : zA} {R : zR} (hR : zRoR R) {A : zA} {c : Int → Int} {f : Int} (hf : A 50 15 = f) (hc : ∀ i, 0 ≤ i → i < f → A 61 i = zb (c i)) (ht : tp c f) {n : Nat} (ih : (∀ (o a k : Int) (D : Nat) (J : zA), pK n 3 o → zK (kL [62, 63] [(50, 16), (50, 17), (50, 18), (50, 19)]) A J → J 50 16 = a → J 50 17 = -1 → J 50 18 = o → J 50 19 = k → (0 ≤ a ∧ a ≤ f) → (0 ≤ k ∧ k ≤ a) → n + 8 ≤ D → zW X D 173 0 (gEn 173 [.ref 50]) [] J M R (rr c k o a (pE c n 3 o a) J M R))) : (∀ (o a k : Int) (D : Nat) (J : zA), pK (n + 1) 2 o → zK (kL [62, 63] [(50, 16), (50, 17), (50, 18), (50, 19)]) A J → J 50 16 = a → J 50 17 = -1 → J 50 18 = o → J 50 19 = k → (0 ≤ a ∧ a ≤ f) → (0 ≤ k ∧ k ≤ a) → (n + 1) + 8 ≤ D → zW X D 174 0 (gEn 174 [.ref 50]) [] J M R (rr c k o a (pE c (n + 1) 2 o a) J M R)) := by
  intro o a k D J hk hJ hat hfa hop hkk ha hk0 hD
  obtain ⟨D, rfl⟩ : ∃ e, D = e + 6 := ⟨D - 6, by omega⟩
  have tf := ht.1
  show zW _ _ _ _ [some (.ref 50), none] _ _ _ _ _
  refine z_aload0 rfl ?_
  have gx := (pE_g ht n 3 o a (by omega) ha).1
  have gl : (pE c n 3 o a).1 = true → (a < (pE c n 3 o a).2.1 ∧ ((pE c n 3 o a).2.2.length : Int) ≤ (pE c n 3 o a).2.1 - a) := fun t => ⟨((pE_g ht n 3 o a (by omega) ha).2 t).1.1, ((pE_g ht n 3 o a (by omega) ha).2 t).1.2.1⟩
  refine z_callV (As := []) _ rfl rfl rfl (Nat.le_of_ble_eq_true rfl) (Nat.le_of_ble_eq_true rfl) (ih o a k _ _ (by omega) hJ hat hfa hop hkk ha hk0 (by omega)) (fun r J2 M2 R2 hr => ?_)
  obtain ⟨⟨rfl, hk2, h22, hke, eM, eR⟩, hr⟩ := hr
  obtain rfl : M = M2 := eM.symm
  obtain rfl : R = R2 := eR.symm
  have hJ2 : zK (kL [62, 63] [(50, 16), (50, 17), (50, 18), (50, 19)]) J J2 := zK_t zK_r hk2
  have hJ3 : zK (kL [62, 63] [(50, 16), (50, 17), (50, 18), (50, 19)]) A J2 := zK_t hJ hJ2
  have hb0 : ∀ j, j < 130 + (k) → J 62 j = J 62 j ∧ J 63 j = J 63 j := fun j hj => ⟨rfl, rfl⟩
  have hke2 : ∀ j, j < 130 + (k) → J2 62 j = J 62 j ∧ J2 63 j = J 63 j := fun j hj => ⟨(hke j hj).1.trans (hb0 j hj).1, (hke j hj).2.trans (hb0 j hj).2⟩
  rcases hr with ⟨ok, h27, h28, h29, hl⟩ | ⟨ok, h27, h29⟩
  · show zW _ _ _ _ _ _ _ _ _ _
    have gl2 := gl ok
    show zW _ _ _ _ [some (.ref 50), none] [] _ _ _ _
    rw [pE_t (by decide) ok]
    have gl2 := gl ok
    have hz := rlp2 (X := X) (M := M) hR hf hc ht ih hk (pE c n 3 o a).2.1 (k + ((pE c n 3 o a).2.2.length : Int)) none (D + 6) J2 hJ3 h22 h27 h28 h29 (by omega) (by omega) hD
    exact zW_m hz (fun r6 J6 M6 R6 h => rrc (l := (pE c n 3 o a).2.2) (p := (pE c n 3 o a).2.1) (show ((pE c n 3 o a).2.2.length : Int) ≤ (pE c n 3 o a).2.1 - a by omega) hJ2 hke2 hl h)
  · show zW _ _ _ _ _ _ _ _ _ _
    refine z_aload0 gi_174_4 ?_
    refine z_callVP (As := []) (v := lo (c ((pE c n 3 o a).2.1))) gi_174_5 rfl gk_50 (Nat.le_of_ble_eq_true rfl) (Nat.le_of_ble_eq_true rfl) (look_k hR hf hc ht hJ3 (by exact h22) (by omega)) ?_
    have q1 := tp_r ht ((pE c n 3 o a).2.1) (by omega)
    have q2 := lo_r (c ((pE c n 3 o a).2.1))
    refine z_istore (ls1 := [some (.ref 50), some (zi (lo (c ((pE c n 3 o a).2.1))))]) gi_174_8 rfl ?_
    refine z_aload0 gi_174_9 ?_
    refine z_getI (v := (pE c n 3 o a).2.1) gi_174_10 gk_50 (h27) ?_
    refine z_if_geT gi_174_13 (by omega) (by omega) ?_
    refine z_vret gi_174_34 gr_174 ?_
    rw [pE_f (by decide) ok]
    exact ⟨⟨rfl, hJ2, h22, hke2, rfl, rfl⟩, Or.inr ⟨ok, h27, h29⟩⟩
theorem rlp1 {X : Nat × (Nat → Int32)} {M : zA} {R : zR} (hR : zRoR R) {A : zA} {c : Int → Int} {f : Int} (hf : A 50 15 = f) (hc : ∀ i, 0 ≤ i → i < f → A 61 i = zb (c i)) (ht : tp c f) {n : Nat} (ih : (∀ (o a k : Int) (D : Nat) (J : zA), pK n 2 o → zK (kL [62, 63] [(50, 16), (50, 17), (50, 18), (50, 19)]) A J → J 50 16 = a → J 50 17 = -1 → J 50 18 = o → J 50 19 = k → (0 ≤ a ∧ a ≤ f) → (0 ≤ k ∧ k ≤ a) → n + 8 ≤ D → zW X D 174 0 (gEn 174 [.ref 50]) [] J M R (rr c k o a (pE c n 2 o a) J M R))) {o : Int} (hkr : pK (n + 1) 1 o) : ∀ (m : Nat) (p k : Int) (D : Nat) (J : zA), zK (kL [62, 63] [(50, 16), (50, 17), (50, 18), (50, 19)]) A J → J 50 16 = p → J 50 17 = -1 → J 50 18 = o → J 50 19 = k → (0 ≤ p ∧ p ≤ f) → (0 ≤ k ∧ k ≤ p) → 120 ≤ p + m → n + 9 ≤ D → zW X D 175 4 [some (.ref 50)] [] J M R (rr c k o p (pL (pE c n 2 o) c 1 m p) J M R) := by
  intro m
  induction m with
  | zero =>
    intro p k D J hJ hat hfa hop hkk hp hk0 hpm hD
    obtain ⟨D, rfl⟩ : ∃ e, D = e + 6 := ⟨D - 6, by omega⟩
    have tf := ht.1
    have cp := ht.2.2 p (by omega)
    have lp : lo (c (p)) = -1 := by rw [cp]; rfl
    show zW _ _ _ _ [some (.ref 50)] _ _ _ _ _
    refine z_aload0 gi_175_4 ?_
    refine z_getI (v := (-1)) gi_175_5 gk_50 (hfa) ?_
    refine z_if_geF gi_175_8 zrn_1 (by decide) ?_
    refine z_aload0 gi_175_11 ?_
    refine z_callVP (As := []) (v := lo (c (p))) gi_175_12 rfl gk_50 (Nat.le_of_ble_eq_true rfl) (Nat.le_of_ble_eq_true rfl) (look_k hR hf hc ht hJ hat (by omega)) ?_
    refine z_pushJ gp_175_15 ?_
    refine z_icmp_neT gi_175_17 (by omega) zr_38 (by omega) ?_
    refine z_vret gi_175_44 gr_175 ?_
    exact ⟨⟨rfl, zK_r, hat, fun j _ => ⟨rfl, rfl⟩, rfl, rfl⟩, Or.inl ⟨rfl, hfa, hop, hkk.trans (by show k = k + ((0 : Nat) : Int); omega), trivial⟩⟩
  | succ j ih2 =>
    intro p k D J hJ hat hfa hop hkk hp hk0 hpm hD
    obtain ⟨D, rfl⟩ : ∃ e, D = e + 6 := ⟨D - 6, by omega⟩
    have tf := ht.1
    show zW _ _ _ _ [some (.ref 50)] _ _ _ _ _
    refine z_aload0 gi_175_4 ?_
    refine z_getI (v := (-1)) gi_175_5 gk_50 (hfa) ?_
    refine z_if_geF gi_175_8 zrn_1 (by decide) ?_
    refine z_aload0 gi_175_11 ?_
    refine z_callVP (As := []) (v := lo (c (p))) gi_175_12 rfl gk_50 (Nat.le_of_ble_eq_true rfl) (Nat.le_of_ble_eq_true rfl) (look_k hR hf hc ht hJ (by exact hat) (by omega)) ?_
    have q1 := tp_r ht (p) (by omega)
    have q2 := lo_r (c (p))
    refine z_pushJ gp_175_15 ?_
    refine z_icmp_ne gi_175_17 (by omega) zr_38 (fun h3 => ?_) (fun h3 => ?_)
    · refine z_vret gi_175_44 gr_175 ?_
      rw [pL_n (show ¬ rk (c p) = 1 by unfold rk; (repeat' split) <;> omega)]
      exact ⟨⟨rfl, zK_r, hat, fun j _ => ⟨rfl, rfl⟩, rfl, rfl⟩, Or.inl ⟨rfl, hfa, hop, hkk.trans (by show k = k + ((0 : Nat) : Int); omega), trivial⟩⟩
    · refine z_aload0 rfl ?_
      refine z_dup rfl rfl ?_
      refine z_getI (v := p) rfl gk_50 (hat) ?_
      refine z_pushJ gp_175_25 ?_
      refine z_iadd (e := p + 1) rfl rfl ?_
      refine z_putI (y := 16) rfl rfl gk_50 ?_
      refine z_aload0 rfl ?_
      have hq : rk (c p) = 1 := by unfold rk; (repeat' split) <;> omega
      have ha2 := tp_lt ht (rk_n (s := c p) (by omega)).1
      have rb := rk_b (s := c p) (by omega)
      have gx := (pE_g ht n 2 o (p + 1) (by omega) (by omega)).1
      have gl : (pE c n 2 o (p + 1)).1 = true → (p + 1 < (pE c n 2 o (p + 1)).2.1 ∧ ((pE c n 2 o (p + 1)).2.2.length : Int) ≤ (pE c n 2 o (p + 1)).2.1 - (p + 1)) := fun t => ⟨((pE_g ht n 2 o (p + 1) (by omega) (by omega)).2 t).1.1, ((pE_g ht n 2 o (p + 1) (by omega) (by omega)).2 t).1.2.1⟩
      refine z_callV (As := []) _ rfl rfl rfl (Nat.le_of_ble_eq_true rfl) (Nat.le_of_ble_eq_true rfl) (ih o (p + 1) k _ _ (by omega) (zK_x (a := 50) (x := 16) (v := p + 1) hJ rfl) (by exact zU_e) (by exact (zU_x (by decide)).trans (hfa)) (by exact (zU_x (by decide)).trans (hop)) (by exact (zU_x (by decide)).trans (hkk)) (by omega) (by omega) (by omega)) (fun r J2 M2 R2 hr => ?_)
      obtain ⟨⟨rfl, hk2, h22, hke, eM, eR⟩, hr⟩ := hr
      obtain rfl : M = M2 := eM.symm
      obtain rfl : R = R2 := eR.symm
      have hJ2 : zK (kL [62, 63] [(50, 16), (50, 17), (50, 18), (50, 19)]) J J2 := zK_t (zK_x (a := 50) (x := 16) (v := p + 1) zK_r rfl) hk2
      have hJ3 : zK (kL [62, 63] [(50, 16), (50, 17), (50, 18), (50, 19)]) A J2 := zK_t hJ hJ2
      have hb0 : ∀ j, j < 130 + (k) → (zU J 50 16 (p + 1)) 62 j = J 62 j ∧ (zU J 50 16 (p + 1)) 63 j = J 63 j := fun j hj => ⟨(zU_n (by decide)).trans (rfl), (zU_n (by decide)).trans (rfl)⟩
      have hke2 : ∀ j, j < 130 + (k) → J2 62 j = J 62 j ∧ J2 63 j = J 63 j := fun j hj => ⟨(hke j hj).1.trans (hb0 j hj).1, (hke j hj).2.trans (hb0 j hj).2⟩
      rcases hr with ⟨ok, h27, h28, h29, hl⟩ | ⟨ok, h27, h29⟩
      · show zW _ _ _ _ _ _ _ _ _ _
        have gl2 := gl ok
        refine z_aload0 gi_175_34 ?_
        refine z_pushJ gp_175_35 ?_
        refine z_pushJ gp_175_37 ?_
        refine z_callVx (As := [_, _]) gi_175_38 rfl gk_50 (Nat.le_of_ble_eq_true rfl) (Nat.le_of_ble_eq_true rfl) (addStep_k (k := k + ((pE c n 2 o (p + 1)).2.2.length : Int)) (s := 38) (v := 0) hR (by omega) (by exact h29) (by omega)) ?_
        show zW _ _ _ _ _ _ _ _ _ _
        refine z_goto gi_175_41 ?_
        show zW _ _ _ _ [some (.ref 50)] [] _ _ _ _
        have gl2 := gl ok
        have hl2 : lay (zU (zU (zU J2 62 (130 + (k + ((pE c n 2 o (p + 1)).2.2.length : Int))) 38) 63 (130 + (k + ((pE c n 2 o (p + 1)).2.2.length : Int))) 0) 50 19 ((k + ((pE c n 2 o (p + 1)).2.2.length : Int)) + 1)) 62 63 (130 + k) (((pE c n 2 o (p + 1)).2.2 ++ [(c p, 0)]).map enc) := by
          rw [List.map_append]
          refine lay_app _ _ _ (lay_keep _ _ (130 + k + ((pE c n 2 o (p + 1)).2.2.length : Int)) hl (by rw [List.length_map]; omega) (fun j hj => ⟨?_, ?_⟩)) ?_
          · exact (zU_n (by decide)).trans ((zU_n (by decide)).trans (zU_x (by omega)))
          · exact (zU_n (by decide)).trans (zU_x (by omega))
          · show lay _ 62 63 _ [enc (c p, 0)]
            rw [enc_b (by omega)]
            refine ⟨⟨?_, ?_⟩, trivial⟩
            · exact ((zU_n (by decide)).trans ((zU_n (by decide)).trans (zU_ex (by rw [List.length_map]; omega)))).trans (show 38 = c p by omega)
            · exact (zU_n (by decide)).trans (zU_ex (by rw [List.length_map]; omega))
        have e1 : k + ((pE c n 2 o (p + 1)).2.2.length : Int) + 1 = k + (((pE c n 2 o (p + 1)).2.2 ++ [(c p, 0)]).length : Int) := by rw [List.length_append, List.length_singleton]; omega
        have hz := ih2 (pE c n 2 o (p + 1)).2.1 (k + (((pE c n 2 o (p + 1)).2.2 ++ [(c p, 0)]).length : Int))  (D + 6) (zU (zU (zU J2 62 (130 + (k + ((pE c n 2 o (p + 1)).2.2.length : Int))) 38) 63 (130 + (k + ((pE c n 2 o (p + 1)).2.2.length : Int))) 0) 50 19 ((k + ((pE c n 2 o (p + 1)).2.2.length : Int)) + 1)) (zK_x (a := 50) (x := 19) (v := (k + ((pE c n 2 o (p + 1)).2.2.length : Int)) + 1) (zK_x (a := 63) (x := 130 + (k + ((pE c n 2 o (p + 1)).2.2.length : Int))) (v := 0) (zK_x (a := 62) (x := 130 + (k + ((pE c n 2 o (p + 1)).2.2.length : Int))) (v := 38) hJ3 rfl) rfl) rfl) ((zU_x (by decide)).trans ((zU_n (by decide)).trans ((zU_n (by decide)).trans (h22)))) ((zU_x (by decide)).trans ((zU_n (by decide)).trans ((zU_n (by decide)).trans (h27)))) ((zU_x (by decide)).trans ((zU_n (by decide)).trans ((zU_n (by decide)).trans (h28)))) (zU_e.trans e1) (by omega) (by omega) (by omega) hD
        rw [pL_t hq ok, show (pE c n 2 o (p + 1)).2.2 ++ (c p, 0) :: (pL (pE c n 2 o) c 1 j (pE c n 2 o (p + 1)).2.1).2.2 = ((pE c n 2 o (p + 1)).2.2 ++ [(c p, 0)]) ++ (pL (pE c n 2 o) c 1 j (pE c n 2 o (p + 1)).2.1).2.2 by rw [List.append_assoc]; rfl]
        exact zW_m hz (fun r6 J6 M6 R6 h => rrc (p := (pE c n 2 o (p + 1)).2.1) (by rw [List.length_append, List.length_singleton]; omega) ((zK_x (a := 50) (x := 19) (v := (k + ((pE c n 2 o (p + 1)).2.2.length : Int)) + 1) (zK_x (a := 63) (x := 130 + (k + ((pE c n 2 o (p + 1)).2.2.length : Int))) (v := 0) (zK_x (a := 62) (x := 130 + (k + ((pE c n 2 o (p + 1)).2.2.length : Int))) (v := 38) hJ2 rfl) rfl) rfl)) (fun j hj => ⟨(zU_n (by decide)).trans ((zU_n (by decide)).trans ((zU_x (by omega)).trans ((hke2 j hj).1))), (zU_n (by decide)).trans ((zU_x (by omega)).trans ((zU_n (by decide)).trans ((hke2 j hj).2)))⟩) hl2 h)
      · show zW _ _ _ _ _ _ _ _ _ _
        refine z_aload0 gi_175_34 ?_
        refine z_pushJ gp_175_35 ?_
        refine z_pushJ gp_175_37 ?_
        refine z_callVx (As := [_, _]) gi_175_38 rfl gk_50 (Nat.le_of_ble_eq_true rfl) (Nat.le_of_ble_eq_true rfl) (addStep_k (k := J2 50 19) (s := 38) (v := 0) hR (by omega) (by exact rfl) (by omega)) ?_
        show zW _ _ _ _ _ _ _ _ _ _
        refine z_goto gi_175_41 ?_
        show zW _ _ _ _ [some (.ref 50)] [] _ _ _ _
        refine z_aload0 gi_175_4 ?_
        refine z_getI (v := (pE c n 2 o (p + 1)).2.1) gi_175_5 gk_50 ((zU_x (by decide)).trans ((zU_n (by decide)).trans ((zU_n (by decide)).trans (h27)))) ?_
        refine z_if_geT gi_175_8 (by omega) (by omega) ?_
        refine z_vret gi_175_44 gr_175 ?_
        rw [pL_f hq ok]
        refine ⟨⟨rfl, (zK_x (a := 50) (x := 19) (v := (J2 50 19) + 1) (zK_x (a := 63) (x := 130 + (J2 50 19)) (v := 0) (zK_x (a := 62) (x := 130 + (J2 50 19)) (v := 38) hJ2 rfl) rfl) rfl), (zU_x (by decide)).trans ((zU_n (by decide)).trans ((zU_n (by decide)).trans (h22))), fun j hj => ⟨(zU_n (by decide)).trans ((zU_n (by decide)).trans ((zU_x (by omega)).trans ((hke2 j hj).1))), (zU_n (by decide)).trans ((zU_x (by omega)).trans ((zU_n (by decide)).trans ((hke2 j hj).2)))⟩, rfl, rfl⟩, Or.inr ⟨ok, (zU_x (by decide)).trans ((zU_n (by decide)).trans ((zU_n (by decide)).trans (h27))), ?_⟩⟩
        rw [zU_e]
        omega
theorem rch1 {X : Nat × (Nat → Int32)} {M : zA} {R : zR} (hR : zRoR R) {A : zA} {c : Int → Int} {f : Int} (hf : A 50 15 = f) (hc : ∀ i, 0 ≤ i → i < f → A 61 i = zb (c i)) (ht : tp c f) {n : Nat} (ih : (∀ (o a k : Int) (D : Nat) (J : zA), pK n 2 o → zK (kL [62, 63] [(50, 16), (50, 17), (50, 18), (50, 19)]) A J → J 50 16 = a → J 50 17 = -1 → J 50 18 = o → J 50 19 = k → (0 ≤ a ∧ a ≤ f) → (0 ≤ k ∧ k ≤ a) → n + 8 ≤ D → zW X D 174 0 (gEn 174 [.ref 50]) [] J M R (rr c k o a (pE c n 2 o a) J M R))) : (∀ (o a k : Int) (D : Nat) (J : zA), pK (n + 1) 1 o → zK (kL [62, 63] [(50, 16), (50, 17), (50, 18), (50, 19)]) A J → J 50 16 = a → J 50 17 = -1 → J 50 18 = o → J 50 19 = k → (0 ≤ a ∧ a ≤ f) → (0 ≤ k ∧ k ≤ a) → (n + 1) + 8 ≤ D → zW X D 175 0 (gEn 175 [.ref 50]) [] J M R (rr c k o a (pE c (n + 1) 1 o a) J M R)) := by
  intro o a k D J hk hJ hat hfa hop hkk ha hk0 hD
  obtain ⟨D, rfl⟩ : ∃ e, D = e + 6 := ⟨D - 6, by omega⟩
  have tf := ht.1
  show zW _ _ _ _ [some (.ref 50)] _ _ _ _ _
  refine z_aload0 rfl ?_
  have gx := (pE_g ht n 2 o a (by omega) ha).1
  have gl : (pE c n 2 o a).1 = true → (a < (pE c n 2 o a).2.1 ∧ ((pE c n 2 o a).2.2.length : Int) ≤ (pE c n 2 o a).2.1 - a) := fun t => ⟨((pE_g ht n 2 o a (by omega) ha).2 t).1.1, ((pE_g ht n 2 o a (by omega) ha).2 t).1.2.1⟩
  refine z_callV (As := []) _ rfl rfl rfl (Nat.le_of_ble_eq_true rfl) (Nat.le_of_ble_eq_true rfl) (ih o a k _ _ (by omega) hJ hat hfa hop hkk ha hk0 (by omega)) (fun r J2 M2 R2 hr => ?_)
  obtain ⟨⟨rfl, hk2, h22, hke, eM, eR⟩, hr⟩ := hr
  obtain rfl : M = M2 := eM.symm
  obtain rfl : R = R2 := eR.symm
  have hJ2 : zK (kL [62, 63] [(50, 16), (50, 17), (50, 18), (50, 19)]) J J2 := zK_t zK_r hk2
  have hJ3 : zK (kL [62, 63] [(50, 16), (50, 17), (50, 18), (50, 19)]) A J2 := zK_t hJ hJ2
  have hb0 : ∀ j, j < 130 + (k) → J 62 j = J 62 j ∧ J 63 j = J 63 j := fun j hj => ⟨rfl, rfl⟩
  have hke2 : ∀ j, j < 130 + (k) → J2 62 j = J 62 j ∧ J2 63 j = J 63 j := fun j hj => ⟨(hke j hj).1.trans (hb0 j hj).1, (hke j hj).2.trans (hb0 j hj).2⟩
  rcases hr with ⟨ok, h27, h28, h29, hl⟩ | ⟨ok, h27, h29⟩
  · show zW _ _ _ _ _ _ _ _ _ _
    have gl2 := gl ok
    show zW _ _ _ _ [some (.ref 50)] [] _ _ _ _
    rw [pE_t (by decide) ok]
    have gl2 := gl ok
    have hz := rlp1 (X := X) (M := M) hR hf hc ht ih hk (pM 1) (pE c n 2 o a).2.1 (k + ((pE c n 2 o a).2.2.length : Int))  (D + 6) J2 hJ3 h22 h27 h28 h29 (by omega) (by omega) (by show 120 ≤ (pE c n 2 o a).2.1 + ((120 : Nat) : Int); omega) hD
    exact zW_m hz (fun r6 J6 M6 R6 h => rrc (l := (pE c n 2 o a).2.2) (p := (pE c n 2 o a).2.1) (show ((pE c n 2 o a).2.2.length : Int) ≤ (pE c n 2 o a).2.1 - a by omega) hJ2 hke2 hl h)
  · show zW _ _ _ _ _ _ _ _ _ _
    refine z_aload0 gi_175_4 ?_
    refine z_getI (v := (pE c n 2 o a).2.1) gi_175_5 gk_50 (h27) ?_
    refine z_if_geT gi_175_8 (by omega) (by omega) ?_
    refine z_vret gi_175_44 gr_175 ?_
    rw [pE_f (by decide) ok]
    exact ⟨⟨rfl, hJ2, h22, hke2, rfl, rfl⟩, Or.inr ⟨ok, h27, h29⟩⟩
theorem rlp0 {X : Nat × (Nat → Int32)} {M : zA} {R : zR} (hR : zRoR R) {A : zA} {c : Int → Int} {f : Int} (hf : A 50 15 = f) (hc : ∀ i, 0 ≤ i → i < f → A 61 i = zb (c i)) (ht : tp c f) {n : Nat} (ih : (∀ (o a k : Int) (D : Nat) (J : zA), pK n 1 o → zK (kL [62, 63] [(50, 16), (50, 17), (50, 18), (50, 19)]) A J → J 50 16 = a → J 50 17 = -1 → J 50 18 = o → J 50 19 = k → (0 ≤ a ∧ a ≤ f) → (0 ≤ k ∧ k ≤ a) → n + 8 ≤ D → zW X D 175 0 (gEn 175 [.ref 50]) [] J M R (rr c k o a (pE c n 1 o a) J M R))) {o : Int} (hkr : pK (n + 1) 0 o) : ∀ (m : Nat) (p k : Int) (D : Nat) (J : zA), zK (kL [62, 63] [(50, 16), (50, 17), (50, 18), (50, 19)]) A J → J 50 16 = p → J 50 17 = -1 → J 50 18 = o → J 50 19 = k → (0 ≤ p ∧ p ≤ f) → (0 ≤ k ∧ k ≤ p) → 120 ≤ p + m → n + 9 ≤ D → zW X D 176 4 [some (.ref 50)] [] J M R (rr c k o p (pL (pE c n 1 o) c 0 m p) J M R) := by
  intro m
  induction m with
  | zero =>
    intro p k D J hJ hat hfa hop hkk hp hk0 hpm hD
    obtain ⟨D, rfl⟩ : ∃ e, D = e + 6 := ⟨D - 6, by omega⟩
    have tf := ht.1
    have cp := ht.2.2 p (by omega)
    have lp : lo (c (p)) = -1 := by rw [cp]; rfl
    show zW _ _ _ _ [some (.ref 50)] _ _ _ _ _
    refine z_aload0 gi_176_4 ?_
    refine z_getI (v := (-1)) gi_176_5 gk_50 (hfa) ?_
    refine z_if_geF gi_176_8 zrn_1 (by decide) ?_
    refine z_aload0 gi_176_11 ?_
    refine z_callVP (As := []) (v := lo (c (p))) gi_176_12 rfl gk_50 (Nat.le_of_ble_eq_true rfl) (Nat.le_of_ble_eq_true rfl) (look_k hR hf hc ht hJ hat (by omega)) ?_
    refine z_pushJ gp_176_15 ?_
    refine z_icmp_neT gi_176_17 (by omega) zr_124 (by omega) ?_
    refine z_vret gi_176_44 gr_176 ?_
    exact ⟨⟨rfl, zK_r, hat, fun j _ => ⟨rfl, rfl⟩, rfl, rfl⟩, Or.inl ⟨rfl, hfa, hop, hkk.trans (by show k = k + ((0 : Nat) : Int); omega), trivial⟩⟩
  | succ j ih2 =>
    intro p k D J hJ hat hfa hop hkk hp hk0 hpm hD
    obtain ⟨D, rfl⟩ : ∃ e, D = e + 6 := ⟨D - 6, by omega⟩
    have tf := ht.1
    show zW _ _ _ _ [some (.ref 50)] _ _ _ _ _
    refine z_aload0 gi_176_4 ?_
    refine z_getI (v := (-1)) gi_176_5 gk_50 (hfa) ?_
    refine z_if_geF gi_176_8 zrn_1 (by decide) ?_
    refine z_aload0 gi_176_11 ?_
    refine z_callVP (As := []) (v := lo (c (p))) gi_176_12 rfl gk_50 (Nat.le_of_ble_eq_true rfl) (Nat.le_of_ble_eq_true rfl) (look_k hR hf hc ht hJ (by exact hat) (by omega)) ?_
    have q1 := tp_r ht (p) (by omega)
    have q2 := lo_r (c (p))
    refine z_pushJ gp_176_15 ?_
    refine z_icmp_ne gi_176_17 (by omega) zr_124 (fun h3 => ?_) (fun h3 => ?_)
    · refine z_vret gi_176_44 gr_176 ?_
      rw [pL_n (show ¬ rk (c p) = 0 by unfold rk; (repeat' split) <;> omega)]
      exact ⟨⟨rfl, zK_r, hat, fun j _ => ⟨rfl, rfl⟩, rfl, rfl⟩, Or.inl ⟨rfl, hfa, hop, hkk.trans (by show k = k + ((0 : Nat) : Int); omega), trivial⟩⟩
    · refine z_aload0 rfl ?_
      refine z_dup rfl rfl ?_
      refine z_getI (v := p) rfl gk_50 (hat) ?_
      refine z_pushJ gp_176_25 ?_
      refine z_iadd (e := p + 1) rfl rfl ?_
      refine z_putI (y := 16) rfl rfl gk_50 ?_
      refine z_aload0 rfl ?_
      have hq : rk (c p) = 0 := by unfold rk; (repeat' split) <;> omega
      have ha2 := tp_lt ht (rk_n (s := c p) (by omega)).1
      have rb := rk_b (s := c p) (by omega)
      have gx := (pE_g ht n 1 o (p + 1) (by omega) (by omega)).1
      have gl : (pE c n 1 o (p + 1)).1 = true → (p + 1 < (pE c n 1 o (p + 1)).2.1 ∧ ((pE c n 1 o (p + 1)).2.2.length : Int) ≤ (pE c n 1 o (p + 1)).2.1 - (p + 1)) := fun t => ⟨((pE_g ht n 1 o (p + 1) (by omega) (by omega)).2 t).1.1, ((pE_g ht n 1 o (p + 1) (by omega) (by omega)).2 t).1.2.1⟩
      refine z_callV (As := []) _ rfl rfl rfl (Nat.le_of_ble_eq_true rfl) (Nat.le_of_ble_eq_true rfl) (ih o (p + 1) k _ _ (by omega) (zK_x (a := 50) (x := 16) (v := p + 1) hJ rfl) (by exact zU_e) (by exact (zU_x (by decide)).trans (hfa)) (by exact (zU_x (by decide)).trans (hop)) (by exact (zU_x (by decide)).trans (hkk)) (by omega) (by omega) (by omega)) (fun r J2 M2 R2 hr => ?_)
      obtain ⟨⟨rfl, hk2, h22, hke, eM, eR⟩, hr⟩ := hr
      obtain rfl : M = M2 := eM.symm
      obtain rfl : R = R2 := eR.symm
      have hJ2 : zK (kL [62, 63] [(50, 16), (50, 17), (50, 18), (50, 19)]) J J2 := zK_t (zK_x (a := 50) (x := 16) (v := p + 1) zK_r rfl) hk2
      have hJ3 : zK (kL [62, 63] [(50, 16), (50, 17), (50, 18), (50, 19)]) A J2 := zK_t hJ hJ2
      have hb0 : ∀ j, j < 130 + (k) → (zU J 50 16 (p + 1)) 62 j = J 62 j ∧ (zU J 50 16 (p + 1)) 63 j = J 63 j := fun j hj => ⟨(zU_n (by decide)).trans (rfl), (zU_n (by decide)).trans (rfl)⟩
      have hke2 : ∀ j, j < 130 + (k) → J2 62 j = J 62 j ∧ J2 63 j = J 63 j := fun j hj => ⟨(hke j hj).1.trans (hb0 j hj).1, (hke j hj).2.trans (hb0 j hj).2⟩
      rcases hr with ⟨ok, h27, h28, h29, hl⟩ | ⟨ok, h27, h29⟩
      · show zW _ _ _ _ _ _ _ _ _ _
        have gl2 := gl ok
        refine z_aload0 gi_176_34 ?_
        refine z_pushJ gp_176_35 ?_
        refine z_pushJ gp_176_37 ?_
        refine z_callVx (As := [_, _]) gi_176_38 rfl gk_50 (Nat.le_of_ble_eq_true rfl) (Nat.le_of_ble_eq_true rfl) (addStep_k (k := k + ((pE c n 1 o (p + 1)).2.2.length : Int)) (s := 124) (v := 0) hR (by omega) (by exact h29) (by omega)) ?_
        show zW _ _ _ _ _ _ _ _ _ _
        refine z_goto gi_176_41 ?_
        show zW _ _ _ _ [some (.ref 50)] [] _ _ _ _
        have gl2 := gl ok
        have hl2 : lay (zU (zU (zU J2 62 (130 + (k + ((pE c n 1 o (p + 1)).2.2.length : Int))) 124) 63 (130 + (k + ((pE c n 1 o (p + 1)).2.2.length : Int))) 0) 50 19 ((k + ((pE c n 1 o (p + 1)).2.2.length : Int)) + 1)) 62 63 (130 + k) (((pE c n 1 o (p + 1)).2.2 ++ [(c p, 0)]).map enc) := by
          rw [List.map_append]
          refine lay_app _ _ _ (lay_keep _ _ (130 + k + ((pE c n 1 o (p + 1)).2.2.length : Int)) hl (by rw [List.length_map]; omega) (fun j hj => ⟨?_, ?_⟩)) ?_
          · exact (zU_n (by decide)).trans ((zU_n (by decide)).trans (zU_x (by omega)))
          · exact (zU_n (by decide)).trans (zU_x (by omega))
          · show lay _ 62 63 _ [enc (c p, 0)]
            rw [enc_b (by omega)]
            refine ⟨⟨?_, ?_⟩, trivial⟩
            · exact ((zU_n (by decide)).trans ((zU_n (by decide)).trans (zU_ex (by rw [List.length_map]; omega)))).trans (show 124 = c p by omega)
            · exact (zU_n (by decide)).trans (zU_ex (by rw [List.length_map]; omega))
        have e1 : k + ((pE c n 1 o (p + 1)).2.2.length : Int) + 1 = k + (((pE c n 1 o (p + 1)).2.2 ++ [(c p, 0)]).length : Int) := by rw [List.length_append, List.length_singleton]; omega
        have hz := ih2 (pE c n 1 o (p + 1)).2.1 (k + (((pE c n 1 o (p + 1)).2.2 ++ [(c p, 0)]).length : Int))  (D + 6) (zU (zU (zU J2 62 (130 + (k + ((pE c n 1 o (p + 1)).2.2.length : Int))) 124) 63 (130 + (k + ((pE c n 1 o (p + 1)).2.2.length : Int))) 0) 50 19 ((k + ((pE c n 1 o (p + 1)).2.2.length : Int)) + 1)) (zK_x (a := 50) (x := 19) (v := (k + ((pE c n 1 o (p + 1)).2.2.length : Int)) + 1) (zK_x (a := 63) (x := 130 + (k + ((pE c n 1 o (p + 1)).2.2.length : Int))) (v := 0) (zK_x (a := 62) (x := 130 + (k + ((pE c n 1 o (p + 1)).2.2.length : Int))) (v := 124) hJ3 rfl) rfl) rfl) ((zU_x (by decide)).trans ((zU_n (by decide)).trans ((zU_n (by decide)).trans (h22)))) ((zU_x (by decide)).trans ((zU_n (by decide)).trans ((zU_n (by decide)).trans (h27)))) ((zU_x (by decide)).trans ((zU_n (by decide)).trans ((zU_n (by decide)).trans (h28)))) (zU_e.trans e1) (by omega) (by omega) (by omega) hD
        rw [pL_t hq ok, show (pE c n 1 o (p + 1)).2.2 ++ (c p, 0) :: (pL (pE c n 1 o) c 0 j (pE c n 1 o (p + 1)).2.1).2.2 = ((pE c n 1 o (p + 1)).2.2 ++ [(c p, 0)]) ++ (pL (pE c n 1 o) c 0 j (pE c n 1 o (p + 1)).2.1).2.2 by rw [List.append_assoc]; rfl]
        exact zW_m hz (fun r6 J6 M6 R6 h => rrc (p := (pE c n 1 o (p + 1)).2.1) (by rw [List.length_append, List.length_singleton]; omega) ((zK_x (a := 50) (x := 19) (v := (k + ((pE c n 1 o (p + 1)).2.2.length : Int)) + 1) (zK_x (a := 63) (x := 130 + (k + ((pE c n 1 o (p + 1)).2.2.length : Int))) (v := 0) (zK_x (a := 62) (x := 130 + (k + ((pE c n 1 o (p + 1)).2.2.length : Int))) (v := 124) hJ2 rfl) rfl) rfl)) (fun j hj => ⟨(zU_n (by decide)).trans ((zU_n (by decide)).trans ((zU_x (by omega)).trans ((hke2 j hj).1))), (zU_n (by decide)).trans ((zU_x (by omega)).trans ((zU_n (by decide)).trans ((hke2 j hj).2)))⟩) hl2 h)
      · show zW _ _ _ _ _ _ _ _ _ _
        refine z_aload0 gi_176_34 ?_
        refine z_pushJ gp_176_35 ?_
        refine z_pushJ gp_176_37 ?_
        refine z_callVx (As := [_, _]) gi_176_38 rfl gk_50 (Nat.le_of_ble_eq_true rfl) (Nat.le_of_ble_eq_true rfl) (addStep_k (k := J2 50 19) (s := 124) (v := 0) hR (by omega) (by exact rfl) (by omega)) ?_
        show zW _ _ _ _ _ _ _ _ _ _
        refine z_goto gi_176_41 ?_
        show zW _ _ _ _ [some (.ref 50)] [] _ _ _ _
        refine z_aload0 gi_176_4 ?_
        refine z_getI (v := (pE c n 1 o (p + 1)).2.1) gi_176_5 gk_50 ((zU_x (by decide)).trans ((zU_n (by decide)).trans ((zU_n (by decide)).trans (h27)))) ?_
        refine z_if_geT gi_176_8 (by omega) (by omega) ?_
        refine z_vret gi_176_44 gr_176 ?_
        rw [pL_f hq ok]
        refine ⟨⟨rfl, (zK_x (a := 50) (x := 19) (v := (J2 50 19) + 1) (zK_x (a := 63) (x := 130 + (J2 50 19)) (v := 0) (zK_x (a := 62) (x := 130 + (J2 50 19)) (v := 124) hJ2 rfl) rfl) rfl), (zU_x (by decide)).trans ((zU_n (by decide)).trans ((zU_n (by decide)).trans (h22))), fun j hj => ⟨(zU_n (by decide)).trans ((zU_n (by decide)).trans ((zU_x (by omega)).trans ((hke2 j hj).1))), (zU_n (by decide)).trans ((zU_x (by omega)).trans ((zU_n (by decide)).trans ((hke2 j hj).2)))⟩, rfl, rfl⟩, Or.inr ⟨ok, (zU_x (by decide)).trans ((zU_n (by decide)).trans ((zU_n (by decide)).trans (h27))), ?_⟩⟩
        rw [zU_e]
        omega
theorem rch0 {X : Nat × (Nat → Int32)} {M : zA} {R : zR} (hR : zRoR R) {A : zA} {c : Int → Int} {f : Int} (hf : A 50 15 = f) (hc : ∀ i, 0 ≤ i → i < f → A 61 i = zb (c i)) (ht : tp c f) {n : Nat} (ih : (∀ (o a k : Int) (D : Nat) (J : zA), pK n 1 o → zK (kL [62, 63] [(50, 16), (50, 17), (50, 18), (50, 19)]) A J → J 50 16 = a → J 50 17 = -1 → J 50 18 = o → J 50 19 = k → (0 ≤ a ∧ a ≤ f) → (0 ≤ k ∧ k ≤ a) → n + 8 ≤ D → zW X D 175 0 (gEn 175 [.ref 50]) [] J M R (rr c k o a (pE c n 1 o a) J M R))) : (∀ (o a k : Int) (D : Nat) (J : zA), pK (n + 1) 0 o → zK (kL [62, 63] [(50, 16), (50, 17), (50, 18), (50, 19)]) A J → J 50 16 = a → J 50 17 = -1 → J 50 18 = o → J 50 19 = k → (0 ≤ a ∧ a ≤ f) → (0 ≤ k ∧ k ≤ a) → (n + 1) + 8 ≤ D → zW X D 176 0 (gEn 176 [.ref 50]) [] J M R (rr c k o a (pE c (n + 1) 0 o a) J M R)) := by
  intro o a k D J hk hJ hat hfa hop hkk ha hk0 hD
  obtain ⟨D, rfl⟩ : ∃ e, D = e + 6 := ⟨D - 6, by omega⟩
  have tf := ht.1
  show zW _ _ _ _ [some (.ref 50)] _ _ _ _ _
  refine z_aload0 rfl ?_
  have gx := (pE_g ht n 1 o a (by omega) ha).1
  have gl : (pE c n 1 o a).1 = true → (a < (pE c n 1 o a).2.1 ∧ ((pE c n 1 o a).2.2.length : Int) ≤ (pE c n 1 o a).2.1 - a) := fun t => ⟨((pE_g ht n 1 o a (by omega) ha).2 t).1.1, ((pE_g ht n 1 o a (by omega) ha).2 t).1.2.1⟩
  refine z_callV (As := []) _ rfl rfl rfl (Nat.le_of_ble_eq_true rfl) (Nat.le_of_ble_eq_true rfl) (ih o a k _ _ (by omega) hJ hat hfa hop hkk ha hk0 (by omega)) (fun r J2 M2 R2 hr => ?_)
  obtain ⟨⟨rfl, hk2, h22, hke, eM, eR⟩, hr⟩ := hr
  obtain rfl : M = M2 := eM.symm
  obtain rfl : R = R2 := eR.symm
  have hJ2 : zK (kL [62, 63] [(50, 16), (50, 17), (50, 18), (50, 19)]) J J2 := zK_t zK_r hk2
  have hJ3 : zK (kL [62, 63] [(50, 16), (50, 17), (50, 18), (50, 19)]) A J2 := zK_t hJ hJ2
  have hb0 : ∀ j, j < 130 + (k) → J 62 j = J 62 j ∧ J 63 j = J 63 j := fun j hj => ⟨rfl, rfl⟩
  have hke2 : ∀ j, j < 130 + (k) → J2 62 j = J 62 j ∧ J2 63 j = J 63 j := fun j hj => ⟨(hke j hj).1.trans (hb0 j hj).1, (hke j hj).2.trans (hb0 j hj).2⟩
  rcases hr with ⟨ok, h27, h28, h29, hl⟩ | ⟨ok, h27, h29⟩
  · show zW _ _ _ _ _ _ _ _ _ _
    have gl2 := gl ok
    show zW _ _ _ _ [some (.ref 50)] [] _ _ _ _
    rw [pE_t (by decide) ok]
    have gl2 := gl ok
    have hz := rlp0 (X := X) (M := M) hR hf hc ht ih hk (pM 0) (pE c n 1 o a).2.1 (k + ((pE c n 1 o a).2.2.length : Int))  (D + 6) J2 hJ3 h22 h27 h28 h29 (by omega) (by omega) (by show 120 ≤ (pE c n 1 o a).2.1 + ((120 : Nat) : Int); omega) hD
    exact zW_m hz (fun r6 J6 M6 R6 h => rrc (l := (pE c n 1 o a).2.2) (p := (pE c n 1 o a).2.1) (show ((pE c n 1 o a).2.2.length : Int) ≤ (pE c n 1 o a).2.1 - a by omega) hJ2 hke2 hl h)
  · show zW _ _ _ _ _ _ _ _ _ _
    refine z_aload0 gi_176_4 ?_
    refine z_getI (v := (pE c n 1 o a).2.1) gi_176_5 gk_50 (h27) ?_
    refine z_if_geT gi_176_8 (by omega) (by omega) ?_
    refine z_vret gi_176_44 gr_176 ?_
    rw [pE_f (by decide) ok]
    exact ⟨⟨rfl, hJ2, h22, hke2, rfl, rfl⟩, Or.inr ⟨ok, h27, h29⟩⟩
theorem rdRef {X : Nat × (Nat → Int32)} {M : zA} {R : zR} (hR : zRoR R) {A : zA} {c : Int → Int} {f : Int} (hf : A 50 15 = f) (hc : ∀ i, 0 ≤ i → i < f → A 61 i = zb (c i)) (ht : tp c f) : ∀ n : Nat, (∀ (o a k : Int) (D : Nat) (J : zA), pK n 5 o → zK (kL [62, 63] [(50, 16), (50, 17), (50, 18), (50, 19)]) A J → J 50 16 = a → J 50 17 = -1 → J 50 18 = o → J 50 19 = k → (0 ≤ a ∧ a ≤ f) → (0 ≤ k ∧ k ≤ a) → n + 8 ≤ D → zW X D 171 0 (gEn 171 [.ref 50]) [] J M R (rr c k o a (pE c n 5 o a) J M R)) ∧ (∀ (o a k : Int) (D : Nat) (J : zA), pK n 4 o → zK (kL [62, 63] [(50, 16), (50, 17), (50, 18), (50, 19)]) A J → J 50 16 = a → J 50 17 = -1 → J 50 18 = o → J 50 19 = k → (0 ≤ a ∧ a ≤ f) → (0 ≤ k ∧ k ≤ a) → n + 8 ≤ D → zW X D 172 0 (gEn 172 [.ref 50]) [] J M R (rr c k o a (pE c n 4 o a) J M R)) ∧ (∀ (o a k : Int) (D : Nat) (J : zA), pK n 3 o → zK (kL [62, 63] [(50, 16), (50, 17), (50, 18), (50, 19)]) A J → J 50 16 = a → J 50 17 = -1 → J 50 18 = o → J 50 19 = k → (0 ≤ a ∧ a ≤ f) → (0 ≤ k ∧ k ≤ a) → n + 8 ≤ D → zW X D 173 0 (gEn 173 [.ref 50]) [] J M R (rr c k o a (pE c n 3 o a) J M R)) ∧ (∀ (o a k : Int) (D : Nat) (J : zA), pK n 2 o → zK (kL [62, 63] [(50, 16), (50, 17), (50, 18), (50, 19)]) A J → J 50 16 = a → J 50 17 = -1 → J 50 18 = o → J 50 19 = k → (0 ≤ a ∧ a ≤ f) → (0 ≤ k ∧ k ≤ a) → n + 8 ≤ D → zW X D 174 0 (gEn 174 [.ref 50]) [] J M R (rr c k o a (pE c n 2 o a) J M R)) ∧ (∀ (o a k : Int) (D : Nat) (J : zA), pK n 1 o → zK (kL [62, 63] [(50, 16), (50, 17), (50, 18), (50, 19)]) A J → J 50 16 = a → J 50 17 = -1 → J 50 18 = o → J 50 19 = k → (0 ≤ a ∧ a ≤ f) → (0 ≤ k ∧ k ≤ a) → n + 8 ≤ D → zW X D 175 0 (gEn 175 [.ref 50]) [] J M R (rr c k o a (pE c n 1 o a) J M R)) ∧ (∀ (o a k : Int) (D : Nat) (J : zA), pK n 0 o → zK (kL [62, 63] [(50, 16), (50, 17), (50, 18), (50, 19)]) A J → J 50 16 = a → J 50 17 = -1 → J 50 18 = o → J 50 19 = k → (0 ≤ a ∧ a ≤ f) → (0 ≤ k ∧ k ≤ a) → n + 8 ≤ D → zW X D 176 0 (gEn 176 [.ref 50]) [] J M R (rr c k o a (pE c n 0 o a) J M R)) := by
  intro n
  induction n with
  | zero =>
    refine ⟨?_, ?_, ?_, ?_, ?_, ?_⟩ <;> (intro o a k D J hk; exfalso; omega)
  | succ n ih =>
    obtain ⟨h5, h4, h3, h2, h1, h0⟩ := ih
    exact ⟨rop hR hf hc ht h5 h0, rch4 hR hf hc ht h5, rch3 hR hf hc ht h4, rch2 hR hf hc ht h3, rch1 hR hf hc ht h2, rch0 hR hf hc ht h1⟩
