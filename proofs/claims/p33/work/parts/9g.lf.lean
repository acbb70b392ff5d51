theorem rop {X : Nat × (Nat → Int32)} {M : zA} {R : zR} (hR : zRoR R) {A : zA} {c : Int → Int} {f : Int} (hf : A 50 15 = f) (hc : ∀ i, 0 ≤ i → i < f → A 61 i = zb (c i)) (ht : tp c f) {n : Nat} (ih5 : (∀ (o a k : Int) (D : Nat) (J : zA), pK n 5 o → zK (kL [62, 63] [(50, 16), (50, 17), (50, 18), (50, 19)]) A J → J 50 16 = a → J 50 17 = -1 → J 50 18 = o → J 50 19 = k → (0 ≤ a ∧ a ≤ f) → (0 ≤ k ∧ k ≤ a) → n + 8 ≤ D → zW X D 171 0 (gEn 171 [.ref 50]) [] J M R (rr c k o a (pE c n 5 o a) J M R))) (ihE : (∀ (o a k : Int) (D : Nat) (J : zA), pK n 0 o → zK (kL [62, 63] [(50, 16), (50, 17), (50, 18), (50, 19)]) A J → J 50 16 = a → J 50 17 = -1 → J 50 18 = o → J 50 19 = k → (0 ≤ a ∧ a ≤ f) → (0 ≤ k ∧ k ≤ a) → n + 8 ≤ D → zW X D 176 0 (gEn 176 [.ref 50]) [] J M R (rr c k o a (pE c n 0 o a) J M R))) : (∀ (o a k : Int) (D : Nat) (J : zA), pK (n + 1) 5 o → zK (kL [62, 63] [(50, 16), (50, 17), (50, 18), (50, 19)]) A J → J 50 16 = a → J 50 17 = -1 → J 50 18 = o → J 50 19 = k → (0 ≤ a ∧ a ≤ f) → (0 ≤ k ∧ k ≤ a) → (n + 1) + 8 ≤ D → zW X D 171 0 (gEn 171 [.ref 50]) [] J M R (rr c k o a (pE c (n + 1) 5 o a) J M R)) := by
  intro o a k D J hk hJ hat hfa hop hkk ha hk0 hD
  obtain ⟨D, rfl⟩ : ∃ e, D = e + 6 := ⟨D - 6, by omega⟩
  have tf := ht.1
  rw [pE_5]
  show zW _ _ _ _ [some (.ref 50), none] _ _ _ _ _
  refine z_aload rfl rfl ?_
  refine z_callVP (As := []) (v := lo (c (a))) rfl rfl rfl (Nat.le_of_ble_eq_true rfl) (Nat.le_of_ble_eq_true rfl) (look_k hR hf hc ht hJ (by exact hat) (by omega)) ?_
  have q1 := tp_r ht (a) (by omega)
  have q2 := lo_r (c (a))
  refine z_istore rfl rfl ?_
  refine z_iload rfl rfl ?_
  refine z_callSP (As := [_]) (v := nmx (lo (c (a)))) rfl rfl (Nat.le_of_ble_eq_true rfl) (Nat.le_of_ble_eq_true rfl) (nameOf_k (by omega)) ?_
  have q3 := nmx_r (lo (c (a)))
  refine z_if_lt rfl (by omega) (fun h4 => ?_) (fun h4 => ?_)
  · refine z_iload rfl rfl ?_
    refine z_pushI (z := 33) rfl rfl ?_
    refine z_icmp_eq rfl (by omega) (by decide) (fun h5 => ?_) (fun h5 => ?_)
    · refine z_aload rfl rfl ?_
      refine z_callVi (As := []) (le := [some _]) rfl rfl rfl (Nat.le_of_ble_eq_true rfl) (Nat.le_of_ble_eq_true rfl) rfl ?_
      refine z_aload rfl rfl ?_
      refine z_getI (v := o) rfl rfl (hop) ?_
      refine z_pushI (z := 6) rfl rfl ?_
      refine z_icmp_ne rfl (by omega) (by decide) (fun h6 => ?_) (fun h6 => ?_)
      · refine z_aload rfl rfl ?_
        refine z_dup rfl rfl ?_
        refine z_getI (v := o) rfl rfl (hop) ?_
        refine z_pushI (z := 1) rfl rfl ?_
        refine z_iadd (e := o + 1) rfl rfl ?_
        refine z_putI (y := 18) rfl rfl rfl ?_
        refine z_aload rfl rfl ?_
        refine z_dup rfl rfl ?_
        refine z_getI (v := a) rfl rfl ((zU_x (by decide)).trans (hat)) ?_
        refine z_pushI (z := 1) rfl rfl ?_
        refine z_iadd (e := a + 1) rfl rfl ?_
        refine z_putI (y := 16) rfl rfl rfl ?_
        refine z_pushI (z := 1) rfl rfl ?_
        refine z_bret rfl rfl (by decide) ?_
        show zW _ _ _ _ _ _ _ _ _ _
        refine z_if_neT rfl (by decide) (by decide) ?_
        refine z_aload rfl rfl ?_
        have ha2 := tp_lt ht (show ¬ c a = -1 by omega)
        have gx := (pE_g ht n 5 (o + 1) (a + 1) (by omega) (by omega)).1
        have gl : (pE c n 5 (o + 1) (a + 1)).1 = true → ((pE c n 5 (o + 1) (a + 1)).2.2.length : Int) ≤ (pE c n 5 (o + 1) (a + 1)).2.1 - (a + 1) := fun t => ((pE_g ht n 5 (o + 1) (a + 1) (by omega) (by omega)).2 t).1.2.1
        refine z_callV (As := []) _ rfl rfl rfl (Nat.le_of_ble_eq_true rfl) (Nat.le_of_ble_eq_true rfl) (ih5 (o + 1) (a + 1) k _ _ (by omega) (zK_x (a := 50) (x := 16) (v := a + 1) (zK_x (a := 50) (x := 18) (v := o + 1) hJ rfl) rfl) (by exact zU_e) (by exact (zU_x (by decide)).trans ((zU_x (by decide)).trans (hfa))) (by exact (zU_x (by decide)).trans (zU_e)) (by exact (zU_x (by decide)).trans ((zU_x (by decide)).trans (hkk))) (by omega) (by omega) (by omega)) (fun r J2 M2 R2 hr => ?_)
        obtain ⟨⟨rfl, hk2, h22, hke, eM, eR⟩, hr⟩ := hr
        obtain rfl : M = M2 := eM.symm
        obtain rfl : R = R2 := eR.symm
        have hJ2 : zK (kL [62, 63] [(50, 16), (50, 17), (50, 18), (50, 19)]) J J2 := zK_t (zK_x (a := 50) (x := 16) (v := a + 1) (zK_x (a := 50) (x := 18) (v := o + 1) zK_r rfl) rfl) hk2
        have hJ3 : zK (kL [62, 63] [(50, 16), (50, 17), (50, 18), (50, 19)]) A J2 := zK_t hJ hJ2
        have hb0 : ∀ j, j < 130 + (k) → (zU (zU J 50 18 (o + 1)) 50 16 (a + 1)) 62 j = J 62 j ∧ (zU (zU J 50 18 (o + 1)) 50 16 (a + 1)) 63 j = J 63 j := fun j hj => ⟨(zU_n (by decide)).trans ((zU_n (by decide)).trans (rfl)), (zU_n (by decide)).trans ((zU_n (by decide)).trans (rfl))⟩
        have hke2 : ∀ j, j < 130 + (k) → J2 62 j = J 62 j ∧ J2 63 j = J 63 j := fun j hj => ⟨(hke j hj).1.trans (hb0 j hj).1, (hke j hj).2.trans (hb0 j hj).2⟩
        rcases hr with ⟨ok, h27, h28, h29, hl⟩ | ⟨ok, h27, h29⟩
        · show zW _ _ _ _ _ _ _ _ _ _
          have gl2 := gl ok
          refine z_aload rfl rfl ?_
          refine z_dup rfl rfl ?_
          refine z_getI (v := o + 1) rfl rfl (h28) ?_
          refine z_pushI (z := 1) rfl rfl ?_
          refine z_isub (e := o + 1 - 1) rfl rfl ?_
          refine z_putI (y := 18) rfl rfl rfl ?_
          refine z_aload rfl rfl ?_
          refine z_iload rfl rfl ?_
          refine z_pushI (z := 33) rfl rfl ?_
          refine z_icmp_neF rfl (by omega) (by decide) (by omega) ?_
          refine z_pushI (z := 3) rfl rfl ?_
          refine z_goto rfl ?_
          refine z_pushI (z := 0) rfl rfl ?_
          refine z_callVx (As := [_, _]) rfl rfl rfl (Nat.le_of_ble_eq_true rfl) (Nat.le_of_ble_eq_true rfl) (addStep_k (k := k + ((pE c n 5 (o + 1) (a + 1)).2.2.length : Int)) (s := 3) (v := 0) hR (by omega) (by exact (zU_x (by decide)).trans (h29)) (by omega)) ?_
          show zW _ _ _ _ _ _ _ _ _ _
          refine z_goto rfl ?_
          refine z_vret rfl rfl ?_
          have ex : opd c o (pE c n 0 (o + 1)) (pE c n 5 (o + 1)) a = (true, (pE c n 5 (o + 1) (a + 1)).2.1, (pE c n 5 (o + 1) (a + 1)).2.2 ++ [(33, 0)]) := by
            unfold opd
            rw [if_neg (show ¬ dg (c a) by omega), if_neg (show ¬ nmd (c a) by omega), if_pos (show (c a = 40 ∨ c a = 33 ∨ c a = 45) ∧ o < 6 by omega), if_neg (show ¬ c a = 40 by omega), if_pos ok, if_neg (show ¬ c a = 45 by omega)]
          rw [ex]
          have gl2 := gl ok
          refine ⟨⟨rfl, (zK_x (a := 50) (x := 19) (v := (k + ((pE c n 5 (o + 1) (a + 1)).2.2.length : Int)) + 1) (zK_x (a := 63) (x := 130 + (k + ((pE c n 5 (o + 1) (a + 1)).2.2.length : Int))) (v := 0) (zK_x (a := 62) (x := 130 + (k + ((pE c n 5 (o + 1) (a + 1)).2.2.length : Int))) (v := 3) (zK_x (a := 50) (x := 18) (v := o + 1 - 1) hJ2 rfl) rfl) rfl) rfl), (zU_x (by decide)).trans ((zU_n (by decide)).trans ((zU_n (by decide)).trans ((zU_x (by decide)).trans (h22)))), fun j hj => ⟨(zU_n (by decide)).trans ((zU_n (by decide)).trans ((zU_x (by omega)).trans ((zU_n (by decide)).trans ((hke2 j hj).1)))), (zU_n (by decide)).trans ((zU_x (by omega)).trans ((zU_n (by decide)).trans ((zU_n (by decide)).trans ((hke2 j hj).2))))⟩, rfl, rfl⟩, Or.inl ⟨rfl, (zU_x (by decide)).trans ((zU_n (by decide)).trans ((zU_n (by decide)).trans ((zU_x (by decide)).trans (h27)))), ((zU_x (by decide)).trans ((zU_n (by decide)).trans ((zU_n (by decide)).trans (zU_e)))).trans (by omega), ?_, ?_⟩⟩
          · rw [zU_e, List.length_append, List.length_singleton]
            omega
          · show lay _ 62 63 (130 + k) (((pE c n 5 (o + 1) (a + 1)).2.2 ++ [(33, 0)]).map enc)
            rw [List.map_append]
            refine lay_app _ _ _ (lay_keep _ _ (130 + k + ((pE c n 5 (o + 1) (a + 1)).2.2.length : Int)) hl (by rw [List.length_map]; omega) (fun j hj => ⟨?_, ?_⟩)) ⟨⟨?_, ?_⟩, trivial⟩
            · exact (zU_n (by decide)).trans ((zU_n (by decide)).trans ((zU_x (by omega)).trans (zU_n (by decide))))
            · exact (zU_n (by decide)).trans ((zU_x (by omega)).trans ((zU_n (by decide)).trans (zU_n (by decide))))
            · exact (zU_n (by decide)).trans ((zU_n (by decide)).trans (zU_ex (by rw [List.length_map]; omega)))
            · exact (zU_n (by decide)).trans (zU_ex (by rw [List.length_map]; omega))
        · show zW _ _ _ _ _ _ _ _ _ _
          refine z_aload rfl rfl ?_
          refine z_dup rfl rfl ?_
          refine z_getI (v := J2 50 18) rfl rfl (rfl) ?_
          refine z_pushI (z := 1) rfl rfl ?_
          refine z_isub (e := (J2 50 18) - 1) rfl rfl ?_
          refine z_putI (y := 18) rfl rfl rfl ?_
          refine z_aload rfl rfl ?_
          refine z_iload rfl rfl ?_
          refine z_pushI (z := 33) rfl rfl ?_
          refine z_icmp_neF rfl (by omega) (by decide) (by omega) ?_
          refine z_pushI (z := 3) rfl rfl ?_
          refine z_goto rfl ?_
          refine z_pushI (z := 0) rfl rfl ?_
          refine z_callVx (As := [_, _]) rfl rfl rfl (Nat.le_of_ble_eq_true rfl) (Nat.le_of_ble_eq_true rfl) (addStep_k (k := J2 50 19) (s := 3) (v := 0) hR (by omega) (by exact (zU_x (by decide)).trans (rfl)) (by omega)) ?_
          show zW _ _ _ _ _ _ _ _ _ _
          refine z_goto rfl ?_
          refine z_vret rfl rfl ?_
          have ex : opd c o (pE c n 0 (o + 1)) (pE c n 5 (o + 1)) a = (pE c n 5 (o + 1) (a + 1)) := by
            unfold opd
            rw [if_neg (show ¬ dg (c a) by omega), if_neg (show ¬ nmd (c a) by omega), if_pos (show (c a = 40 ∨ c a = 33 ∨ c a = 45) ∧ o < 6 by omega), if_neg (show ¬ c a = 40 by omega), if_neg (by rw [ok]; decide)]
          rw [ex]
          refine ⟨⟨rfl, (zK_x (a := 50) (x := 19) (v := (J2 50 19) + 1) (zK_x (a := 63) (x := 130 + (J2 50 19)) (v := 0) (zK_x (a := 62) (x := 130 + (J2 50 19)) (v := 3) (zK_x (a := 50) (x := 18) (v := (J2 50 18) - 1) hJ2 rfl) rfl) rfl) rfl), (zU_x (by decide)).trans ((zU_n (by decide)).trans ((zU_n (by decide)).trans ((zU_x (by decide)).trans (h22)))), fun j hj => ⟨(zU_n (by decide)).trans ((zU_n (by decide)).trans ((zU_x (by omega)).trans ((zU_n (by decide)).trans ((hke2 j hj).1)))), (zU_n (by decide)).trans ((zU_x (by omega)).trans ((zU_n (by decide)).trans ((zU_n (by decide)).trans ((hke2 j hj).2))))⟩, rfl, rfl⟩, Or.inr ⟨ok, (zU_x (by decide)).trans ((zU_n (by decide)).trans ((zU_n (by decide)).trans ((zU_x (by decide)).trans (h27)))), ?_⟩⟩
          rw [zU_e]
          omega
      · refine z_aload rfl rfl ?_
        refine z_callVi (As := []) (le := [some _]) rfl rfl rfl (Nat.le_of_ble_eq_true rfl) (Nat.le_of_ble_eq_true rfl) rfl ?_
        refine z_aload rfl rfl ?_
        refine z_getI (v := (-1)) rfl rfl (hfa) ?_
        refine z_if_geF rfl (by decide) (by decide) ?_
        refine z_aload rfl rfl ?_
        refine z_aload rfl rfl ?_
        refine z_getI (v := a) rfl rfl (hat) ?_
        refine z_putI (y := 17) rfl rfl rfl ?_
        refine z_vret rfl rfl ?_
        show zW _ _ _ _ _ _ _ _ _ _
        refine z_pushI (z := 0) rfl rfl ?_
        refine z_bret rfl rfl (by decide) ?_
        show zW _ _ _ _ _ _ _ _ _ _
        refine z_if_neF rfl (by decide) (by decide) ?_
        refine z_vret rfl rfl ?_
        have ex : opd c o (pE c n 0 (o + 1)) (pE c n 5 (o + 1)) a = (false, a, []) := by
          unfold opd
          rw [if_neg (show ¬ dg (c a) by omega), if_neg (show ¬ nmd (c a) by omega), if_neg (by omega)]
        rw [ex]
        refine ⟨⟨rfl, (zK_x (a := 50) (x := 17) (v := a) zK_r rfl), (zU_x (by decide)).trans (hat), fun j hj => ⟨(zU_n (by decide)).trans (rfl), (zU_n (by decide)).trans (rfl)⟩, rfl, rfl⟩, Or.inr ⟨rfl, zU_e, ?_⟩⟩
        rw [show _ = k from (zU_x (by decide)).trans (hkk)]
        show k ≤ k ∧ k ≤ k + (a - a) + 1
        omega
    · refine z_iload rfl rfl ?_
      refine z_pushI (z := 45) rfl rfl ?_
      refine z_icmp_ne rfl (by omega) (by decide) (fun h7 => ?_) (fun h7 => ?_)
      · refine z_iload rfl rfl ?_
        refine z_pushI (z := 40) rfl rfl ?_
        refine z_icmp_ne rfl (by omega) (by decide) (fun h8 => ?_) (fun h8 => ?_)
        · refine z_aload rfl rfl ?_
          refine z_callV (As := []) _ rfl rfl rfl (Nat.le_of_ble_eq_true rfl) (Nat.le_of_ble_eq_true rfl) (figure_k (op := o) hR hf hc ht hJ hat hfa hop hkk ha hk0) (fun r J2 M2 R2 hr => ?_)
          have ex : opd c o (pE c n 0 (o + 1)) (pE c n 5 (o + 1)) a = (if dg (c a) then (if dg (c (nu c 4 a 0).1) then (false, (nu c 4 a 0).1, []) else (true, (nu c 4 a 0).1, [(48, (nu c 4 a 0).2)])) else (false, a, [])) := by
            unfold opd
            by_cases q : dg (c a)
            · rw [if_pos q, if_pos q]
            · rw [if_neg q, if_neg q, if_neg (show ¬ nmd (c a) by omega), if_neg (by omega)]
          obtain rfl := hr.1.1
          show zW _ _ _ _ _ _ _ _ _ _
          refine z_vret rfl rfl ?_
          rw [ex]
          exact hr
        · refine z_aload rfl rfl ?_
          refine z_callVi (As := []) (le := [some _]) rfl rfl rfl (Nat.le_of_ble_eq_true rfl) (Nat.le_of_ble_eq_true rfl) rfl ?_
          refine z_aload rfl rfl ?_
          refine z_getI (v := o) rfl rfl (hop) ?_
          refine z_pushI (z := 6) rfl rfl ?_
          refine z_icmp_ne rfl (by omega) (by decide) (fun h9 => ?_) (fun h9 => ?_)
          · refine z_aload rfl rfl ?_
            refine z_dup rfl rfl ?_
            refine z_getI (v := o) rfl rfl (hop) ?_
            refine z_pushI (z := 1) rfl rfl ?_
            refine z_iadd (e := o + 1) rfl rfl ?_
            refine z_putI (y := 18) rfl rfl rfl ?_
            refine z_aload rfl rfl ?_
            refine z_dup rfl rfl ?_
            refine z_getI (v := a) rfl rfl ((zU_x (by decide)).trans (hat)) ?_
            refine z_pushI (z := 1) rfl rfl ?_
            refine z_iadd (e := a + 1) rfl rfl ?_
            refine z_putI (y := 16) rfl rfl rfl ?_
            refine z_pushI (z := 1) rfl rfl ?_
            refine z_bret rfl rfl (by decide) ?_
            show zW _ _ _ _ _ _ _ _ _ _
            refine z_if_neT rfl (by decide) (by decide) ?_
            refine z_aload rfl rfl ?_
            have ha2 := tp_lt ht (show ¬ c a = -1 by omega)
            have gx := (pE_g ht n 0 (o + 1) (a + 1) (by omega) (by omega)).1
            have gl : (pE c n 0 (o + 1) (a + 1)).1 = true → ((pE c n 0 (o + 1) (a + 1)).2.2.length : Int) ≤ (pE c n 0 (o + 1) (a + 1)).2.1 - (a + 1) := fun t => ((pE_g ht n 0 (o + 1) (a + 1) (by omega) (by omega)).2 t).1.2.1
            refine z_callV (As := []) _ rfl rfl rfl (Nat.le_of_ble_eq_true rfl) (Nat.le_of_ble_eq_true rfl) (ihE (o + 1) (a + 1) k _ _ (by omega) (zK_x (a := 50) (x := 16) (v := a + 1) (zK_x (a := 50) (x := 18) (v := o + 1) hJ rfl) rfl) (by exact zU_e) (by exact (zU_x (by decide)).trans ((zU_x (by decide)).trans (hfa))) (by exact (zU_x (by decide)).trans (zU_e)) (by exact (zU_x (by decide)).trans ((zU_x (by decide)).trans (hkk))) (by omega) (by omega) (by omega)) (fun r J2 M2 R2 hr => ?_)
            obtain ⟨⟨rfl, hk2, h22, hke, eM, eR⟩, hr⟩ := hr
            obtain rfl : M = M2 := eM.symm
            obtain rfl : R = R2 := eR.symm
            have hJ2 : zK (kL [62, 63] [(50, 16), (50, 17), (50, 18), (50, 19)]) J J2 := zK_t (zK_x (a := 50) (x := 16) (v := a + 1) (zK_x (a := 50) (x := 18) (v := o + 1) zK_r rfl) rfl) hk2
            have hJ3 : zK (kL [62, 63] [(50, 16), (50, 17), (50, 18), (50, 19)]) A J2 := zK_t hJ hJ2
            have hb0 : ∀ j, j < 130 + (k) → (zU (zU J 50 18 (o + 1)) 50 16 (a + 1)) 62 j = J 62 j ∧ (zU (zU J 50 18 (o + 1)) 50 16 (a + 1)) 63 j = J 63 j := fun j hj => ⟨(zU_n (by decide)).trans ((zU_n (by decide)).trans (rfl)), (zU_n (by decide)).trans ((zU_n (by decide)).trans (rfl))⟩
            have hke2 : ∀ j, j < 130 + (k) → J2 62 j = J 62 j ∧ J2 63 j = J 63 j := fun j hj => ⟨(hke j hj).1.trans (hb0 j hj).1, (hke j hj).2.trans (hb0 j hj).2⟩
            rcases hr with ⟨ok, h27, h28, h29, hl⟩ | ⟨ok, h27, h29⟩
            · show zW _ _ _ _ _ _ _ _ _ _
              have gl2 := gl ok
              refine z_aload rfl rfl ?_
              refine z_getI (v := (-1)) rfl rfl (h27) ?_
              refine z_if_ltT rfl (by decide) (by decide) ?_
              refine z_aload rfl rfl ?_
              refine z_callVP (As := []) (v := lo (c ((pE c n 0 (o + 1) (a + 1)).2.1))) rfl rfl rfl (Nat.le_of_ble_eq_true rfl) (Nat.le_of_ble_eq_true rfl) (look_k hR hf hc ht hJ3 (by exact h22) (by omega)) ?_
              have q10 := tp_r ht ((pE c n 0 (o + 1) (a + 1)).2.1) (by omega)
              have q11 := lo_r (c ((pE c n 0 (o + 1) (a + 1)).2.1))
              refine z_pushI (z := 41) rfl rfl ?_
              refine z_icmp_eq rfl (by omega) (by decide) (fun h12 => ?_) (fun h12 => ?_)
              · refine z_aload rfl rfl ?_
                refine z_dup rfl rfl ?_
                refine z_getI (v := (pE c n 0 (o + 1) (a + 1)).2.1) rfl rfl (h22) ?_
                refine z_pushI (z := 1) rfl rfl ?_
                refine z_iadd (e := ((pE c n 0 (o + 1) (a + 1)).2.1) + 1) rfl rfl ?_
                refine z_putI (y := 16) rfl rfl rfl ?_
                refine z_aload rfl rfl ?_
                refine z_dup rfl rfl ?_
                refine z_getI (v := o + 1) rfl rfl ((zU_x (by decide)).trans (h28)) ?_
                refine z_pushI (z := 1) rfl rfl ?_
                refine z_isub (e := o + 1 - 1) rfl rfl ?_
                refine z_putI (y := 18) rfl rfl rfl ?_
                refine z_goto rfl ?_
                refine z_vret rfl rfl ?_
                have ex : opd c o (pE c n 0 (o + 1)) (pE c n 5 (o + 1)) a = (true, (pE c n 0 (o + 1) (a + 1)).2.1 + 1, (pE c n 0 (o + 1) (a + 1)).2.2) := by
                  unfold opd
                  rw [if_neg (show ¬ dg (c a) by omega), if_neg (show ¬ nmd (c a) by omega), if_pos (show (c a = 40 ∨ c a = 33 ∨ c a = 45) ∧ o < 6 by omega), if_pos (show c a = 40 by omega), if_pos ok, if_pos (show c (pE c n 0 (o + 1) (a + 1)).2.1 = 41 by omega)]
                rw [ex]
                exact ⟨⟨rfl, (zK_x (a := 50) (x := 18) (v := o + 1 - 1) (zK_x (a := 50) (x := 16) (v := ((pE c n 0 (o + 1) (a + 1)).2.1) + 1) hJ2 rfl) rfl), (zU_x (by decide)).trans (zU_e), fun j hj => ⟨(zU_n (by decide)).trans ((zU_n (by decide)).trans ((hke2 j hj).1)), (zU_n (by decide)).trans ((zU_n (by decide)).trans ((hke2 j hj).2))⟩, rfl, rfl⟩, Or.inl ⟨rfl, (zU_x (by decide)).trans ((zU_x (by decide)).trans (h27)), (zU_e).trans (by omega), (zU_x (by decide)).trans ((zU_x (by decide)).trans (h29)), lay_keep ((pE c n 0 (o + 1) (a + 1)).2.2.map enc) (130 + k) (130 + k + ((pE c n 0 (o + 1) (a + 1)).2.2.length : Int)) hl (by rw [List.length_map]; omega) (fun j _ => ⟨(zU_n (by decide)).trans (zU_n (by decide)), (zU_n (by decide)).trans (zU_n (by decide))⟩)⟩⟩
              · refine z_aload rfl rfl ?_
                refine z_callVi (As := []) (le := [some _]) rfl rfl rfl (Nat.le_of_ble_eq_true rfl) (Nat.le_of_ble_eq_true rfl) rfl ?_
                refine z_aload rfl rfl ?_
                refine z_getI (v := (-1)) rfl rfl (h27) ?_
                refine z_if_geF rfl (by decide) (by decide) ?_
                refine z_aload rfl rfl ?_
                refine z_aload rfl rfl ?_
                refine z_getI (v := (pE c n 0 (o + 1) (a + 1)).2.1) rfl rfl (h22) ?_
                refine z_putI (y := 17) rfl rfl rfl ?_
                refine z_vret rfl rfl ?_
                show zW _ _ _ _ _ _ _ _ _ _
                refine z_vret rfl rfl ?_
                have gl2 := gl ok
                have ex : opd c o (pE c n 0 (o + 1)) (pE c n 5 (o + 1)) a = (false, (pE c n 0 (o + 1) (a + 1)).2.1, []) := by
                  unfold opd
                  rw [if_neg (show ¬ dg (c a) by omega), if_neg (show ¬ nmd (c a) by omega), if_pos (show (c a = 40 ∨ c a = 33 ∨ c a = 45) ∧ o < 6 by omega), if_pos (show c a = 40 by omega), if_pos ok, if_neg (show ¬ c (pE c n 0 (o + 1) (a + 1)).2.1 = 41 by omega)]
                rw [ex]
                refine ⟨⟨rfl, (zK_x (a := 50) (x := 17) (v := (pE c n 0 (o + 1) (a + 1)).2.1) hJ2 rfl), (zU_x (by decide)).trans (h22), fun j hj => ⟨(zU_n (by decide)).trans ((hke2 j hj).1), (zU_n (by decide)).trans ((hke2 j hj).2)⟩, rfl, rfl⟩, Or.inr ⟨rfl, zU_e, ?_⟩⟩
                rw [show _ = k + ((pE c n 0 (o + 1) (a + 1)).2.2.length : Int) from (zU_x (by decide)).trans (h29)]
                show k ≤ k + ((pE c n 0 (o + 1) (a + 1)).2.2.length : Int) ∧ k + ((pE c n 0 (o + 1) (a + 1)).2.2.length : Int) ≤ k + ((pE c n 0 (o + 1) (a + 1)).2.1 - a) + 1
                omega
            · show zW _ _ _ _ _ _ _ _ _ _
              refine z_aload rfl rfl ?_
              refine z_getI (v := (pE c n 0 (o + 1) (a + 1)).2.1) rfl rfl (h27) ?_
              refine z_if_ltF rfl (by omega) (by omega) ?_
              refine z_vret rfl rfl ?_
              have ex : opd c o (pE c n 0 (o + 1)) (pE c n 5 (o + 1)) a = (pE c n 0 (o + 1) (a + 1)) := by
                unfold opd
                rw [if_neg (show ¬ dg (c a) by omega), if_neg (show ¬ nmd (c a) by omega), if_pos (show (c a = 40 ∨ c a = 33 ∨ c a = 45) ∧ o < 6 by omega), if_pos (show c a = 40 by omega), if_neg (by rw [ok]; decide)]
              rw [ex]
              refine ⟨⟨rfl, hJ2, h22, fun j hj => ⟨(hke2 j hj).1, (hke2 j hj).2⟩, rfl, rfl⟩, Or.inr ⟨ok, h27, ?_⟩⟩
              omega
          · refine z_aload rfl rfl ?_
            refine z_callVi (As := []) (le := [some _]) rfl rfl rfl (Nat.le_of_ble_eq_true rfl) (Nat.le_of_ble_eq_true rfl) rfl ?_
            refine z_aload rfl rfl ?_
            refine z_getI (v := (-1)) rfl rfl (hfa) ?_
            refine z_if_geF rfl (by decide) (by decide) ?_
            refine z_aload rfl rfl ?_
            refine z_aload rfl rfl ?_
            refine z_getI (v := a) rfl rfl (hat) ?_
            refine z_putI (y := 17) rfl rfl rfl ?_
            refine z_vret rfl rfl ?_
            show zW _ _ _ _ _ _ _ _ _ _
            refine z_pushI (z := 0) rfl rfl ?_
            refine z_bret rfl rfl (by decide) ?_
            show zW _ _ _ _ _ _ _ _ _ _
            refine z_if_neF rfl (by decide) (by decide) ?_
            refine z_vret rfl rfl ?_
            have ex : opd c o (pE c n 0 (o + 1)) (pE c n 5 (o + 1)) a = (false, a, []) := by
              unfold opd
              rw [if_neg (show ¬ dg (c a) by omega), if_neg (show ¬ nmd (c a) by omega), if_neg (by omega)]
            rw [ex]
            refine ⟨⟨rfl, (zK_x (a := 50) (x := 17) (v := a) zK_r rfl), (zU_x (by decide)).trans (hat), fun j hj => ⟨(zU_n (by decide)).trans (rfl), (zU_n (by decide)).trans (rfl)⟩, rfl, rfl⟩, Or.inr ⟨rfl, zU_e, ?_⟩⟩
            rw [show _ = k from (zU_x (by decide)).trans (hkk)]
            show k ≤ k ∧ k ≤ k + (a - a) + 1
            omega
      · refine z_aload rfl rfl ?_
        refine z_callVi (As := []) (le := [some _]) rfl rfl rfl (Nat.le_of_ble_eq_true rfl) (Nat.le_of_ble_eq_true rfl) rfl ?_
        refine z_aload rfl rfl ?_
        refine z_getI (v := o) rfl rfl (hop) ?_
        refine z_pushI (z := 6) rfl rfl ?_
        refine z_icmp_ne rfl (by omega) (by decide) (fun h10 => ?_) (fun h10 => ?_)
        · refine z_aload rfl rfl ?_
          refine z_dup rfl rfl ?_
          refine z_getI (v := o) rfl rfl (hop) ?_
          refine z_pushI (z := 1) rfl rfl ?_
          refine z_iadd (e := o + 1) rfl rfl ?_
          refine z_putI (y := 18) rfl rfl rfl ?_
          refine z_aload rfl rfl ?_
          refine z_dup rfl rfl ?_
          refine z_getI (v := a) rfl rfl ((zU_x (by decide)).trans (hat)) ?_
          refine z_pushI (z := 1) rfl rfl ?_
          refine z_iadd (e := a + 1) rfl rfl ?_
          refine z_putI (y := 16) rfl rfl rfl ?_
          refine z_pushI (z := 1) rfl rfl ?_
          refine z_bret rfl rfl (by decide) ?_
          show zW _ _ _ _ _ _ _ _ _ _
          refine z_if_neT rfl (by decide) (by decide) ?_
          refine z_aload rfl rfl ?_
          have ha2 := tp_lt ht (show ¬ c a = -1 by omega)
          have gx := (pE_g ht n 5 (o + 1) (a + 1) (by omega) (by omega)).1
          have gl : (pE c n 5 (o + 1) (a + 1)).1 = true → ((pE c n 5 (o + 1) (a + 1)).2.2.length : Int) ≤ (pE c n 5 (o + 1) (a + 1)).2.1 - (a + 1) := fun t => ((pE_g ht n 5 (o + 1) (a + 1) (by omega) (by omega)).2 t).1.2.1
          refine z_callV (As := []) _ rfl rfl rfl (Nat.le_of_ble_eq_true rfl) (Nat.le_of_ble_eq_true rfl) (ih5 (o + 1) (a + 1) k _ _ (by omega) (zK_x (a := 50) (x := 16) (v := a + 1) (zK_x (a := 50) (x := 18) (v := o + 1) hJ rfl) rfl) (by exact zU_e) (by exact (zU_x (by decide)).trans ((zU_x (by decide)).trans (hfa))) (by exact (zU_x (by decide)).trans (zU_e)) (by exact (zU_x (by decide)).trans ((zU_x (by decide)).trans (hkk))) (by omega) (by omega) (by omega)) (fun r J2 M2 R2 hr => ?_)
          obtain ⟨⟨rfl, hk2, h22, hke, eM, eR⟩, hr⟩ := hr
          obtain rfl : M = M2 := eM.symm
          obtain rfl : R = R2 := eR.symm
          have hJ2 : zK (kL [62, 63] [(50, 16), (50, 17), (50, 18), (50, 19)]) J J2 := zK_t (zK_x (a := 50) (x := 16) (v := a + 1) (zK_x (a := 50) (x := 18) (v := o + 1) zK_r rfl) rfl) hk2
          have hJ3 : zK (kL [62, 63] [(50, 16), (50, 17), (50, 18), (50, 19)]) A J2 := zK_t hJ hJ2
          have hb0 : ∀ j, j < 130 + (k) → (zU (zU J 50 18 (o + 1)) 50 16 (a + 1)) 62 j = J 62 j ∧ (zU (zU J 50 18 (o + 1)) 50 16 (a + 1)) 63 j = J 63 j := fun j hj => ⟨(zU_n (by decide)).trans ((zU_n (by decide)).trans (rfl)), (zU_n (by decide)).trans ((zU_n (by decide)).trans (rfl))⟩
          have hke2 : ∀ j, j < 130 + (k) → J2 62 j = J 62 j ∧ J2 63 j = J 63 j := fun j hj => ⟨(hke j hj).1.trans (hb0 j hj).1, (hke j hj).2.trans (hb0 j hj).2⟩
          rcases hr with ⟨ok, h27, h28, h29, hl⟩ | ⟨ok, h27, h29⟩
          · show zW _ _ _ _ _ _ _ _ _ _
            have gl2 := gl ok
            refine z_aload rfl rfl ?_
            refine z_dup rfl rfl ?_
            refine z_getI (v := o + 1) rfl rfl (h28) ?_
            refine z_pushI (z := 1) rfl rfl ?_
            refine z_isub (e := o + 1 - 1) rfl rfl ?_
            refine z_putI (y := 18) rfl rfl rfl ?_
            refine z_aload rfl rfl ?_
            refine z_iload rfl rfl ?_
            refine z_pushI (z := 33) rfl rfl ?_
            refine z_icmp_neT rfl (by omega) (by decide) (by omega) ?_
            refine z_pushI (z := 4) rfl rfl ?_
            refine z_pushI (z := 0) rfl rfl ?_
            refine z_callVx (As := [_, _]) rfl rfl rfl (Nat.le_of_ble_eq_true rfl) (Nat.le_of_ble_eq_true rfl) (addStep_k (k := k + ((pE c n 5 (o + 1) (a + 1)).2.2.length : Int)) (s := 4) (v := 0) hR (by omega) (by exact (zU_x (by decide)).trans (h29)) (by omega)) ?_
            show zW _ _ _ _ _ _ _ _ _ _
            refine z_goto rfl ?_
            refine z_vret rfl rfl ?_
            have ex : opd c o (pE c n 0 (o + 1)) (pE c n 5 (o + 1)) a = (true, (pE c n 5 (o + 1) (a + 1)).2.1, (pE c n 5 (o + 1) (a + 1)).2.2 ++ [(95, 0)]) := by
              unfold opd
              rw [if_neg (show ¬ dg (c a) by omega), if_neg (show ¬ nmd (c a) by omega), if_pos (show (c a = 40 ∨ c a = 33 ∨ c a = 45) ∧ o < 6 by omega), if_neg (show ¬ c a = 40 by omega), if_pos ok, if_pos (show c a = 45 by omega)]
            rw [ex]
            have gl2 := gl ok
            refine ⟨⟨rfl, (zK_x (a := 50) (x := 19) (v := (k + ((pE c n 5 (o + 1) (a + 1)).2.2.length : Int)) + 1) (zK_x (a := 63) (x := 130 + (k + ((pE c n 5 (o + 1) (a + 1)).2.2.length : Int))) (v := 0) (zK_x (a := 62) (x := 130 + (k + ((pE c n 5 (o + 1) (a + 1)).2.2.length : Int))) (v := 4) (zK_x (a := 50) (x := 18) (v := o + 1 - 1) hJ2 rfl) rfl) rfl) rfl), (zU_x (by decide)).trans ((zU_n (by decide)).trans ((zU_n (by decide)).trans ((zU_x (by decide)).trans (h22)))), fun j hj => ⟨(zU_n (by decide)).trans ((zU_n (by decide)).trans ((zU_x (by omega)).trans ((zU_n (by decide)).trans ((hke2 j hj).1)))), (zU_n (by decide)).trans ((zU_x (by omega)).trans ((zU_n (by decide)).trans ((zU_n (by decide)).trans ((hke2 j hj).2))))⟩, rfl, rfl⟩, Or.inl ⟨rfl, (zU_x (by decide)).trans ((zU_n (by decide)).trans ((zU_n (by decide)).trans ((zU_x (by decide)).trans (h27)))), ((zU_x (by decide)).trans ((zU_n (by decide)).trans ((zU_n (by decide)).trans (zU_e)))).trans (by omega), ?_, ?_⟩⟩
            · rw [zU_e, List.length_append, List.length_singleton]
              omega
            · show lay _ 62 63 (130 + k) (((pE c n 5 (o + 1) (a + 1)).2.2 ++ [(95, 0)]).map enc)
              rw [List.map_append]
              refine lay_app _ _ _ (lay_keep _ _ (130 + k + ((pE c n 5 (o + 1) (a + 1)).2.2.length : Int)) hl (by rw [List.length_map]; omega) (fun j hj => ⟨?_, ?_⟩)) ⟨⟨?_, ?_⟩, trivial⟩
              · exact (zU_n (by decide)).trans ((zU_n (by decide)).trans ((zU_x (by omega)).trans (zU_n (by decide))))
              · exact (zU_n (by decide)).trans ((zU_x (by omega)).trans ((zU_n (by decide)).trans (zU_n (by decide))))
              · exact (zU_n (by decide)).trans ((zU_n (by decide)).trans (zU_ex (by rw [List.length_map]; omega)))
              · exact (zU_n (by decide)).trans (zU_ex (by rw [List.length_map]; omega))
          · show zW _ _ _ _ _ _ _ _ _ _
            refine z_aload rfl rfl ?_
            refine z_dup rfl rfl ?_
            refine z_getI (v := J2 50 18) rfl rfl (rfl) ?_
            refine z_pushI (z := 1) rfl rfl ?_
            refine z_isub (e := (J2 50 18) - 1) rfl rfl ?_
            refine z_putI (y := 18) rfl rfl rfl ?_
            refine z_aload rfl rfl ?_
            refine z_iload rfl rfl ?_
            refine z_pushI (z := 33) rfl rfl ?_
            refine z_icmp_neT rfl (by omega) (by decide) (by omega) ?_
            refine z_pushI (z := 4) rfl rfl ?_
            refine z_pushI (z := 0) rfl rfl ?_
            refine z_callVx (As := [_, _]) rfl rfl rfl (Nat.le_of_ble_eq_true rfl) (Nat.le_of_ble_eq_true rfl) (addStep_k (k := J2 50 19) (s := 4) (v := 0) hR (by omega) (by exact (zU_x (by decide)).trans (rfl)) (by omega)) ?_
            show zW _ _ _ _ _ _ _ _ _ _
            refine z_goto rfl ?_
            refine z_vret rfl rfl ?_
            have ex : opd c o (pE c n 0 (o + 1)) (pE c n 5 (o + 1)) a = (pE c n 5 (o + 1) (a + 1)) := by
              unfold opd
              rw [if_neg (show ¬ dg (c a) by omega), if_neg (show ¬ nmd (c a) by omega), if_pos (show (c a = 40 ∨ c a = 33 ∨ c a = 45) ∧ o < 6 by omega), if_neg (show ¬ c a = 40 by omega), if_neg (by rw [ok]; decide)]
            rw [ex]
            refine ⟨⟨rfl, (zK_x (a := 50) (x := 19) (v := (J2 50 19) + 1) (zK_x (a := 63) (x := 130 + (J2 50 19)) (v := 0) (zK_x (a := 62) (x := 130 + (J2 50 19)) (v := 4) (zK_x (a := 50) (x := 18) (v := (J2 50 18) - 1) hJ2 rfl) rfl) rfl) rfl), (zU_x (by decide)).trans ((zU_n (by decide)).trans ((zU_n (by decide)).trans ((zU_x (by decide)).trans (h22)))), fun j hj => ⟨(zU_n (by decide)).trans ((zU_n (by decide)).trans ((zU_x (by omega)).trans ((zU_n (by decide)).trans ((hke2 j hj).1)))), (zU_n (by decide)).trans ((zU_x (by omega)).trans ((zU_n (by decide)).trans ((zU_n (by decide)).trans ((hke2 j hj).2))))⟩, rfl, rfl⟩, Or.inr ⟨ok, (zU_x (by decide)).trans ((zU_n (by decide)).trans ((zU_n (by decide)).trans ((zU_x (by decide)).trans (h27)))), ?_⟩⟩
            rw [zU_e]
            omega
        · refine z_aload rfl rfl ?_
          refine z_callVi (As := []) (le := [some _]) rfl rfl rfl (Nat.le_of_ble_eq_true rfl) (Nat.le_of_ble_eq_true rfl) rfl ?_
          refine z_aload rfl rfl ?_
          refine z_getI (v := (-1)) rfl rfl (hfa) ?_
          refine z_if_geF rfl (by decide) (by decide) ?_
          refine z_aload rfl rfl ?_
          refine z_aload rfl rfl ?_
          refine z_getI (v := a) rfl rfl (hat) ?_
          refine z_putI (y := 17) rfl rfl rfl ?_
          refine z_vret rfl rfl ?_
          show zW _ _ _ _ _ _ _ _ _ _
          refine z_pushI (z := 0) rfl rfl ?_
          refine z_bret rfl rfl (by decide) ?_
          show zW _ _ _ _ _ _ _ _ _ _
          refine z_if_neF rfl (by decide) (by decide) ?_
          refine z_vret rfl rfl ?_
          have ex : opd c o (pE c n 0 (o + 1)) (pE c n 5 (o + 1)) a = (false, a, []) := by
            unfold opd
            rw [if_neg (show ¬ dg (c a) by omega), if_neg (show ¬ nmd (c a) by omega), if_neg (by omega)]
          rw [ex]
          refine ⟨⟨rfl, (zK_x (a := 50) (x := 17) (v := a) zK_r rfl), (zU_x (by decide)).trans (hat), fun j hj => ⟨(zU_n (by decide)).trans (rfl), (zU_n (by decide)).trans (rfl)⟩, rfl, rfl⟩, Or.inr ⟨rfl, zU_e, ?_⟩⟩
          rw [show _ = k from (zU_x (by decide)).trans (hkk)]
          show k ≤ k ∧ k ≤ k + (a - a) + 1
          omega
  · refine z_aload rfl rfl ?_
    refine z_pushI (z := 2) rfl rfl ?_
    refine z_iload rfl rfl ?_
    refine z_callSP (As := [_]) (v := nmx (lo (c (a)))) rfl rfl (Nat.le_of_ble_eq_true rfl) (Nat.le_of_ble_eq_true rfl) (nameOf_k (by omega)) ?_
    have q11 := nmx_r (lo (c (a)))
    refine z_callVx (As := [_, _]) rfl rfl rfl (Nat.le_of_ble_eq_true rfl) (Nat.le_of_ble_eq_true rfl) (addStep_k (k := k) (s := 2) (v := nmx (lo (c (a)))) hR (by omega) (by exact hkk) (by omega)) ?_
    show zW _ _ _ _ _ _ _ _ _ _
    have ha3 := tp_lt ht (show ¬ c a = -1 by omega)
    refine z_aload rfl rfl ?_
    refine z_dup rfl rfl ?_
    refine z_getI (v := a) rfl rfl ((zU_x (by decide)).trans ((zU_n (by decide)).trans ((zU_n (by decide)).trans (hat)))) ?_
    refine z_pushI (z := 1) rfl rfl ?_
    refine z_iadd (e := a + 1) rfl rfl ?_
    refine z_putI (y := 16) rfl rfl rfl ?_
    refine z_goto rfl ?_
    refine z_vret rfl rfl ?_
    have ex : opd c o (pE c n 0 (o + 1)) (pE c n 5 (o + 1)) a = (true, a + 1, [(c a, 0)]) := by
      unfold opd
      rw [if_neg (show ¬ dg (c a) by omega), if_pos (show nmd (c a) by omega)]
    rw [ex]
    have el : lo (c a) = c a := by omega
    refine ⟨⟨rfl, (zK_x (a := 50) (x := 16) (v := a + 1) (zK_x (a := 50) (x := 19) (v := k + 1) (zK_x (a := 63) (x := 130 + k) (v := nmx (lo (c (a)))) (zK_x (a := 62) (x := 130 + k) (v := 2) zK_r rfl) rfl) rfl) rfl), zU_e, fun j hj => ⟨(zU_n (by decide)).trans ((zU_n (by decide)).trans ((zU_n (by decide)).trans ((zU_x (by omega)).trans (rfl)))), (zU_n (by decide)).trans ((zU_n (by decide)).trans ((zU_x (by omega)).trans ((zU_n (by decide)).trans (rfl))))⟩, rfl, rfl⟩, Or.inl ⟨rfl, (zU_x (by decide)).trans ((zU_x (by decide)).trans ((zU_n (by decide)).trans ((zU_n (by decide)).trans (hfa)))), (zU_x (by decide)).trans ((zU_x (by decide)).trans ((zU_n (by decide)).trans ((zU_n (by decide)).trans (hop)))), (zU_x (by decide)).trans (zU_e), ?_⟩⟩
    show lay _ 62 63 (130 + k) [enc (c a, 0)]
    rw [enc_n (show nmd (c a) by omega)]
    exact ⟨⟨(zU_n (by decide)).trans ((zU_n (by decide)).trans ((zU_n (by decide)).trans (zU_e))), ((zU_n (by decide)).trans ((zU_n (by decide)).trans (zU_e))).trans (by rw [el])⟩, trivial⟩
theorem rlp4 {X : Nat × (Nat → Int32)} {M : zA} {R : zR} (hR : zRoR R) {A : zA} {c : Int → Int} {f : Int} (hf : A 50 15 = f) (hc : ∀ i, 0 ≤ i → i < f → A 61 i = zb (c i)) (ht : tp c f) {n : Nat} (ih : (∀ (o a k : Int) (D : Nat) (J : zA), pK n 5 o → zK (kL [62, 63] [(50, 16), (50, 17), (50, 18), (50, 19)]) A J → J 50 16 = a → J 50 17 = -1 → J 50 18 = o → J 50 19 = k → (0 ≤ a ∧ a ≤ f) → (0 ≤ k ∧ k ≤ a) → n + 8 ≤ D → zW X D 171 0 (gEn 171 [.ref 50]) [] J M R (rr c k o a (pE c n 5 o a) J M R))) {o : Int} (hkr : pK (n + 1) 4 o) : ∀ (m : Nat) (p k : Int) (e1 : Option Value) (D : Nat) (J : zA), zK (kL [62, 63] [(50, 16), (50, 17), (50, 18), (50, 19)]) A J → J 50 16 = p → J 50 17 = -1 → J 50 18 = o → J 50 19 = k → (0 ≤ p ∧ p ≤ f) → (0 ≤ k ∧ k ≤ p) → 120 ≤ p + m → n + 9 ≤ D → zW X D 172 4 [some (.ref 50), e1] [] J M R (rr c k o p (pL (pE c n 5 o) c 4 m p) J M R) := by
  intro m
  induction m with
  | zero =>
    intro p k e1 D J hJ hat hfa hop hkk hp hk0 hpm hD
    obtain ⟨D, rfl⟩ : ∃ e, D = e + 6 := ⟨D - 6, by omega⟩
    have tf := ht.1
    have cp := ht.2.2 p (by omega)
    have lp : lo (c (p)) = -1 := by rw [cp]; rfl
    show zW _ _ _ _ [some (.ref 50), e1] _ _ _ _ _
    refine z_aload rfl rfl ?_
    refine z_getI (v := (-1)) rfl rfl (hfa) ?_
    refine z_if_geF rfl (by decide) (by decide) ?_
    refine z_aload rfl rfl ?_
    refine z_callVP (As := []) (v := lo (c (p))) rfl rfl rfl (Nat.le_of_ble_eq_true rfl) (Nat.le_of_ble_eq_true rfl) (look_k hR hf hc ht hJ hat (by omega)) ?_
    refine z_pushI (z := 42) rfl rfl ?_
    refine z_icmp_eqF rfl (by omega) (by decide) (by omega) ?_
    refine z_aload rfl rfl ?_
    refine z_callVP (As := []) (v := lo (c (p))) rfl rfl rfl (Nat.le_of_ble_eq_true rfl) (Nat.le_of_ble_eq_true rfl) (look_k hR hf hc ht hJ hat (by omega)) ?_
    refine z_pushI (z := 47) rfl rfl ?_
    refine z_icmp_eqF rfl (by omega) (by decide) (by omega) ?_
    refine z_aload rfl rfl ?_
    refine z_callVP (As := []) (v := lo (c (p))) rfl rfl rfl (Nat.le_of_ble_eq_true rfl) (Nat.le_of_ble_eq_true rfl) (look_k hR hf hc ht hJ hat (by omega)) ?_
    refine z_pushI (z := 37) rfl rfl ?_
    refine z_icmp_neT rfl (by omega) (by decide) (by omega) ?_
    refine z_vret rfl rfl ?_
    exact ⟨⟨rfl, zK_r, hat, fun j _ => ⟨rfl, rfl⟩, rfl, rfl⟩, Or.inl ⟨rfl, hfa, hop, hkk.trans (by show k = k + ((0 : Nat) : Int); omega), trivial⟩⟩
  | succ j ih2 =>
    intro p k e1 D J hJ hat hfa hop hkk hp hk0 hpm hD
    obtain ⟨D, rfl⟩ : ∃ e, D = e + 6 := ⟨D - 6, by omega⟩
    have tf := ht.1
    show zW _ _ _ _ [some (.ref 50), e1] _ _ _ _ _
    refine z_aload rfl rfl ?_
    refine z_getI (v := (-1)) rfl rfl (hfa) ?_
    refine z_if_geF rfl (by decide) (by decide) ?_
    refine z_aload rfl rfl ?_
    refine z_callVP (As := []) (v := lo (c (p))) rfl rfl rfl (Nat.le_of_ble_eq_true rfl) (Nat.le_of_ble_eq_true rfl) (look_k hR hf hc ht hJ (by exact hat) (by omega)) ?_
    have q1 := tp_r ht (p) (by omega)
    have q2 := lo_r (c (p))
    refine z_pushI (z := 42) rfl rfl ?_
    refine z_icmp_eq rfl (by omega) (by decide) (fun h3 => ?_) (fun h3 => ?_)
    · refine z_aload rfl rfl ?_
      refine z_callVP (As := []) (v := lo (c (p))) rfl rfl rfl (Nat.le_of_ble_eq_true rfl) (Nat.le_of_ble_eq_true rfl) (look_k hR hf hc ht hJ (by exact hat) (by omega)) ?_
      have q4 := tp_r ht (p) (by omega)
      have q5 := lo_r (c (p))
      refine z_istore rfl rfl ?_
      refine z_aload rfl rfl ?_
      refine z_dup rfl rfl ?_
      refine z_getI (v := p) rfl rfl (hat) ?_
      refine z_pushI (z := 1) rfl rfl ?_
      refine z_iadd (e := p + 1) rfl rfl ?_
      refine z_putI (y := 16) rfl rfl rfl ?_
      refine z_aload rfl rfl ?_
      have hq : rk (c p) = 4 := by unfold rk; (repeat' split) <;> omega
      have ha2 := tp_lt ht (rk_n (s := c p) (by omega)).1
      have rb := rk_b (s := c p) (by omega)
      have gx := (pE_g ht n 5 o (p + 1) (by omega) (by omega)).1
      have gl : (pE c n 5 o (p + 1)).1 = true → (p + 1 < (pE c n 5 o (p + 1)).2.1 ∧ ((pE c n 5 o (p + 1)).2.2.length : Int) ≤ (pE c n 5 o (p + 1)).2.1 - (p + 1)) := fun t => ⟨((pE_g ht n 5 o (p + 1) (by omega) (by omega)).2 t).1.1, ((pE_g ht n 5 o (p + 1) (by omega) (by omega)).2 t).1.2.1⟩
      refine z_callV (As := []) _ rfl rfl rfl (Nat.le_of_ble_eq_true rfl) (Nat.le_of_ble_eq_true rfl) (ih o (p + 1) k _ _ (by omega) (zK_x (a := 50) (x := 16) (v := p + 1) hJ rfl) (by exact zU_e) (by exact (zU_x (by decide)).trans (hfa)) (by exact (zU_x (by decide)).trans (hop)) (by exact (zU_x (by decide)).trans (hkk)) (by omega) (by omega) (by omega)) (fun r J2 M2 R2 hr => ?_)
      obtain ⟨⟨rfl, hk2, h22, hke, eM, eR⟩, hr⟩ := hr
      obtain rfl : M = M2 := eM.symm
      obtain rfl : R = R2 := eR.symm
      have hJ2 : zK (kL [62, 63] [(50, 16), (50, 17), (50, 18), (50, 19)]) J J2 := zK_t (zK_x (a := 50) (x := 16) (v := p + 1) zK_r rfl) hk2
      have hJ3 : zK (kL [62, 63] [(50, 16), (50, 17), (50, 18), (50, 19)]) A J2 := zK_t hJ hJ2
      have hb0 : ∀ j, j < 130 + (k) → (zU J 50 16 (p + 1)) 62 j = J 62 j ∧ (zU J 50 16 (p + 1)) 63 j = J 63 j := fun j hj => ⟨(zU_n (by decide)).trans (rfl), (zU_n (by decide)).trans (rfl)⟩
      have hke2 : ∀ j, j < 130 + (k) → J2 62 j = J 62 j ∧ J2 63 j = J 63 j := fun j hj => ⟨(hke j hj).1.trans (hb0 j hj).1, (hke j hj).2.trans (hb0 j hj).2⟩
      rcases hr with ⟨ok, h27, h28, h29, hl⟩ | ⟨ok, h27, h29⟩
      · show zW _ _ _ _ _ _ _ _ _ _
        have gl2 := gl ok
        refine z_aload rfl rfl ?_
        refine z_iload rfl rfl ?_
        refine z_pushI (z := 0) rfl rfl ?_
        refine z_callVx (As := [_, _]) rfl rfl rfl (Nat.le_of_ble_eq_true rfl) (Nat.le_of_ble_eq_true rfl) (addStep_k (k := k + ((pE c n 5 o (p + 1)).2.2.length : Int)) (s := lo (c (p))) (v := 0) hR (by omega) (by exact h29) (by omega)) ?_
        show zW _ _ _ _ _ _ _ _ _ _
        refine z_goto rfl ?_
        show zW _ _ _ _ [some (.ref 50), some (zi (lo (c (p))))] [] _ _ _ _
        have gl2 := gl ok
        have hl2 : lay (zU (zU (zU J2 62 (130 + (k + ((pE c n 5 o (p + 1)).2.2.length : Int))) (lo (c (p)))) 63 (130 + (k + ((pE c n 5 o (p + 1)).2.2.length : Int))) 0) 50 19 ((k + ((pE c n 5 o (p + 1)).2.2.length : Int)) + 1)) 62 63 (130 + k) (((pE c n 5 o (p + 1)).2.2 ++ [(c p, 0)]).map enc) := by
          rw [List.map_append]
          refine lay_app _ _ _ (lay_keep _ _ (130 + k + ((pE c n 5 o (p + 1)).2.2.length : Int)) hl (by rw [List.length_map]; omega) (fun j hj => ⟨?_, ?_⟩)) ?_
          · exact (zU_n (by decide)).trans ((zU_n (by decide)).trans (zU_x (by omega)))
          · exact (zU_n (by decide)).trans (zU_x (by omega))
          · show lay _ 62 63 _ [enc (c p, 0)]
            rw [enc_b (by omega)]
            refine ⟨⟨?_, ?_⟩, trivial⟩
            · exact ((zU_n (by decide)).trans ((zU_n (by decide)).trans (zU_ex (by rw [List.length_map]; omega)))).trans (show lo (c (p)) = c p by omega)
            · exact (zU_n (by decide)).trans (zU_ex (by rw [List.length_map]; omega))
        have e1 : k + ((pE c n 5 o (p + 1)).2.2.length : Int) + 1 = k + (((pE c n 5 o (p + 1)).2.2 ++ [(c p, 0)]).length : Int) := by rw [List.length_append, List.length_singleton]; omega
        have hz := ih2 (pE c n 5 o (p + 1)).2.1 (k + (((pE c n 5 o (p + 1)).2.2 ++ [(c p, 0)]).length : Int)) (some (zi (lo (c (p))))) (D + 6) (zU (zU (zU J2 62 (130 + (k + ((pE c n 5 o (p + 1)).2.2.length : Int))) (lo (c (p)))) 63 (130 + (k + ((pE c n 5 o (p + 1)).2.2.length : Int))) 0) 50 19 ((k + ((pE c n 5 o (p + 1)).2.2.length : Int)) + 1)) (zK_x (a := 50) (x := 19) (v := (k + ((pE c n 5 o (p + 1)).2.2.length : Int)) + 1) (zK_x (a := 63) (x := 130 + (k + ((pE c n 5 o (p + 1)).2.2.length : Int))) (v := 0) (zK_x (a := 62) (x := 130 + (k + ((pE c n 5 o (p + 1)).2.2.length : Int))) (v := lo (c (p))) hJ3 rfl) rfl) rfl) ((zU_x (by decide)).trans ((zU_n (by decide)).trans ((zU_n (by decide)).trans (h22)))) ((zU_x (by decide)).trans ((zU_n (by decide)).trans ((zU_n (by decide)).trans (h27)))) ((zU_x (by decide)).trans ((zU_n (by decide)).trans ((zU_n (by decide)).trans (h28)))) (zU_e.trans e1) (by omega) (by omega) (by omega) hD
        rw [pL_t hq ok, show (pE c n 5 o (p + 1)).2.2 ++ (c p, 0) :: (pL (pE c n 5 o) c 4 j (pE c n 5 o (p + 1)).2.1).2.2 = ((pE c n 5 o (p + 1)).2.2 ++ [(c p, 0)]) ++ (pL (pE c n 5 o) c 4 j (pE c n 5 o (p + 1)).2.1).2.2 by rw [List.append_assoc]; rfl]
        exact zW_m hz (fun r6 J6 M6 R6 h => rrc (p := (pE c n 5 o (p + 1)).2.1) (by rw [List.length_append, List.length_singleton]; omega) ((zK_x (a := 50) (x := 19) (v := (k + ((pE c n 5 o (p + 1)).2.2.length : Int)) + 1) (zK_x (a := 63) (x := 130 + (k + ((pE c n 5 o (p + 1)).2.2.length : Int))) (v := 0) (zK_x (a := 62) (x := 130 + (k + ((pE c n 5 o (p + 1)).2.2.length : Int))) (v := lo (c (p))) hJ2 rfl) rfl) rfl)) (fun j hj => ⟨(zU_n (by decide)).trans ((zU_n (by decide)).trans ((zU_x (by omega)).trans ((hke2 j hj).1))), (zU_n (by decide)).trans ((zU_x (by omega)).trans ((zU_n (by decide)).trans ((hke2 j hj).2)))⟩) hl2 h)
      · show zW _ _ _ _ _ _ _ _ _ _
        refine z_aload rfl rfl ?_
        refine z_iload rfl rfl ?_
        refine z_pushI (z := 0) rfl rfl ?_
        refine z_callVx (As := [_, _]) rfl rfl rfl (Nat.le_of_ble_eq_true rfl) (Nat.le_of_ble_eq_true rfl) (addStep_k (k := J2 50 19) (s := lo (c (p))) (v := 0) hR (by omega) (by exact rfl) (by omega)) ?_
        show zW _ _ _ _ _ _ _ _ _ _
        refine z_goto rfl ?_
        show zW _ _ _ _ [some (.ref 50), some (zi (lo (c (p))))] [] _ _ _ _
        refine z_aload rfl rfl ?_
        refine z_getI (v := (pE c n 5 o (p + 1)).2.1) rfl rfl ((zU_x (by decide)).trans ((zU_n (by decide)).trans ((zU_n (by decide)).trans (h27)))) ?_
        refine z_if_geT rfl (by omega) (by omega) ?_
        refine z_vret rfl rfl ?_
        rw [pL_f hq ok]
        refine ⟨⟨rfl, (zK_x (a := 50) (x := 19) (v := (J2 50 19) + 1) (zK_x (a := 63) (x := 130 + (J2 50 19)) (v := 0) (zK_x (a := 62) (x := 130 + (J2 50 19)) (v := lo (c (p))) hJ2 rfl) rfl) rfl), (zU_x (by decide)).trans ((zU_n (by decide)).trans ((zU_n (by decide)).trans (h22))), fun j hj => ⟨(zU_n (by decide)).trans ((zU_n (by decide)).trans ((zU_x (by omega)).trans ((hke2 j hj).1))), (zU_n (by decide)).trans ((zU_x (by omega)).trans ((zU_n (by decide)).trans ((hke2 j hj).2)))⟩, rfl, rfl⟩, Or.inr ⟨ok, (zU_x (by decide)).trans ((zU_n (by decide)).trans ((zU_n (by decide)).trans (h27))), ?_⟩⟩
        rw [zU_e]
        omega
    · refine z_aload rfl rfl ?_
      refine z_callVP (As := []) (v := lo (c (p))) rfl rfl rfl (Nat.le_of_ble_eq_true rfl) (Nat.le_of_ble_eq_true rfl) (look_k hR hf hc ht hJ (by exact hat) (by omega)) ?_
      have q6 := tp_r ht (p) (by omega)
      have q7 := lo_r (c (p))
      refine z_pushI (z := 47) rfl rfl ?_
      refine z_icmp_eq rfl (by omega) (by decide) (fun h8 => ?_) (fun h8 => ?_)
      · refine z_aload rfl rfl ?_
        refine z_callVP (As := []) (v := lo (c (p))) rfl rfl rfl (Nat.le_of_ble_eq_true rfl) (Nat.le_of_ble_eq_true rfl) (look_k hR hf hc ht hJ (by exact hat) (by omega)) ?_
        have q9 := tp_r ht (p) (by omega)
        have q10 := lo_r (c (p))
        refine z_istore rfl rfl ?_
        refine z_aload rfl rfl ?_
        refine z_dup rfl rfl ?_
        refine z_getI (v := p) rfl rfl (hat) ?_
        refine z_pushI (z := 1) rfl rfl ?_
        refine z_iadd (e := p + 1) rfl rfl ?_
        refine z_putI (y := 16) rfl rfl rfl ?_
        refine z_aload rfl rfl ?_
        have hq : rk (c p) = 4 := by unfold rk; (repeat' split) <;> omega
        have ha2 := tp_lt ht (rk_n (s := c p) (by omega)).1
        have rb := rk_b (s := c p) (by omega)
        have gx := (pE_g ht n 5 o (p + 1) (by omega) (by omega)).1
        have gl : (pE c n 5 o (p + 1)).1 = true → (p + 1 < (pE c n 5 o (p + 1)).2.1 ∧ ((pE c n 5 o (p + 1)).2.2.length : Int) ≤ (pE c n 5 o (p + 1)).2.1 - (p + 1)) := fun t => ⟨((pE_g ht n 5 o (p + 1) (by omega) (by omega)).2 t).1.1, ((pE_g ht n 5 o (p + 1) (by omega) (by omega)).2 t).1.2.1⟩
        refine z_callV (As := []) _ rfl rfl rfl (Nat.le_of_ble_eq_true rfl) (Nat.le_of_ble_eq_true rfl) (ih o (p + 1) k _ _ (by omega) (zK_x (a := 50) (x := 16) (v := p + 1) hJ rfl) (by exact zU_e) (by exact (zU_x (by decide)).trans (hfa)) (by exact (zU_x (by decide)).trans (hop)) (by exact (zU_x (by decide)).trans (hkk)) (by omega) (by omega) (by omega)) (fun r J2 M2 R2 hr => ?_)
        obtain ⟨⟨rfl, hk2, h22, hke, eM, eR⟩, hr⟩ := hr
        obtain rfl : M = M2 := eM.symm
        obtain rfl : R = R2 := eR.symm
        have hJ2 : zK (kL [62, 63] [(50, 16), (50, 17), (50, 18), (50, 19)]) J J2 := zK_t (zK_x (a := 50) (x := 16) (v := p + 1) zK_r rfl) hk2
        have hJ3 : zK (kL [62, 63] [(50, 16), (50, 17), (50, 18), (50, 19)]) A J2 := zK_t hJ hJ2
        have hb0 : ∀ j, j < 130 + (k) → (zU J 50 16 (p + 1)) 62 j = J 62 j ∧ (zU J 50 16 (p + 1)) 63 j = J 63 j := fun j hj => ⟨(zU_n (by decide)).trans (rfl), (zU_n (by decide)).trans (rfl)⟩
        have hke2 : ∀ j, j < 130 + (k) → J2 62 j = J 62 j ∧ J2 63 j = J 63 j := fun j hj => ⟨(hke j hj).1.trans (hb0 j hj).1, (hke j hj).2.trans (hb0 j hj).2⟩
        rcases hr with ⟨ok, h27, h28, h29, hl⟩ | ⟨ok, h27, h29⟩
        · show zW _ _ _ _ _ _ _ _ _ _
          have gl2 := gl ok
          refine z_aload rfl rfl ?_
          refine z_iload rfl rfl ?_
          refine z_pushI (z := 0) rfl rfl ?_
          refine z_callVx (As := [_, _]) rfl rfl rfl (Nat.le_of_ble_eq_true rfl) (Nat.le_of_ble_eq_true rfl) (addStep_k (k := k + ((pE c n 5 o (p + 1)).2.2.length : Int)) (s := lo (c (p))) (v := 0) hR (by omega) (by exact h29) (by omega)) ?_
          show zW _ _ _ _ _ _ _ _ _ _
          refine z_goto rfl ?_
          show zW _ _ _ _ [some (.ref 50), some (zi (lo (c (p))))] [] _ _ _ _
          have gl2 := gl ok
          have hl2 : lay (zU (zU (zU J2 62 (130 + (k + ((pE c n 5 o (p + 1)).2.2.length : Int))) (lo (c (p)))) 63 (130 + (k + ((pE c n 5 o (p + 1)).2.2.length : Int))) 0) 50 19 ((k + ((pE c n 5 o (p + 1)).2.2.length : Int)) + 1)) 62 63 (130 + k) (((pE c n 5 o (p + 1)).2.2 ++ [(c p, 0)]).map enc) := by
            rw [List.map_append]
            refine lay_app _ _ _ (lay_keep _ _ (130 + k + ((pE c n 5 o (p + 1)).2.2.length : Int)) hl (by rw [List.length_map]; omega) (fun j hj => ⟨?_, ?_⟩)) ?_
            · exact (zU_n (by decide)).trans ((zU_n (by decide)).trans (zU_x (by omega)))
            · exact (zU_n (by decide)).trans (zU_x (by omega))
            · show lay _ 62 63 _ [enc (c p, 0)]
              rw [enc_b (by omega)]
              refine ⟨⟨?_, ?_⟩, trivial⟩
              · exact ((zU_n (by decide)).trans ((zU_n (by decide)).trans (zU_ex (by rw [List.length_map]; omega)))).trans (show lo (c (p)) = c p by omega)
              · exact (zU_n (by decide)).trans (zU_ex (by rw [List.length_map]; omega))
          have e1 : k + ((pE c n 5 o (p + 1)).2.2.length : Int) + 1 = k + (((pE c n 5 o (p + 1)).2.2 ++ [(c p, 0)]).length : Int) := by rw [List.length_append, List.length_singleton]; omega
          have hz := ih2 (pE c n 5 o (p + 1)).2.1 (k + (((pE c n 5 o (p + 1)).2.2 ++ [(c p, 0)]).length : Int)) (some (zi (lo (c (p))))) (D + 6) (zU (zU (zU J2 62 (130 + (k + ((pE c n 5 o (p + 1)).2.2.length : Int))) (lo (c (p)))) 63 (130 + (k + ((pE c n 5 o (p + 1)).2.2.length : Int))) 0) 50 19 ((k + ((pE c n 5 o (p + 1)).2.2.length : Int)) + 1)) (zK_x (a := 50) (x := 19) (v := (k + ((pE c n 5 o (p + 1)).2.2.length : Int)) + 1) (zK_x (a := 63) (x := 130 + (k + ((pE c n 5 o (p + 1)).2.2.length : Int))) (v := 0) (zK_x (a := 62) (x := 130 + (k + ((pE c n 5 o (p + 1)).2.2.length : Int))) (v := lo (c (p))) hJ3 rfl) rfl) rfl) ((zU_x (by decide)).trans ((zU_n (by decide)).trans ((zU_n (by decide)).trans (h22)))) ((zU_x (by decide)).trans ((zU_n (by decide)).trans ((zU_n (by decide)).trans (h27)))) ((zU_x (by decide)).trans ((zU_n (by decide)).trans ((zU_n (by decide)).trans (h28)))) (zU_e.trans e1) (by omega) (by omega) (by omega) hD
          rw [pL_t hq ok, show (pE c n 5 o (p + 1)).2.2 ++ (c p, 0) :: (pL (pE c n 5 o) c 4 j (pE c n 5 o (p + 1)).2.1).2.2 = ((pE c n 5 o (p + 1)).2.2 ++ [(c p, 0)]) ++ (pL (pE c n 5 o) c 4 j (pE c n 5 o (p + 1)).2.1).2.2 by rw [List.append_assoc]; rfl]
          exact zW_m hz (fun r6 J6 M6 R6 h => rrc (p := (pE c n 5 o (p + 1)).2.1) (by rw [List.length_append, List.length_singleton]; omega) ((zK_x (a := 50) (x := 19) (v := (k + ((pE c n 5 o (p + 1)).2.2.length : Int)) + 1) (zK_x (a := 63) (x := 130 + (k + ((pE c n 5 o (p + 1)).2.2.length : Int))) (v := 0) (zK_x (a := 62) (x := 130 + (k + ((pE c n 5 o (p + 1)).2.2.length : Int))) (v := lo (c (p))) hJ2 rfl) rfl) rfl)) (fun j hj => ⟨(zU_n (by decide)).trans ((zU_n (by decide)).trans ((zU_x (by omega)).trans ((hke2 j hj).1))), (zU_n (by decide)).trans ((zU_x (by omega)).trans ((zU_n (by decide)).trans ((hke2 j hj).2)))⟩) hl2 h)
        · show zW _ _ _ _ _ _ _ _ _ _
          refine z_aload rfl rfl ?_
          refine z_iload rfl rfl ?_
          refine z_pushI (z := 0) rfl rfl ?_
          refine z_callVx (As := [_, _]) rfl rfl rfl (Nat.le_of_ble_eq_true rfl) (Nat.le_of_ble_eq_true rfl) (addStep_k (k := J2 50 19) (s := lo (c (p))) (v := 0) hR (by omega) (by exact rfl) (by omega)) ?_
          show zW _ _ _ _ _ _ _ _ _ _
          refine z_goto rfl ?_
          show zW _ _ _ _ [some (.ref 50), some (zi (lo (c (p))))] [] _ _ _ _
          refine z_aload rfl rfl ?_
          refine z_getI (v := (pE c n 5 o (p + 1)).2.1) rfl rfl ((zU_x (by decide)).trans ((zU_n (by decide)).trans ((zU_n (by decide)).trans (h27)))) ?_
          refine z_if_geT rfl (by omega) (by omega) ?_
          refine z_vret rfl rfl ?_
          rw [pL_f hq ok]
          refine ⟨⟨rfl, (zK_x (a := 50) (x := 19) (v := (J2 50 19) + 1) (zK_x (a := 63) (x := 130 + (J2 50 19)) (v := 0) (zK_x (a := 62) (x := 130 + (J2 50 19)) (v := lo (c (p))) hJ2 rfl) rfl) rfl), (zU_x (by decide)).trans ((zU_n (by decide)).trans ((zU_n (by decide)).trans (h22))), fun j hj => ⟨(zU_n (by decide)).trans ((zU_n (by decide)).trans ((zU_x (by omega)).trans ((hke2 j hj).1))), (zU_n (by decide)).trans ((zU_x (by omega)).trans ((zU_n (by decide)).trans ((hke2 j hj).2)))⟩, rfl, rfl⟩, Or.inr ⟨ok, (zU_x (by decide)).trans ((zU_n (by decide)).trans ((zU_n (by decide)).trans (h27))), ?_⟩⟩
          rw [zU_e]
          omega
      · refine z_aload rfl rfl ?_
        refine z_callVP (As := []) (v := lo (c (p))) rfl rfl rfl (Nat.le_of_ble_eq_true rfl) (Nat.le_of_ble_eq_true rfl) (look_k hR hf hc ht hJ (by exact hat) (by omega)) ?_
        have q11 := tp_r ht (p) (by omega)
        have q12 := lo_r (c (p))
        refine z_pushI (z := 37) rfl rfl ?_
        refine z_icmp_ne rfl (by omega) (by decide) (fun h13 => ?_) (fun h13 => ?_)
        · refine z_vret rfl rfl ?_
          rw [pL_n (show ¬ rk (c p) = 4 by unfold rk; (repeat' split) <;> omega)]
          exact ⟨⟨rfl, zK_r, hat, fun j _ => ⟨rfl, rfl⟩, rfl, rfl⟩, Or.inl ⟨rfl, hfa, hop, hkk.trans (by show k = k + ((0 : Nat) : Int); omega), trivial⟩⟩
        · refine z_aload rfl rfl ?_
          refine z_callVP (As := []) (v := lo (c (p))) rfl rfl rfl (Nat.le_of_ble_eq_true rfl) (Nat.le_of_ble_eq_true rfl) (look_k hR hf hc ht hJ (by exact hat) (by omega)) ?_
          have q14 := tp_r ht (p) (by omega)
          have q15 := lo_r (c (p))
          refine z_istore rfl rfl ?_
          refine z_aload rfl rfl ?_
          refine z_dup rfl rfl ?_
          refine z_getI (v := p) rfl rfl (hat) ?_
          refine z_pushI (z := 1) rfl rfl ?_
          refine z_iadd (e := p + 1) rfl rfl ?_
          refine z_putI (y := 16) rfl rfl rfl ?_
          refine z_aload rfl rfl ?_
          have hq : rk (c p) = 4 := by unfold rk; (repeat' split) <;> omega
          have ha2 := tp_lt ht (rk_n (s := c p) (by omega)).1
          have rb := rk_b (s := c p) (by omega)
          have gx := (pE_g ht n 5 o (p + 1) (by omega) (by omega)).1
          have gl : (pE c n 5 o (p + 1)).1 = true → (p + 1 < (pE c n 5 o (p + 1)).2.1 ∧ ((pE c n 5 o (p + 1)).2.2.length : Int) ≤ (pE c n 5 o (p + 1)).2.1 - (p + 1)) := fun t => ⟨((pE_g ht n 5 o (p + 1) (by omega) (by omega)).2 t).1.1, ((pE_g ht n 5 o (p + 1) (by omega) (by omega)).2 t).1.2.1⟩
          refine z_callV (As := []) _ rfl rfl rfl (Nat.le_of_ble_eq_true rfl) (Nat.le_of_ble_eq_true rfl) (ih o (p + 1) k _ _ (by omega) (zK_x (a := 50) (x := 16) (v := p + 1) hJ rfl) (by exact zU_e) (by exact (zU_x (by decide)).trans (hfa)) (by exact (zU_x (by decide)).trans (hop)) (by exact (zU_x (by decide)).trans (hkk)) (by omega) (by omega) (by omega)) (fun r J2 M2 R2 hr => ?_)
          obtain ⟨⟨rfl, hk2, h22, hke, eM, eR⟩, hr⟩ := hr
          obtain rfl : M = M2 := eM.symm
          obtain rfl : R = R2 := eR.symm
          have hJ2 : zK (kL [62, 63] [(50, 16), (50, 17), (50, 18), (50, 19)]) J J2 := zK_t (zK_x (a := 50) (x := 16) (v := p + 1) zK_r rfl) hk2
          have hJ3 : zK (kL [62, 63] [(50, 16), (50, 17), (50, 18), (50, 19)]) A J2 := zK_t hJ hJ2
          have hb0 : ∀ j, j < 130 + (k) → (zU J 50 16 (p + 1)) 62 j = J 62 j ∧ (zU J 50 16 (p + 1)) 63 j = J 63 j := fun j hj => ⟨(zU_n (by decide)).trans (rfl), (zU_n (by decide)).trans (rfl)⟩
          have hke2 : ∀ j, j < 130 + (k) → J2 62 j = J 62 j ∧ J2 63 j = J 63 j := fun j hj => ⟨(hke j hj).1.trans (hb0 j hj).1, (hke j hj).2.trans (hb0 j hj).2⟩
          rcases hr with ⟨ok, h27, h28, h29, hl⟩ | ⟨ok, h27, h29⟩
          · show zW _ _ _ _ _ _ _ _ _ _
            have gl2 := gl ok
            refine z_aload rfl rfl ?_
            refine z_iload rfl rfl ?_
            refine z_pushI (z := 0) rfl rfl ?_
            refine z_callVx (As := [_, _]) rfl rfl rfl (Nat.le_of_ble_eq_true rfl) (Nat.le_of_ble_eq_true rfl) (addStep_k (k := k + ((pE c n 5 o (p + 1)).2.2.length : Int)) (s := lo (c (p))) (v := 0) hR (by omega) (by exact h29) (by omega)) ?_
            show zW _ _ _ _ _ _ _ _ _ _
            refine z_goto rfl ?_
            show zW _ _ _ _ [some (.ref 50), some (zi (lo (c (p))))] [] _ _ _ _
            have gl2 := gl ok
            have hl2 : lay (zU (zU (zU J2 62 (130 + (k + ((pE c n 5 o (p + 1)).2.2.length : Int))) (lo (c (p)))) 63 (130 + (k + ((pE c n 5 o (p + 1)).2.2.length : Int))) 0) 50 19 ((k + ((pE c n 5 o (p + 1)).2.2.length : Int)) + 1)) 62 63 (130 + k) (((pE c n 5 o (p + 1)).2.2 ++ [(c p, 0)]).map enc) := by
              rw [List.map_append]
              refine lay_app _ _ _ (lay_keep _ _ (130 + k + ((pE c n 5 o (p + 1)).2.2.length : Int)) hl (by rw [List.length_map]; omega) (fun j hj => ⟨?_, ?_⟩)) ?_
              · exact (zU_n (by decide)).trans ((zU_n (by decide)).trans (zU_x (by omega)))
              · exact (zU_n (by decide)).trans (zU_x (by omega))
              · show lay _ 62 63 _ [enc (c p, 0)]
                rw [enc_b (by omega)]
                refine ⟨⟨?_, ?_⟩, trivial⟩
                · exact ((zU_n (by decide)).trans ((zU_n (by decide)).trans (zU_ex (by rw [List.length_map]; omega)))).trans (show lo (c (p)) = c p by omega)
                · exact (zU_n (by decide)).trans (zU_ex (by rw [List.length_map]; omega))
            have e1 : k + ((pE c n 5 o (p + 1)).2.2.length : Int) + 1 = k + (((pE c n 5 o (p + 1)).2.2 ++ [(c p, 0)]).length : Int) := by rw [List.length_append, List.length_singleton]; omega
            have hz := ih2 (pE c n 5 o (p + 1)).2.1 (k + (((pE c n 5 o (p + 1)).2.2 ++ [(c p, 0)]).length : Int)) (some (zi (lo (c (p))))) (D + 6) (zU (zU (zU J2 62 (130 + (k + ((pE c n 5 o (p + 1)).2.2.length : Int))) (lo (c (p)))) 63 (130 + (k + ((pE c n 5 o (p + 1)).2.2.length : Int))) 0) 50 19 ((k + ((pE c n 5 o (p + 1)).2.2.length : Int)) + 1)) (zK_x (a := 50) (x := 19) (v := (k + ((pE c n 5 o (p + 1)).2.2.length : Int)) + 1) (zK_x (a := 63) (x := 130 + (k + ((pE c n 5 o (p + 1)).2.2.length : Int))) (v := 0) (zK_x (a := 62) (x := 130 + (k + ((pE c n 5 o (p + 1)).2.2.length : Int))) (v := lo (c (p))) hJ3 rfl) rfl) rfl) ((zU_x (by decide)).trans ((zU_n (by decide)).trans ((zU_n (by decide)).trans (h22)))) ((zU_x (by decide)).trans ((zU_n (by decide)).trans ((zU_n (by decide)).trans (h27)))) ((zU_x (by decide)).trans ((zU_n (by decide)).trans ((zU_n (by decide)).trans (h28)))) (zU_e.trans e1) (by omega) (by omega) (by omega) hD
            rw [pL_t hq ok, show (pE c n 5 o (p + 1)).2.2 ++ (c p, 0) :: (pL (pE c n 5 o) c 4 j (pE c n 5 o (p + 1)).2.1).2.2 = ((pE c n 5 o (p + 1)).2.2 ++ [(c p, 0)]) ++ (pL (pE c n 5 o) c 4 j (pE c n 5 o (p + 1)).2.1).2.2 by rw [List.append_assoc]; rfl]
            exact zW_m hz (fun r6 J6 M6 R6 h => rrc (p := (pE c n 5 o (p + 1)).2.1) (by rw [List.length_append, List.length_singleton]; omega) ((zK_x (a := 50) (x := 19) (v := (k + ((pE c n 5 o (p + 1)).2.2.length : Int)) + 1) (zK_x (a := 63) (x := 130 + (k + ((pE c n 5 o (p + 1)).2.2.length : Int))) (v := 0) (zK_x (a := 62) (x := 130 + (k + ((pE c n 5 o (p + 1)).2.2.length : Int))) (v := lo (c (p))) hJ2 rfl) rfl) rfl)) (fun j hj => ⟨(zU_n (by decide)).trans ((zU_n (by decide)).trans ((zU_x (by omega)).trans ((hke2 j hj).1))), (zU_n (by decide)).trans ((zU_x (by omega)).trans ((zU_n (by decide)).trans ((hke2 j hj).2)))⟩) hl2 h)
          · show zW _ _ _ _ _ _ _ _ _ _
            refine z_aload rfl rfl ?_
            refine z_iload rfl rfl ?_
            refine z_pushI (z := 0) rfl rfl ?_
            refine z_callVx (As := [_, _]) rfl rfl rfl (Nat.le_of_ble_eq_true rfl) (Nat.le_of_ble_eq_true rfl) (addStep_k (k := J2 50 19) (s := lo (c (p))) (v := 0) hR (by omega) (by exact rfl) (by omega)) ?_
            show zW _ _ _ _ _ _ _ _ _ _
            refine z_goto rfl ?_
            show zW _ _ _ _ [some (.ref 50), some (zi (lo (c (p))))] [] _ _ _ _
            refine z_aload rfl rfl ?_
            refine z_getI (v := (pE c n 5 o (p + 1)).2.1) rfl rfl ((zU_x (by decide)).trans ((zU_n (by decide)).trans ((zU_n (by decide)).trans (h27)))) ?_
            refine z_if_geT rfl (by omega) (by omega) ?_
            refine z_vret rfl rfl ?_
            rw [pL_f hq ok]
            refine ⟨⟨rfl, (zK_x (a := 50) (x := 19) (v := (J2 50 19) + 1) (zK_x (a := 63) (x := 130 + (J2 50 19)) (v := 0) (zK_x (a := 62) (x := 130 + (J2 50 19)) (v := lo (c (p))) hJ2 rfl) rfl) rfl), (zU_x (by decide)).trans ((zU_n (by decide)).trans ((zU_n (by decide)).trans (h22))), fun j hj => ⟨(zU_n (by decide)).trans ((zU_n (by decide)).trans ((zU_x (by omega)).trans ((hke2 j hj).1))), (zU_n (by decide)).trans ((zU_x (by omega)).trans ((zU_n (by decide)).trans ((hke2 j hj).2)))⟩, rfl, rfl⟩, Or.inr ⟨ok, (zU_x (by decide)).trans ((zU_n (by decide)).trans ((zU_n (by decide)).trans (h27))), ?_⟩⟩
            rw [zU_e]
            omega
theorem rch4 {X : Nat × (Nat → Int32)} {M : zA} {R : zR} (hR : zRoR R) {A : zA} {c : Int → Int} {f : Int} (hf : A 50 15 = f) (hc : ∀ i, 0 ≤ i → i < f → A 61 i = zb (c i)) (ht : tp c f) {n : Nat} (ih : (∀ (o a k : Int) (D : Nat) (J : zA), pK n 5 o → zK (kL [62, 63] [(50, 16), (50, 17), (50, 18), (50, 19)]) A J → J 50 16 = a → J 50 17 = -1 → J 50 18 = o → J 50 19 = k → (0 ≤ a ∧ a ≤ f) → (0 ≤ k ∧ k ≤ a) → n + 8 ≤ D → zW X D 171 0 (gEn 171 [.ref 50]) [] J M R (rr c k o a (pE c n 5 o a) J M R))) : (∀ (o a k : Int) (D : Nat) (J : zA), pK (n + 1) 4 o → zK (kL [62, 63] [(50, 16), (50, 17), (50, 18), (50, 19)]) A J → J 50 16 = a → J 50 17 = -1 → J 50 18 = o → J 50 19 = k → (0 ≤ a ∧ a ≤ f) → (0 ≤ k ∧ k ≤ a) → (n + 1) + 8 ≤ D → zW X D 172 0 (gEn 172 [.ref 50]) [] J M R (rr c k o a (pE c (n + 1) 4 o a) J M R)) := by
  intro o a k D J hk hJ hat hfa hop hkk ha hk0 hD
  obtain ⟨D, rfl⟩ : ∃ e, D = e + 6 := ⟨D - 6, by omega⟩
  have tf := ht.1
  show zW _ _ _ _ [some (.ref 50), none] _ _ _ _ _
  refine z_aload rfl rfl ?_
  have gx := (pE_g ht n 5 o a (by omega) ha).1
  have gl : (pE c n 5 o a).1 = true → (a < (pE c n 5 o a).2.1 ∧ ((pE c n 5 o a).2.2.length : Int) ≤ (pE c n 5 o a).2.1 - a) := fun t => ⟨((pE_g ht n 5 o a (by omega) ha).2 t).1.1, ((pE_g ht n 5 o a (by omega) ha).2 t).1.2.1⟩
  refine z_callV (As := []) _ rfl rfl rfl (Nat.le_of_ble_eq_true rfl) (Nat.le_of_ble_eq_true rfl) (ih o a k _ _ (by omega) hJ hat hfa hop hkk ha hk0 (by omega)) (fun r J2 M2 R2 hr => ?_)
  obtain ⟨⟨rfl, hk2, h22, hke, eM, eR⟩, hr⟩ := hr
  obtain rfl : M = M2 := eM.symm
  obtain rfl : R = R2 := eR.symm
  have hJ2 : zK (kL [62, 63] [(50, 16), (50, 17), (50, 18), (50, 19)]) J J2 := zK_t zK_r hk2
  have hJ3 : zK (kL [62, 63] [(50, 16), (50, 17), (50, 18), (50, 19)]) A J2 := zK_t hJ hJ2
  have hb0 : ∀ j, j < 130 + (k) → J 62 j = J 62 j ∧ J 63 j = J 63 j := fun j hj => ⟨rfl, rfl⟩
  have hke2 : ∀ j, j < 130 + (k) → J2 62 j = J 62 j ∧ J2 63 j = J 63 j := fun j hj => ⟨(hke j hj).1.trans (hb0 j hj).1, (hke j hj).2.trans (hb0 j hj).2⟩
  rcases hr with ⟨ok, h27, h28, h29, hl⟩ | ⟨ok, h27, h29⟩
  · show zW _ _ _ _ _ _ _ _ _ _
    have gl2 := gl ok
    show zW _ _ _ _ [some (.ref 50), none] [] _ _ _ _
    rw [pE_t (by decide) ok]
    have gl2 := gl ok
    have hz := rlp4 (X := X) (M := M) hR hf hc ht ih hk (pM 4) (pE c n 5 o a).2.1 (k + ((pE c n 5 o a).2.2.length : Int)) none (D + 6) J2 hJ3 h22 h27 h28 h29 (by omega) (by omega) (by show 120 ≤ (pE c n 5 o a).2.1 + ((120 : Nat) : Int); omega) hD
    exact zW_m hz (fun r6 J6 M6 R6 h => rrc (l := (pE c n 5 o a).2.2) (p := (pE c n 5 o a).2.1) (show ((pE c n 5 o a).2.2.length : Int) ≤ (pE c n 5 o a).2.1 - a by omega) hJ2 hke2 hl h)
  · show zW _ _ _ _ _ _ _ _ _ _
    refine z_aload rfl rfl ?_
    refine z_getI (v := (pE c n 5 o a).2.1) rfl rfl (h27) ?_
    refine z_if_geT rfl (by omega) (by omega) ?_
    refine z_vret rfl rfl ?_
    rw [pE_f (by decide) ok]
    exact ⟨⟨rfl, hJ2, h22, hke2, rfl, rfl⟩, Or.inr ⟨ok, h27, h29⟩⟩
theorem rlp3 {X : Nat × (Nat → Int32)} {M : zA} {R : zR} (hR : zRoR R) {A : zA} {c : Int → Int} {f : Int} (hf : A 50 15 = f) (hc : ∀ i, 0 ≤ i → i < f → A 61 i = zb (c i)) (ht : tp c f) {n : Nat} (ih : (∀ (o a k : Int) (D : Nat) (J : zA), pK n 4 o → zK (kL [62, 63] [(50, 16), (50, 17), (50, 18), (50, 19)]) A J → J 50 16 = a → J 50 17 = -1 → J 50 18 = o → J 50 19 = k → (0 ≤ a ∧ a ≤ f) → (0 ≤ k ∧ k ≤ a) → n + 8 ≤ D → zW X D 172 0 (gEn 172 [.ref 50]) [] J M R (rr c k o a (pE c n 4 o a) J M R))) {o : Int} (hkr : pK (n + 1) 3 o) : ∀ (m : Nat) (p k : Int) (e1 : Option Value) (D : Nat) (J : zA), zK (kL [62, 63] [(50, 16), (50, 17), (50, 18), (50, 19)]) A J → J 50 16 = p → J 50 17 = -1 → J 50 18 = o → J 50 19 = k → (0 ≤ p ∧ p ≤ f) → (0 ≤ k ∧ k ≤ p) → 120 ≤ p + m → n + 9 ≤ D → zW X D 173 4 [some (.ref 50), e1] [] J M R (rr c k o p (pL (pE c n 4 o) c 3 m p) J M R) := by
  intro m
  induction m with
  | zero =>
    intro p k e1 D J hJ hat hfa hop hkk hp hk0 hpm hD
    obtain ⟨D, rfl⟩ : ∃ e, D = e + 6 := ⟨D - 6, by omega⟩
    have tf := ht.1
    have cp := ht.2.2 p (by omega)
    have lp : lo (c (p)) = -1 := by rw [cp]; rfl
    show zW _ _ _ _ [some (.ref 50), e1] _ _ _ _ _
    refine z_aload rfl rfl ?_
    refine z_getI (v := (-1)) rfl rfl (hfa) ?_
    refine z_if_geF rfl (by decide) (by decide) ?_
    refine z_aload rfl rfl ?_
    refine z_callVP (As := []) (v := lo (c (p))) rfl rfl rfl (Nat.le_of_ble_eq_true rfl) (Nat.le_of_ble_eq_true rfl) (look_k hR hf hc ht hJ hat (by omega)) ?_
    refine z_pushI (z := 43) rfl rfl ?_
    refine z_icmp_eqF rfl (by omega) (by decide) (by omega) ?_
    refine z_aload rfl rfl ?_
    refine z_callVP (As := []) (v := lo (c (p))) rfl rfl rfl (Nat.le_of_ble_eq_true rfl) (Nat.le_of_ble_eq_true rfl) (look_k hR hf hc ht hJ hat (by omega)) ?_
    refine z_pushI (z := 45) rfl rfl ?_
    refine z_icmp_neT rfl (by omega) (by decide) (by omega) ?_
    refine z_vret rfl rfl ?_
    exact ⟨⟨rfl, zK_r, hat, fun j _ => ⟨rfl, rfl⟩, rfl, rfl⟩, Or.inl ⟨rfl, hfa, hop, hkk.trans (by show k = k + ((0 : Nat) : Int); omega), trivial⟩⟩
  | succ j ih2 =>
    intro p k e1 D J hJ hat hfa hop hkk hp hk0 hpm hD
    obtain ⟨D, rfl⟩ : ∃ e, D = e + 6 := ⟨D - 6, by omega⟩
    have tf := ht.1
    show zW _ _ _ _ [some (.ref 50), e1] _ _ _ _ _
    refine z_aload rfl rfl ?_
    refine z_getI (v := (-1)) rfl rfl (hfa) ?_
    refine z_if_geF rfl (by decide) (by decide) ?_
    refine z_aload rfl rfl ?_
    refine z_callVP (As := []) (v := lo (c (p))) rfl rfl rfl (Nat.le_of_ble_eq_true rfl) (Nat.le_of_ble_eq_true rfl) (look_k hR hf hc ht hJ (by exact hat) (by omega)) ?_
    have q1 := tp_r ht (p) (by omega)
    have q2 := lo_r (c (p))
    refine z_pushI (z := 43) rfl rfl ?_
    refine z_icmp_eq rfl (by omega) (by decide) (fun h3 => ?_) (fun h3 => ?_)
    · refine z_aload rfl rfl ?_
      refine z_callVP (As := []) (v := lo (c (p))) rfl rfl rfl (Nat.le_of_ble_eq_true rfl) (Nat.le_of_ble_eq_true rfl) (look_k hR hf hc ht hJ (by exact hat) (by omega)) ?_
      have q4 := tp_r ht (p) (by omega)
      have q5 := lo_r (c (p))
      refine z_istore rfl rfl ?_
      refine z_aload rfl rfl ?_
      refine z_dup rfl rfl ?_
      refine z_getI (v := p) rfl rfl (hat) ?_
      refine z_pushI (z := 1) rfl rfl ?_
      refine z_iadd (e := p + 1) rfl rfl ?_
      refine z_putI (y := 16) rfl rfl rfl ?_
      refine z_aload rfl rfl ?_
      have hq : rk (c p) = 3 := by unfold rk; (repeat' split) <;> omega
      have ha2 := tp_lt ht (rk_n (s := c p) (by omega)).1
      have rb := rk_b (s := c p) (by omega)
      have gx := (pE_g ht n 4 o (p + 1) (by omega) (by omega)).1
      have gl : (pE c n 4 o (p + 1)).1 = true → (p + 1 < (pE c n 4 o (p + 1)).2.1 ∧ ((pE c n 4 o (p + 1)).2.2.length : Int) ≤ (pE c n 4 o (p + 1)).2.1 - (p + 1)) := fun t => ⟨((pE_g ht n 4 o (p + 1) (by omega) (by omega)).2 t).1.1, ((pE_g ht n 4 o (p + 1) (by omega) (by omega)).2 t).1.2.1⟩
      refine z_callV (As := []) _ rfl rfl rfl (Nat.le_of_ble_eq_true rfl) (Nat.le_of_ble_eq_true rfl) (ih o (p + 1) k _ _ (by omega) (zK_x (a := 50) (x := 16) (v := p + 1) hJ rfl) (by exact zU_e) (by exact (zU_x (by decide)).trans (hfa)) (by exact (zU_x (by decide)).trans (hop)) (by exact (zU_x (by decide)).trans (hkk)) (by omega) (by omega) (by omega)) (fun r J2 M2 R2 hr => ?_)
      obtain ⟨⟨rfl, hk2, h22, hke, eM, eR⟩, hr⟩ := hr
      obtain rfl : M = M2 := eM.symm
      obtain rfl : R = R2 := eR.symm
      have hJ2 : zK (kL [62, 63] [(50, 16), (50, 17), (50, 18), (50, 19)]) J J2 := zK_t (zK_x (a := 50) (x := 16) (v := p + 1) zK_r rfl) hk2
      have hJ3 : zK (kL [62, 63] [(50, 16), (50, 17), (50, 18), (50, 19)]) A J2 := zK_t hJ hJ2
      have hb0 : ∀ j, j < 130 + (k) → (zU J 50 16 (p + 1)) 62 j = J 62 j ∧ (zU J 50 16 (p + 1)) 63 j = J 63 j := fun j hj => ⟨(zU_n (by decide)).trans (rfl), (zU_n (by decide)).trans (rfl)⟩
      have hke2 : ∀ j, j < 130 + (k) → J2 62 j = J 62 j ∧ J2 63 j = J 63 j := fun j hj => ⟨(hke j hj).1.trans (hb0 j hj).1, (hke j hj).2.trans (hb0 j hj).2⟩
      rcases hr with ⟨ok, h27, h28, h29, hl⟩ | ⟨ok, h27, h29⟩
      · show zW _ _ _ _ _ _ _ _ _ _
        have gl2 := gl ok
        refine z_aload rfl rfl ?_
        refine z_iload rfl rfl ?_
        refine z_pushI (z := 0) rfl rfl ?_
        refine z_callVx (As := [_, _]) rfl rfl rfl (Nat.le_of_ble_eq_true rfl) (Nat.le_of_ble_eq_true rfl) (addStep_k (k := k + ((pE c n 4 o (p + 1)).2.2.length : Int)) (s := lo (c (p))) (v := 0) hR (by omega) (by exact h29) (by omega)) ?_
        show zW _ _ _ _ _ _ _ _ _ _
        refine z_goto rfl ?_
        show zW _ _ _ _ [some (.ref 50), some (zi (lo (c (p))))] [] _ _ _ _
        have gl2 := gl ok
        have hl2 : lay (zU (zU (zU J2 62 (130 + (k + ((pE c n 4 o (p + 1)).2.2.length : Int))) (lo (c (p)))) 63 (130 + (k + ((pE c n 4 o (p + 1)).2.2.length : Int))) 0) 50 19 ((k + ((pE c n 4 o (p + 1)).2.2.length : Int)) + 1)) 62 63 (130 + k) (((pE c n 4 o (p + 1)).2.2 ++ [(c p, 0)]).map enc) := by
          rw [List.map_append]
          refine lay_app _ _ _ (lay_keep _ _ (130 + k + ((pE c n 4 o (p + 1)).2.2.length : Int)) hl (by rw [List.length_map]; omega) (fun j hj => ⟨?_, ?_⟩)) ?_
          · exact (zU_n (by decide)).trans ((zU_n (by decide)).trans (zU_x (by omega)))
          · exact (zU_n (by decide)).trans (zU_x (by omega))
          · show lay _ 62 63 _ [enc (c p, 0)]
            rw [enc_b (by omega)]
            refine ⟨⟨?_, ?_⟩, trivial⟩
            · exact ((zU_n (by decide)).trans ((zU_n (by decide)).trans (zU_ex (by rw [List.length_map]; omega)))).trans (show lo (c (p)) = c p by omega)
            · exact (zU_n (by decide)).trans (zU_ex (by rw [List.length_map]; omega))
        have e1 : k + ((pE c n 4 o (p + 1)).2.2.length : Int) + 1 = k + (((pE c n 4 o (p + 1)).2.2 ++ [(c p, 0)]).length : Int) := by rw [List.length_append, List.length_singleton]; omega
        have hz := ih2 (pE c n 4 o (p + 1)).2.1 (k + (((pE c n 4 o (p + 1)).2.2 ++ [(c p, 0)]).length : Int)) (some (zi (lo (c (p))))) (D + 6) (zU (zU (zU J2 62 (130 + (k + ((pE c n 4 o (p + 1)).2.2.length : Int))) (lo (c (p)))) 63 (130 + (k + ((pE c n 4 o (p + 1)).2.2.length : Int))) 0) 50 19 ((k + ((pE c n 4 o (p + 1)).2.2.length : Int)) + 1)) (zK_x (a := 50) (x := 19) (v := (k + ((pE c n 4 o (p + 1)).2.2.length : Int)) + 1) (zK_x (a := 63) (x := 130 + (k + ((pE c n 4 o (p + 1)).2.2.length : Int))) (v := 0) (zK_x (a := 62) (x := 130 + (k + ((pE c n 4 o (p + 1)).2.2.length : Int))) (v := lo (c (p))) hJ3 rfl) rfl) rfl) ((zU_x (by decide)).trans ((zU_n (by decide)).trans ((zU_n (by decide)).trans (h22)))) ((zU_x (by decide)).trans ((zU_n (by decide)).trans ((zU_n (by decide)).trans (h27)))) ((zU_x (by decide)).trans ((zU_n (by decide)).trans ((zU_n (by decide)).trans (h28)))) (zU_e.trans e1) (by omega) (by omega) (by omega) hD
        rw [pL_t hq ok, show (pE c n 4 o (p + 1)).2.2 ++ (c p, 0) :: (pL (pE c n 4 o) c 3 j (pE c n 4 o (p + 1)).2.1).2.2 = ((pE c n 4 o (p + 1)).2.2 ++ [(c p, 0)]) ++ (pL (pE c n 4 o) c 3 j (pE c n 4 o (p + 1)).2.1).2.2 by rw [List.append_assoc]; rfl]
        exact zW_m hz (fun r6 J6 M6 R6 h => rrc (p := (pE c n 4 o (p + 1)).2.1) (by rw [List.length_append, List.length_singleton]; omega) ((zK_x (a := 50) (x := 19) (v := (k + ((pE c n 4 o (p + 1)).2.2.length : Int)) + 1) (zK_x (a := 63) (x := 130 + (k + ((pE c n 4 o (p + 1)).2.2.length : Int))) (v := 0) (zK_x (a := 62) (x := 130 + (k + ((pE c n 4 o (p + 1)).2.2.length : Int))) (v := lo (c (p))) hJ2 rfl) rfl) rfl)) (fun j hj => ⟨(zU_n (by decide)).trans ((zU_n (by decide)).trans ((zU_x (by omega)).trans ((hke2 j hj).1))), (zU_n (by decide)).trans ((zU_x (by omega)).trans ((zU_n (by decide)).trans ((hke2 j hj).2)))⟩) hl2 h)
      · show zW _ _ _ _ _ _ _ _ _ _
        refine z_aload rfl rfl ?_
        refine z_iload rfl rfl ?_
        refine z_pushI (z := 0) rfl rfl ?_
        refine z_callVx (As := [_, _]) rfl rfl rfl (Nat.le_of_ble_eq_true rfl) (Nat.le_of_ble_eq_true rfl) (addStep_k (k := J2 50 19) (s := lo (c (p))) (v := 0) hR (by omega) (by exact rfl) (by omega)) ?_
        show zW _ _ _ _ _ _ _ _ _ _
        refine z_goto rfl ?_
        show zW _ _ _ _ [some (.ref 50), some (zi (lo (c (p))))] [] _ _ _ _
        refine z_aload rfl rfl ?_
        refine z_getI (v := (pE c n 4 o (p + 1)).2.1) rfl rfl ((zU_x (by decide)).trans ((zU_n (by decide)).trans ((zU_n (by decide)).trans (h27)))) ?_
        refine z_if_geT rfl (by omega) (by omega) ?_
        refine z_vret rfl rfl ?_
        rw [pL_f hq ok]
        refine ⟨⟨rfl, (zK_x (a := 50) (x := 19) (v := (J2 50 19) + 1) (zK_x (a := 63) (x := 130 + (J2 50 19)) (v := 0) (zK_x (a := 62) (x := 130 + (J2 50 19)) (v := lo (c (p))) hJ2 rfl) rfl) rfl), (zU_x (by decide)).trans ((zU_n (by decide)).trans ((zU_n (by decide)).trans (h22))), fun j hj => ⟨(zU_n (by decide)).trans ((zU_n (by decide)).trans ((zU_x (by omega)).trans ((hke2 j hj).1))), (zU_n (by decide)).trans ((zU_x (by omega)).trans ((zU_n (by decide)).trans ((hke2 j hj).2)))⟩, rfl, rfl⟩, Or.inr ⟨ok, (zU_x (by decide)).trans ((zU_n (by decide)).trans ((zU_n (by decide)).trans (h27))), ?_⟩⟩
        rw [zU_e]
        omega
    · refine z_aload rfl rfl ?_
      refine z_callVP (As := []) (v := lo (c (p))) rfl rfl rfl (Nat.le_of_ble_eq_true rfl) (Nat.le_of_ble_eq_true rfl) (look_k hR hf hc ht hJ (by exact hat) (by omega)) ?_
      have q6 := tp_r ht (p) (by omega)
      have q7 := lo_r (c (p))
      refine z_pushI (z := 45) rfl rfl ?_
      refine z_icmp_ne rfl (by omega) (by decide) (fun h8 => ?_) (fun h8 => ?_)
      · refine z_vret rfl rfl ?_
        rw [pL_n (show ¬ rk (c p) = 3 by unfold rk; (repeat' split) <;> omega)]
        exact ⟨⟨rfl, zK_r, hat, fun j _ => ⟨rfl, rfl⟩, rfl, rfl⟩, Or.inl ⟨rfl, hfa, hop, hkk.trans (by show k = k + ((0 : Nat) : Int); omega), trivial⟩⟩
      · refine z_aload rfl rfl ?_
        refine z_callVP (As := []) (v := lo (c (p))) rfl rfl rfl (Nat.le_of_ble_eq_true rfl) (Nat.le_of_ble_eq_true rfl) (look_k hR hf hc ht hJ (by exact hat) (by omega)) ?_
        have q9 := tp_r ht (p) (by omega)
        have q10 := lo_r (c (p))
        refine z_istore rfl rfl ?_
        refine z_aload rfl rfl ?_
        refine z_dup rfl rfl ?_
        refine z_getI (v := p) rfl rfl (hat) ?_
        refine z_pushI (z := 1) rfl rfl ?_
        refine z_iadd (e := p + 1) rfl rfl ?_
        refine z_putI (y := 16) rfl rfl rfl ?_
        refine z_aload rfl rfl ?_
        have hq : rk (c p) = 3 := by unfold rk; (repeat' split) <;> omega
        have ha2 := tp_lt ht (rk_n (s := c p) (by omega)).1
        have rb := rk_b (s := c p) (by omega)
        have gx := (pE_g ht n 4 o (p + 1) (by omega) (by omega)).1
        have gl : (pE c n 4 o (p + 1)).1 = true → (p + 1 < (pE c n 4 o (p + 1)).2.1 ∧ ((pE c n 4 o (p + 1)).2.2.length : Int) ≤ (pE c n 4 o (p + 1)).2.1 - (p + 1)) := fun t => ⟨((pE_g ht n 4 o (p + 1) (by omega) (by omega)).2 t).1.1, ((pE_g ht n 4 o (p + 1) (by omega) (by omega)).2 t).1.2.1⟩
        refine z_callV (As := []) _ rfl rfl rfl (Nat.le_of_ble_eq_true rfl) (Nat.le_of_ble_eq_true rfl) (ih o (p + 1) k _ _ (by omega) (zK_x (a := 50) (x := 16) (v := p + 1) hJ rfl) (by exact zU_e) (by exact (zU_x (by decide)).trans (hfa)) (by exact (zU_x (by decide)).trans (hop)) (by exact (zU_x (by decide)).trans (hkk)) (by omega) (by omega) (by omega)) (fun r J2 M2 R2 hr => ?_)
        obtain ⟨⟨rfl, hk2, h22, hke, eM, eR⟩, hr⟩ := hr
        obtain rfl : M = M2 := eM.symm
        obtain rfl : R = R2 := eR.symm
        have hJ2 : zK (kL [62, 63] [(50, 16), (50, 17), (50, 18), (50, 19)]) J J2 := zK_t (zK_x (a := 50) (x := 16) (v := p + 1) zK_r rfl) hk2
        have hJ3 : zK (kL [62, 63] [(50, 16), (50, 17), (50, 18), (50, 19)]) A J2 := zK_t hJ hJ2
        have hb0 : ∀ j, j < 130 + (k) → (zU J 50 16 (p + 1)) 62 j = J 62 j ∧ (zU J 50 16 (p + 1)) 63 j = J 63 j := fun j hj => ⟨(zU_n (by decide)).trans (rfl), (zU_n (by decide)).trans (rfl)⟩
        have hke2 : ∀ j, j < 130 + (k) → J2 62 j = J 62 j ∧ J2 63 j = J 63 j := fun j hj => ⟨(hke j hj).1.trans (hb0 j hj).1, (hke j hj).2.trans (hb0 j hj).2⟩
        rcases hr with ⟨ok, h27, h28, h29, hl⟩ | ⟨ok, h27, h29⟩
        · show zW _ _ _ _ _ _ _ _ _ _
          have gl2 := gl ok
          refine z_aload rfl rfl ?_
          refine z_iload rfl rfl ?_
          refine z_pushI (z := 0) rfl rfl ?_
          refine z_callVx (As := [_, _]) rfl rfl rfl (Nat.le_of_ble_eq_true rfl) (Nat.le_of_ble_eq_true rfl) (addStep_k (k := k + ((pE c n 4 o (p + 1)).2.2.length : Int)) (s := lo (c (p))) (v := 0) hR (by omega) (by exact h29) (by omega)) ?_
          show zW _ _ _ _ _ _ _ _ _ _
          refine z_goto rfl ?_
          show zW _ _ _ _ [some (.ref 50), some (zi (lo (c (p))))] [] _ _ _ _
          have gl2 := gl ok
          have hl2 : lay (zU (zU (zU J2 62 (130 + (k + ((pE c n 4 o (p + 1)).2.2.length : Int))) (lo (c (p)))) 63 (130 + (k + ((pE c n 4 o (p + 1)).2.2.length : Int))) 0) 50 19 ((k + ((pE c n 4 o (p + 1)).2.2.length : Int)) + 1)) 62 63 (130 + k) (((pE c n 4 o (p + 1)).2.2 ++ [(c p, 0)]).map enc) := by
            rw [List.map_append]
            refine lay_app _ _ _ (lay_keep _ _ (130 + k + ((pE c n 4 o (p + 1)).2.2.length : Int)) hl (by rw [List.length_map]; omega) (fun j hj => ⟨?_, ?_⟩)) ?_
            · exact (zU_n (by decide)).trans ((zU_n (by decide)).trans (zU_x (by omega)))
            · exact (zU_n (by decide)).trans (zU_x (by omega))
            · show lay _ 62 63 _ [enc (c p, 0)]
              rw [enc_b (by omega)]
              refine ⟨⟨?_, ?_⟩, trivial⟩
              · exact ((zU_n (by decide)).trans ((zU_n (by decide)).trans (zU_ex (by rw [List.length_map]; omega)))).trans (show lo (c (p)) = c p by omega)
              · exact (zU_n (by decide)).trans (zU_ex (by rw [List.length_map]; omega))
          have e1 : k + ((pE c n 4 o (p + 1)).2.2.length : Int) + 1 = k + (((pE c n 4 o (p + 1)).2.2 ++ [(c p, 0)]).length : Int) := by rw [List.length_append, List.length_singleton]; omega
          have hz := ih2 (pE c n 4 o (p + 1)).2.1 (k + (((pE c n 4 o (p + 1)).2.2 ++ [(c p, 0)]).length : Int)) (some (zi (lo (c (p))))) (D + 6) (zU (zU (zU J2 62 (130 + (k + ((pE c n 4 o (p + 1)).2.2.length : Int))) (lo (c (p)))) 63 (130 + (k + ((pE c n 4 o (p + 1)).2.2.length : Int))) 0) 50 19 ((k + ((pE c n 4 o (p + 1)).2.2.length : Int)) + 1)) (zK_x (a := 50) (x := 19) (v := (k + ((pE c n 4 o (p + 1)).2.2.length : Int)) + 1) (zK_x (a := 63) (x := 130 + (k + ((pE c n 4 o (p + 1)).2.2.length : Int))) (v := 0) (zK_x (a := 62) (x := 130 + (k + ((pE c n 4 o (p + 1)).2.2.length : Int))) (v := lo (c (p))) hJ3 rfl) rfl) rfl) ((zU_x (by decide)).trans ((zU_n (by decide)).trans ((zU_n (by decide)).trans (h22)))) ((zU_x (by decide)).trans ((zU_n (by decide)).trans ((zU_n (by decide)).trans (h27)))) ((zU_x (by decide)).trans ((zU_n (by decide)).trans ((zU_n (by decide)).trans (h28)))) (zU_e.trans e1) (by omega) (by omega) (by omega) hD
          rw [pL_t hq ok, show (pE c n 4 o (p + 1)).2.2 ++ (c p, 0) :: (pL (pE c n 4 o) c 3 j (pE c n 4 o (p + 1)).2.1).2.2 = ((pE c n 4 o (p + 1)).2.2 ++ [(c p, 0)]) ++ (pL (pE c n 4 o) c 3 j (pE c n 4 o (p + 1)).2.1).2.2 by rw [List.append_assoc]; rfl]
          exact zW_m hz (fun r6 J6 M6 R6 h => rrc (p := (pE c n 4 o (p + 1)).2.1) (by rw [List.length_append, List.length_singleton]; omega) ((zK_x (a := 50) (x := 19) (v := (k + ((pE c n 4 o (p + 1)).2.2.length : Int)) + 1) (zK_x (a := 63) (x := 130 + (k + ((pE c n 4 o (p + 1)).2.2.length : Int))) (v := 0) (zK_x (a := 62) (x := 130 + (k + ((pE c n 4 o (p + 1)).2.2.length : Int))) (v := lo (c (p))) hJ2 rfl) rfl) rfl)) (fun j hj => ⟨(zU_n (by decide)).trans ((zU_n (by decide)).trans ((zU_x (by omega)).trans ((hke2 j hj).1))), (zU_n (by decide)).trans ((zU_x (by omega)).trans ((zU_n (by decide)).trans ((hke2 j hj).2)))⟩) hl2 h)
        · show zW _ _ _ _ _ _ _ _ _ _
          refine z_aload rfl rfl ?_
          refine z_iload rfl rfl ?_
          refine z_pushI (z := 0) rfl rfl ?_
          refine z_callVx (As := [_, _]) rfl rfl rfl (Nat.le_of_ble_eq_true rfl) (Nat.le_of_ble_eq_true rfl) (addStep_k (k := J2 50 19) (s := lo (c (p))) (v := 0) hR (by omega) (by exact rfl) (by omega)) ?_
          show zW _ _ _ _ _ _ _ _ _ _
          refine z_goto rfl ?_
          show zW _ _ _ _ [some (.ref 50), some (zi (lo (c (p))))] [] _ _ _ _
          refine z_aload rfl rfl ?_
          refine z_getI (v := (pE c n 4 o (p + 1)).2.1) rfl rfl ((zU_x (by decide)).trans ((zU_n (by decide)).trans ((zU_n (by decide)).trans (h27)))) ?_
          refine z_if_geT rfl (by omega) (by omega) ?_
          refine z_vret rfl rfl ?_
          rw [pL_f hq ok]
          refine ⟨⟨rfl, (zK_x (a := 50) (x := 19) (v := (J2 50 19) + 1) (zK_x (a := 63) (x := 130 + (J2 50 19)) (v := 0) (zK_x (a := 62) (x := 130 + (J2 50 19)) (v := lo (c (p))) hJ2 rfl) rfl) rfl), (zU_x (by decide)).trans ((zU_n (by decide)).trans ((zU_n (by decide)).trans (h22))), fun j hj => ⟨(zU_n (by decide)).trans ((zU_n (by decide)).trans ((zU_x (by omega)).trans ((hke2 j hj).1))), (zU_n (by decide)).trans ((zU_x (by omega)).trans ((zU_n (by decide)).trans ((hke2 j hj).2)))⟩, rfl, rfl⟩, Or.inr ⟨ok, (zU_x (by decide)).trans ((zU_n (by decide)).trans ((zU_n (by decide)).trans (h27))), ?_⟩⟩
          rw [zU_e]
          omega
theorem rch3 {X : Nat × (Nat → Int32)} {M : zA} {R : zR} (hR : zRoR R) {A : zA} {c : Int → Int} {f : Int} (hf : A 50 15 = f) (hc : ∀ i, 0 ≤ i → i < f → A 61 i = zb (c i)) (ht : tp c f) {n : Nat} (ih : (∀ (o a k : Int) (D : Nat) (J : zA), pK n 4 o → zK (kL [62, 63] [(50, 16), (50, 17), (50, 18), (50, 19)]) A J → J 50 16 = a → J 50 17 = -1 → J 50 18 = o → J 50 19 = k → (0 ≤ a ∧ a ≤ f) → (0 ≤ k ∧ k ≤ a) → n + 8 ≤ D → zW X D 172 0 (gEn 172 [.ref 50]) [] J M R (rr c k o a (pE c n 4 o a) J M R))) : (∀ (o a k : Int) (D : Nat) (J : zA), pK (n + 1) 3 o → zK (kL [62, 63] [(50, 16), (50, 17), (50, 18), (50, 19)]) A J → J 50 16 = a → J 50 17 = -1 → J 50 18 = o → J 50 19 = k → (0 ≤ a ∧ a ≤ f) → (0 ≤ k ∧ k ≤ a) → (n + 1) + 8 ≤ D → zW X D 173 0 (gEn 173 [.ref 50]) [] J M R (rr c k o a (pE c (n + 1) 3 o a) J M R)) := by
  intro o a k D J hk hJ hat hfa hop hkk ha hk0 hD
  obtain ⟨D, rfl⟩ : ∃ e, D = e + 6 := ⟨D - 6, by omega⟩
  have tf := ht.1
  show zW _ _ _ _ [some (.ref 50), none] _ _ _ _ _
  refine z_aload rfl rfl ?_
  have gx := (pE_g ht n 4 o a (by omega) ha).1
  have gl : (pE c n 4 o a).1 = true → (a < (pE c n 4 o a).2.1 ∧ ((pE c n 4 o a).2.2.length : Int) ≤ (pE c n 4 o a).2.1 - a) := fun t => ⟨((pE_g ht n 4 o a (by omega) ha).2 t).1.1, ((pE_g ht n 4 o a (by omega) ha).2 t).1.2.1⟩
  refine z_callV (As := []) _ rfl rfl rfl (Nat.le_of_ble_eq_true rfl) (Nat.le_of_ble_eq_true rfl) (ih o a k _ _ (by omega) hJ hat hfa hop hkk ha hk0 (by omega)) (fun r J2 M2 R2 hr => ?_)
  obtain ⟨⟨rfl, hk2, h22, hke, eM, eR⟩, hr⟩ := hr
  obtain rfl : M = M2 := eM.symm
  obtain rfl : R = R2 := eR.symm
  have hJ2 : zK (kL [62, 63] [(50, 16), (50, 17), (50, 18), (50, 19)]) J J2 := zK_t zK_r hk2
  have hJ3 : zK (kL [62, 63] [(50, 16), (50, 17), (50, 18), (50, 19)]) A J2 := zK_t hJ hJ2
  have hb0 : ∀ j, j < 130 + (k) → J 62 j = J 62 j ∧ J 63 j = J 63 j := fun j hj => ⟨rfl, rfl⟩
  have hke2 : ∀ j, j < 130 + (k) → J2 62 j = J 62 j ∧ J2 63 j = J 63 j := fun j hj => ⟨(hke j hj).1.trans (hb0 j hj).1, (hke j hj).2.trans (hb0 j hj).2⟩
  rcases hr with ⟨ok, h27, h28, h29, hl⟩ | ⟨ok, h27, h29⟩
  · show zW _ _ _ _ _ _ _ _ _ _
    have gl2 := gl ok
    show zW _ _ _ _ [some (.ref 50), none] [] _ _ _ _
    rw [pE_t (by decide) ok]
    have gl2 := gl ok
    have hz := rlp3 (X := X) (M := M) hR hf hc ht ih hk (pM 3) (pE c n 4 o a).2.1 (k + ((pE c n 4 o a).2.2.length : Int)) none (D + 6) J2 hJ3 h22 h27 h28 h29 (by omega) (by omega) (by show 120 ≤ (pE c n 4 o a).2.1 + ((120 : Nat) : Int); omega) hD
    exact zW_m hz (fun r6 J6 M6 R6 h => rrc (l := (pE c n 4 o a).2.2) (p := (pE c n 4 o a).2.1) (show ((pE c n 4 o a).2.2.length : Int) ≤ (pE c n 4 o a).2.1 - a by omega) hJ2 hke2 hl h)
  · show zW _ _ _ _ _ _ _ _ _ _
    refine z_aload rfl rfl ?_
    refine z_getI (v := (pE c n 4 o a).2.1) rfl rfl (h27) ?_
    refine z_if_geT rfl (by omega) (by omega) ?_
    refine z_vret rfl rfl ?_
    rw [pE_f (by decide) ok]
    exact ⟨⟨rfl, hJ2, h22, hke2, rfl, rfl⟩, Or.inr ⟨ok, h27, h29⟩⟩
theorem rlp2 {X : Nat × (Nat → Int32)} {M : zA} {R : zR} (hR : zRoR R) {A : zA} {c : Int → Int} {f : Int} (hf : A 50 15 = f) (hc : ∀ i, 0 ≤ i → i < f → A 61 i = zb (c i)) (ht : tp c f) {n : Nat} (ih : (∀ (o a k : Int) (D : Nat) (J : zA), pK n 3 o → zK (kL [62, 63] [(50, 16), (50, 17), (50, 18), (50, 19)]) A J → J 50 16 = a → J 50 17 = -1 → J 50 18 = o → J 50 19 = k → (0 ≤ a ∧ a ≤ f) → (0 ≤ k ∧ k ≤ a) → n + 8 ≤ D → zW X D 173 0 (gEn 173 [.ref 50]) [] J M R (rr c k o a (pE c n 3 o a) J M R))) {o : Int} (hkr : pK (n + 1) 2 o) : ∀ (p k : Int) (e1 : Option Value) (D : Nat) (J : zA), zK (kL [62, 63] [(50, 16), (50, 17), (50, 18), (50, 19)]) A J → J 50 16 = p → J 50 17 = -1 → J 50 18 = o → J 50 19 = k → (0 ≤ p ∧ p ≤ f) → (0 ≤ k ∧ k ≤ p) → n + 9 ≤ D → zW X D 174 4 [some (.ref 50), e1] [] J M R (rr c k o p (pL (pE c n 3 o) c 2 1 p) J M R) := by
  intro p k e1 D J hJ hat hfa hop hkk hp hk0 hD
  obtain ⟨D, rfl⟩ : ∃ e, D = e + 6 := ⟨D - 6, by omega⟩
  have tf := ht.1
  show zW _ _ _ _ [some (.ref 50), e1] _ _ _ _ _
  refine z_aload rfl rfl ?_
  refine z_callVP (As := []) (v := lo (c (p))) rfl rfl rfl (Nat.le_of_ble_eq_true rfl) (Nat.le_of_ble_eq_true rfl) (look_k hR hf hc ht hJ (by exact hat) (by omega)) ?_
  have q1 := tp_r ht (p) (by omega)
  have q2 := lo_r (c (p))
  refine z_istore rfl rfl ?_
  refine z_aload rfl rfl ?_
  refine z_getI (v := (-1)) rfl rfl (hfa) ?_
  refine z_if_geF rfl (by decide) (by decide) ?_
  refine z_iload rfl rfl ?_
  refine z_pushI (z := 60) rfl rfl ?_
  refine z_icmp_eq rfl (by omega) (by decide) (fun h3 => ?_) (fun h3 => ?_)
  · refine z_aload rfl rfl ?_
    refine z_dup rfl rfl ?_
    refine z_getI (v := p) rfl rfl (hat) ?_
    refine z_pushI (z := 1) rfl rfl ?_
    refine z_iadd (e := p + 1) rfl rfl ?_
    refine z_putI (y := 16) rfl rfl rfl ?_
    refine z_aload rfl rfl ?_
    have hq : rk (c p) = 2 := by unfold rk; (repeat' split) <;> omega
    have ha2 := tp_lt ht (rk_n (s := c p) (by omega)).1
    have rb := rk_b (s := c p) (by omega)
    have gx := (pE_g ht n 3 o (p + 1) (by omega) (by omega)).1
    have gl : (pE c n 3 o (p + 1)).1 = true → (p + 1 < (pE c n 3 o (p + 1)).2.1 ∧ ((pE c n 3 o (p + 1)).2.2.length : Int) ≤ (pE c n 3 o (p + 1)).2.1 - (p + 1)) := fun t => ⟨((pE_g ht n 3 o (p + 1) (by omega) (by omega)).2 t).1.1, ((pE_g ht n 3 o (p + 1) (by omega) (by omega)).2 t).1.2.1⟩
    refine z_callV (As := []) _ rfl rfl rfl (Nat.le_of_ble_eq_true rfl) (Nat.le_of_ble_eq_true rfl) (ih o (p + 1) k _ _ (by omega) (zK_x (a := 50) (x := 16) (v := p + 1) hJ rfl) (by exact zU_e) (by exact (zU_x (by decide)).trans (hfa)) (by exact (zU_x (by decide)).trans (hop)) (by exact (zU_x (by decide)).trans (hkk)) (by omega) (by omega) (by omega)) (fun r J2 M2 R2 hr => ?_)
    obtain ⟨⟨rfl, hk2, h22, hke, eM, eR⟩, hr⟩ := hr
    obtain rfl : M = M2 := eM.symm
    obtain rfl : R = R2 := eR.symm
    have hJ2 : zK (kL [62, 63] [(50, 16), (50, 17), (50, 18), (50, 19)]) J J2 := zK_t (zK_x (a := 50) (x := 16) (v := p + 1) zK_r rfl) hk2
    have hJ3 : zK (kL [62, 63] [(50, 16), (50, 17), (50, 18), (50, 19)]) A J2 := zK_t hJ hJ2
    have hb0 : ∀ j, j < 130 + (k) → (zU J 50 16 (p + 1)) 62 j = J 62 j ∧ (zU J 50 16 (p + 1)) 63 j = J 63 j := fun j hj => ⟨(zU_n (by decide)).trans (rfl), (zU_n (by decide)).trans (rfl)⟩
    have hke2 : ∀ j, j < 130 + (k) → J2 62 j = J 62 j ∧ J2 63 j = J 63 j := fun j hj => ⟨(hke j hj).1.trans (hb0 j hj).1, (hke j hj).2.trans (hb0 j hj).2⟩
    rcases hr with ⟨ok, h27, h28, h29, hl⟩ | ⟨ok, h27, h29⟩
    · show zW _ _ _ _ _ _ _ _ _ _
      have gl2 := gl ok
      refine z_aload rfl rfl ?_
      refine z_iload rfl rfl ?_
      refine z_pushI (z := 0) rfl rfl ?_
      refine z_callVx (As := [_, _]) rfl rfl rfl (Nat.le_of_ble_eq_true rfl) (Nat.le_of_ble_eq_true rfl) (addStep_k (k := k + ((pE c n 3 o (p + 1)).2.2.length : Int)) (s := lo (c (p))) (v := 0) hR (by omega) (by exact h29) (by omega)) ?_
      show zW _ _ _ _ _ _ _ _ _ _
      refine z_vret rfl rfl ?_
      have gl2 := gl ok
      have hl2 : lay (zU (zU (zU J2 62 (130 + (k + ((pE c n 3 o (p + 1)).2.2.length : Int))) (lo (c (p)))) 63 (130 + (k + ((pE c n 3 o (p + 1)).2.2.length : Int))) 0) 50 19 ((k + ((pE c n 3 o (p + 1)).2.2.length : Int)) + 1)) 62 63 (130 + k) (((pE c n 3 o (p + 1)).2.2 ++ [(c p, 0)]).map enc) := by
        rw [List.map_append]
        refine lay_app _ _ _ (lay_keep _ _ (130 + k + ((pE c n 3 o (p + 1)).2.2.length : Int)) hl (by rw [List.length_map]; omega) (fun j hj => ⟨?_, ?_⟩)) ?_
        · exact (zU_n (by decide)).trans ((zU_n (by decide)).trans (zU_x (by omega)))
        · exact (zU_n (by decide)).trans (zU_x (by omega))
        · show lay _ 62 63 _ [enc (c p, 0)]
          rw [enc_b (by omega)]
          refine ⟨⟨?_, ?_⟩, trivial⟩
          · exact ((zU_n (by decide)).trans ((zU_n (by decide)).trans (zU_ex (by rw [List.length_map]; omega)))).trans (show lo (c (p)) = c p by omega)
          · exact (zU_n (by decide)).trans (zU_ex (by rw [List.length_map]; omega))
      rw [pL_t hq ok]
      refine ⟨⟨rfl, (zK_x (a := 50) (x := 19) (v := (k + ((pE c n 3 o (p + 1)).2.2.length : Int)) + 1) (zK_x (a := 63) (x := 130 + (k + ((pE c n 3 o (p + 1)).2.2.length : Int))) (v := 0) (zK_x (a := 62) (x := 130 + (k + ((pE c n 3 o (p + 1)).2.2.length : Int))) (v := lo (c (p))) hJ2 rfl) rfl) rfl), (zU_x (by decide)).trans ((zU_n (by decide)).trans ((zU_n (by decide)).trans (h22))), fun j hj => ⟨(zU_n (by decide)).trans ((zU_n (by decide)).trans ((zU_x (by omega)).trans ((hke2 j hj).1))), (zU_n (by decide)).trans ((zU_x (by omega)).trans ((zU_n (by decide)).trans ((hke2 j hj).2)))⟩, rfl, rfl⟩, Or.inl ⟨rfl, (zU_x (by decide)).trans ((zU_n (by decide)).trans ((zU_n (by decide)).trans (h27))), (zU_x (by decide)).trans ((zU_n (by decide)).trans ((zU_n (by decide)).trans (h28))), ?_, hl2⟩⟩
      rw [zU_e]
      show k + ((pE c n 3 o (p + 1)).2.2.length : Int) + 1 = k + (((pE c n 3 o (p + 1)).2.2 ++ [(c p, 0)]).length : Int)
      rw [List.length_append, List.length_singleton]
      omega
    · show zW _ _ _ _ _ _ _ _ _ _
      refine z_aload rfl rfl ?_
      refine z_iload rfl rfl ?_
      refine z_pushI (z := 0) rfl rfl ?_
      refine z_callVx (As := [_, _]) rfl rfl rfl (Nat.le_of_ble_eq_true rfl) (Nat.le_of_ble_eq_true rfl) (addStep_k (k := J2 50 19) (s := lo (c (p))) (v := 0) hR (by omega) (by exact rfl) (by omega)) ?_
      show zW _ _ _ _ _ _ _ _ _ _
      refine z_vret rfl rfl ?_
      rw [pL_f hq ok]
      refine ⟨⟨rfl, (zK_x (a := 50) (x := 19) (v := (J2 50 19) + 1) (zK_x (a := 63) (x := 130 + (J2 50 19)) (v := 0) (zK_x (a := 62) (x := 130 + (J2 50 19)) (v := lo (c (p))) hJ2 rfl) rfl) rfl), (zU_x (by decide)).trans ((zU_n (by decide)).trans ((zU_n (by decide)).trans (h22))), fun j hj => ⟨(zU_n (by decide)).trans ((zU_n (by decide)).trans ((zU_x (by omega)).trans ((hke2 j hj).1))), (zU_n (by decide)).trans ((zU_x (by omega)).trans ((zU_n (by decide)).trans ((hke2 j hj).2)))⟩, rfl, rfl⟩, Or.inr ⟨ok, (zU_x (by decide)).trans ((zU_n (by decide)).trans ((zU_n (by decide)).trans (h27))), ?_⟩⟩
      rw [zU_e]
      omega
  · refine z_iload rfl rfl ?_
    refine z_pushI (z := 61) rfl rfl ?_
    refine z_icmp_eq rfl (by omega) (by decide) (fun h4 => ?_) (fun h4 => ?_)
    · refine z_aload rfl rfl ?_
      refine z_dup rfl rfl ?_
      refine z_getI (v := p) rfl rfl (hat) ?_
      refine z_pushI (z := 1) rfl rfl ?_
      refine z_iadd (e := p + 1) rfl rfl ?_
      refine z_putI (y := 16) rfl rfl rfl ?_
      refine z_aload rfl rfl ?_
      have hq : rk (c p) = 2 := by unfold rk; (repeat' split) <;> omega
      have ha2 := tp_lt ht (rk_n (s := c p) (by omega)).1
      have rb := rk_b (s := c p) (by omega)
      have gx := (pE_g ht n 3 o (p + 1) (by omega) (by omega)).1
      have gl : (pE c n 3 o (p + 1)).1 = true → (p + 1 < (pE c n 3 o (p + 1)).2.1 ∧ ((pE c n 3 o (p + 1)).2.2.length : Int) ≤ (pE c n 3 o (p + 1)).2.1 - (p + 1)) := fun t => ⟨((pE_g ht n 3 o (p + 1) (by omega) (by omega)).2 t).1.1, ((pE_g ht n 3 o (p + 1) (by omega) (by omega)).2 t).1.2.1⟩
      refine z_callV (As := []) _ rfl rfl rfl (Nat.le_of_ble_eq_true rfl) (Nat.le_of_ble_eq_true rfl) (ih o (p + 1) k _ _ (by omega) (zK_x (a := 50) (x := 16) (v := p + 1) hJ rfl) (by exact zU_e) (by exact (zU_x (by decide)).trans (hfa)) (by exact (zU_x (by decide)).trans (hop)) (by exact (zU_x (by decide)).trans (hkk)) (by omega) (by omega) (by omega)) (fun r J2 M2 R2 hr => ?_)
      obtain ⟨⟨rfl, hk2, h22, hke, eM, eR⟩, hr⟩ := hr
      obtain rfl : M = M2 := eM.symm
      obtain rfl : R = R2 := eR.symm
      have hJ2 : zK (kL [62, 63] [(50, 16), (50, 17), (50, 18), (50, 19)]) J J2 := zK_t (zK_x (a := 50) (x := 16) (v := p + 1) zK_r rfl) hk2
      have hJ3 : zK (kL [62, 63] [(50, 16), (50, 17), (50, 18), (50, 19)]) A J2 := zK_t hJ hJ2
      have hb0 : ∀ j, j < 130 + (k) → (zU J 50 16 (p + 1)) 62 j = J 62 j ∧ (zU J 50 16 (p + 1)) 63 j = J 63 j := fun j hj => ⟨(zU_n (by decide)).trans (rfl), (zU_n (by decide)).trans (rfl)⟩
      have hke2 : ∀ j, j < 130 + (k) → J2 62 j = J 62 j ∧ J2 63 j = J 63 j := fun j hj => ⟨(hke j hj).1.trans (hb0 j hj).1, (hke j hj).2.trans (hb0 j hj).2⟩
      rcases hr with ⟨ok, h27, h28, h29, hl⟩ | ⟨ok, h27, h29⟩
      · show zW _ _ _ _ _ _ _ _ _ _
        have gl2 := gl ok
        refine z_aload rfl rfl ?_
        refine z_iload rfl rfl ?_
        refine z_pushI (z := 0) rfl rfl ?_
        refine z_callVx (As := [_, _]) rfl rfl rfl (Nat.le_of_ble_eq_true rfl) (Nat.le_of_ble_eq_true rfl) (addStep_k (k := k + ((pE c n 3 o (p + 1)).2.2.length : Int)) (s := lo (c (p))) (v := 0) hR (by omega) (by exact h29) (by omega)) ?_
        show zW _ _ _ _ _ _ _ _ _ _
        refine z_vret rfl rfl ?_
        have gl2 := gl ok
        have hl2 : lay (zU (zU (zU J2 62 (130 + (k + ((pE c n 3 o (p + 1)).2.2.length : Int))) (lo (c (p)))) 63 (130 + (k + ((pE c n 3 o (p + 1)).2.2.length : Int))) 0) 50 19 ((k + ((pE c n 3 o (p + 1)).2.2.length : Int)) + 1)) 62 63 (130 + k) (((pE c n 3 o (p + 1)).2.2 ++ [(c p, 0)]).map enc) := by
          rw [List.map_append]
          refine lay_app _ _ _ (lay_keep _ _ (130 + k + ((pE c n 3 o (p + 1)).2.2.length : Int)) hl (by rw [List.length_map]; omega) (fun j hj => ⟨?_, ?_⟩)) ?_
          · exact (zU_n (by decide)).trans ((zU_n (by decide)).trans (zU_x (by omega)))
          · exact (zU_n (by decide)).trans (zU_x (by omega))
          · show lay _ 62 63 _ [enc (c p, 0)]
            rw [enc_b (by omega)]
            refine ⟨⟨?_, ?_⟩, trivial⟩
            · exact ((zU_n (by decide)).trans ((zU_n (by decide)).trans (zU_ex (by rw [List.length_map]; omega)))).trans (show lo (c (p)) = c p by omega)
            · exact (zU_n (by decide)).trans (zU_ex (by rw [List.length_map]; omega))
        rw [pL_t hq ok]
        refine ⟨⟨rfl, (zK_x (a := 50) (x := 19) (v := (k + ((pE c n 3 o (p + 1)).2.2.length : Int)) + 1) (zK_x (a := 63) (x := 130 + (k + ((pE c n 3 o (p + 1)).2.2.length : Int))) (v := 0) (zK_x (a := 62) (x := 130 + (k + ((pE c n 3 o (p + 1)).2.2.length : Int))) (v := lo (c (p))) hJ2 rfl) rfl) rfl), (zU_x (by decide)).trans ((zU_n (by decide)).trans ((zU_n (by decide)).trans (h22))), fun j hj => ⟨(zU_n (by decide)).trans ((zU_n (by decide)).trans ((zU_x (by omega)).trans ((hke2 j hj).1))), (zU_n (by decide)).trans ((zU_x (by omega)).trans ((zU_n (by decide)).trans ((hke2 j hj).2)))⟩, rfl, rfl⟩, Or.inl ⟨rfl, (zU_x (by decide)).trans ((zU_n (by decide)).trans ((zU_n (by decide)).trans (h27))), (zU_x (by decide)).trans ((zU_n (by decide)).trans ((zU_n (by decide)).trans (h28))), ?_, hl2⟩⟩
        rw [zU_e]
        show k + ((pE c n 3 o (p + 1)).2.2.length : Int) + 1 = k + (((pE c n 3 o (p + 1)).2.2 ++ [(c p, 0)]).length : Int)
        rw [List.length_append, List.length_singleton]
        omega
      · show zW _ _ _ _ _ _ _ _ _ _
        refine z_aload rfl rfl ?_
        refine z_iload rfl rfl ?_
        refine z_pushI (z := 0) rfl rfl ?_
        refine z_callVx (As := [_, _]) rfl rfl rfl (Nat.le_of_ble_eq_true rfl) (Nat.le_of_ble_eq_true rfl) (addStep_k (k := J2 50 19) (s := lo (c (p))) (v := 0) hR (by omega) (by exact rfl) (by omega)) ?_
        show zW _ _ _ _ _ _ _ _ _ _
        refine z_vret rfl rfl ?_
        rw [pL_f hq ok]
        refine ⟨⟨rfl, (zK_x (a := 50) (x := 19) (v := (J2 50 19) + 1) (zK_x (a := 63) (x := 130 + (J2 50 19)) (v := 0) (zK_x (a := 62) (x := 130 + (J2 50 19)) (v := lo (c (p))) hJ2 rfl) rfl) rfl), (zU_x (by decide)).trans ((zU_n (by decide)).trans ((zU_n (by decide)).trans (h22))), fun j hj => ⟨(zU_n (by decide)).trans ((zU_n (by decide)).trans ((zU_x (by omega)).trans ((hke2 j hj).1))), (zU_n (by decide)).trans ((zU_x (by omega)).trans ((zU_n (by decide)).trans ((hke2 j hj).2)))⟩, rfl, rfl⟩, Or.inr ⟨ok, (zU_x (by decide)).trans ((zU_n (by decide)).trans ((zU_n (by decide)).trans (h27))), ?_⟩⟩
        rw [zU_e]
        omega
    · refine z_iload rfl rfl ?_
      refine z_pushI (z := 62) rfl rfl ?_
      refine z_icmp_eq rfl (by omega) (by decide) (fun h5 => ?_) (fun h5 => ?_)
      · refine z_aload rfl rfl ?_
        refine z_dup rfl rfl ?_
        refine z_getI (v := p) rfl rfl (hat) ?_
        refine z_pushI (z := 1) rfl rfl ?_
        refine z_iadd (e := p + 1) rfl rfl ?_
        refine z_putI (y := 16) rfl rfl rfl ?_
        refine z_aload rfl rfl ?_
        have hq : rk (c p) = 2 := by unfold rk; (repeat' split) <;> omega
        have ha2 := tp_lt ht (rk_n (s := c p) (by omega)).1
        have rb := rk_b (s := c p) (by omega)
        have gx := (pE_g ht n 3 o (p + 1) (by omega) (by omega)).1
        have gl : (pE c n 3 o (p + 1)).1 = true → (p + 1 < (pE c n 3 o (p + 1)).2.1 ∧ ((pE c n 3 o (p + 1)).2.2.length : Int) ≤ (pE c n 3 o (p + 1)).2.1 - (p + 1)) := fun t => ⟨((pE_g ht n 3 o (p + 1) (by omega) (by omega)).2 t).1.1, ((pE_g ht n 3 o (p + 1) (by omega) (by omega)).2 t).1.2.1⟩
        refine z_callV (As := []) _ rfl rfl rfl (Nat.le_of_ble_eq_true rfl) (Nat.le_of_ble_eq_true rfl) (ih o (p + 1) k _ _ (by omega) (zK_x (a := 50) (x := 16) (v := p + 1) hJ rfl) (by exact zU_e) (by exact (zU_x (by decide)).trans (hfa)) (by exact (zU_x (by decide)).trans (hop)) (by exact (zU_x (by decide)).trans (hkk)) (by omega) (by omega) (by omega)) (fun r J2 M2 R2 hr => ?_)
        obtain ⟨⟨rfl, hk2, h22, hke, eM, eR⟩, hr⟩ := hr
        obtain rfl : M = M2 := eM.symm
        obtain rfl : R = R2 := eR.symm
        have hJ2 : zK (kL [62, 63] [(50, 16), (50, 17), (50, 18), (50, 19)]) J J2 := zK_t (zK_x (a := 50) (x := 16) (v := p + 1) zK_r rfl) hk2
        have hJ3 : zK (kL [62, 63] [(50, 16), (50, 17), (50, 18), (50, 19)]) A J2 := zK_t hJ hJ2
        have hb0 : ∀ j, j < 130 + (k) → (zU J 50 16 (p + 1)) 62 j = J 62 j ∧ (zU J 50 16 (p + 1)) 63 j = J 63 j := fun j hj => ⟨(zU_n (by decide)).trans (rfl), (zU_n (by decide)).trans (rfl)⟩
        have hke2 : ∀ j, j < 130 + (k) → J2 62 j = J 62 j ∧ J2 63 j = J 63 j := fun j hj => ⟨(hke j hj).1.trans (hb0 j hj).1, (hke j hj).2.trans (hb0 j hj).2⟩
        rcases hr with ⟨ok, h27, h28, h29, hl⟩ | ⟨ok, h27, h29⟩
        · show zW _ _ _ _ _ _ _ _ _ _
          have gl2 := gl ok
          refine z_aload rfl rfl ?_
          refine z_iload rfl rfl ?_
          refine z_pushI (z := 0) rfl rfl ?_
          refine z_callVx (As := [_, _]) rfl rfl rfl (Nat.le_of_ble_eq_true rfl) (Nat.le_of_ble_eq_true rfl) (addStep_k (k := k + ((pE c n 3 o (p + 1)).2.2.length : Int)) (s := lo (c (p))) (v := 0) hR (by omega) (by exact h29) (by omega)) ?_
          show zW _ _ _ _ _ _ _ _ _ _
          refine z_vret rfl rfl ?_
          have gl2 := gl ok
          have hl2 : lay (zU (zU (zU J2 62 (130 + (k + ((pE c n 3 o (p + 1)).2.2.length : Int))) (lo (c (p)))) 63 (130 + (k + ((pE c n 3 o (p + 1)).2.2.length : Int))) 0) 50 19 ((k + ((pE c n 3 o (p + 1)).2.2.length : Int)) + 1)) 62 63 (130 + k) (((pE c n 3 o (p + 1)).2.2 ++ [(c p, 0)]).map enc) := by
            rw [List.map_append]
            refine lay_app _ _ _ (lay_keep _ _ (130 + k + ((pE c n 3 o (p + 1)).2.2.length : Int)) hl (by rw [List.length_map]; omega) (fun j hj => ⟨?_, ?_⟩)) ?_
            · exact (zU_n (by decide)).trans ((zU_n (by decide)).trans (zU_x (by omega)))
            · exact (zU_n (by decide)).trans (zU_x (by omega))
            · show lay _ 62 63 _ [enc (c p, 0)]
              rw [enc_b (by omega)]
              refine ⟨⟨?_, ?_⟩, trivial⟩
              · exact ((zU_n (by decide)).trans ((zU_n (by decide)).trans (zU_ex (by rw [List.length_map]; omega)))).trans (show lo (c (p)) = c p by omega)
              · exact (zU_n (by decide)).trans (zU_ex (by rw [List.length_map]; omega))
          rw [pL_t hq ok]
          refine ⟨⟨rfl, (zK_x (a := 50) (x := 19) (v := (k + ((pE c n 3 o (p + 1)).2.2.length : Int)) + 1) (zK_x (a := 63) (x := 130 + (k + ((pE c n 3 o (p + 1)).2.2.length : Int))) (v := 0) (zK_x (a := 62) (x := 130 + (k + ((pE c n 3 o (p + 1)).2.2.length : Int))) (v := lo (c (p))) hJ2 rfl) rfl) rfl), (zU_x (by decide)).trans ((zU_n (by decide)).trans ((zU_n (by decide)).trans (h22))), fun j hj => ⟨(zU_n (by decide)).trans ((zU_n (by decide)).trans ((zU_x (by omega)).trans ((hke2 j hj).1))), (zU_n (by decide)).trans ((zU_x (by omega)).trans ((zU_n (by decide)).trans ((hke2 j hj).2)))⟩, rfl, rfl⟩, Or.inl ⟨rfl, (zU_x (by decide)).trans ((zU_n (by decide)).trans ((zU_n (by decide)).trans (h27))), (zU_x (by decide)).trans ((zU_n (by decide)).trans ((zU_n (by decide)).trans (h28))), ?_, hl2⟩⟩
          rw [zU_e]
          show k + ((pE c n 3 o (p + 1)).2.2.length : Int) + 1 = k + (((pE c n 3 o (p + 1)).2.2 ++ [(c p, 0)]).length : Int)
          rw [List.length_append, List.length_singleton]
          omega
        · show zW _ _ _ _ _ _ _ _ _ _
          refine z_aload rfl rfl ?_
          refine z_iload rfl rfl ?_
          refine z_pushI (z := 0) rfl rfl ?_
          refine z_callVx (As := [_, _]) rfl rfl rfl (Nat.le_of_ble_eq_true rfl) (Nat.le_of_ble_eq_true rfl) (addStep_k (k := J2 50 19) (s := lo (c (p))) (v := 0) hR (by omega) (by exact rfl) (by omega)) ?_
          show zW _ _ _ _ _ _ _ _ _ _
          refine z_vret rfl rfl ?_
          rw [pL_f hq ok]
          refine ⟨⟨rfl, (zK_x (a := 50) (x := 19) (v := (J2 50 19) + 1) (zK_x (a := 63) (x := 130 + (J2 50 19)) (v := 0) (zK_x (a := 62) (x := 130 + (J2 50 19)) (v := lo (c (p))) hJ2 rfl) rfl) rfl), (zU_x (by decide)).trans ((zU_n (by decide)).trans ((zU_n (by decide)).trans (h22))), fun j hj => ⟨(zU_n (by decide)).trans ((zU_n (by decide)).trans ((zU_x (by omega)).trans ((hke2 j hj).1))), (zU_n (by decide)).trans ((zU_x (by omega)).trans ((zU_n (by decide)).trans ((hke2 j hj).2)))⟩, rfl, rfl⟩, Or.inr ⟨ok, (zU_x (by decide)).trans ((zU_n (by decide)).trans ((zU_n (by decide)).trans (h27))), ?_⟩⟩
          rw [zU_e]
          omega
      · refine z_vret rfl rfl ?_
        rw [pL_n (show ¬ rk (c p) = 2 by unfold rk; (repeat' split) <;> omega)]
        exact ⟨⟨rfl, zK_r, hat, fun j _ => ⟨rfl, rfl⟩, rfl, rfl⟩, Or.inl ⟨rfl, hfa, hop, hkk.trans (by show k = k + ((0 : Nat) : Int); omega), trivial⟩⟩
theorem rch2 {X : Nat × (Nat → Int32)} {M : zA} {R : zR} (hR : zRoR R) {A : zA} {c : Int → Int} {f : Int} (hf : A 50 15 = f) (hc : ∀ i, 0 ≤ i → i < f → A 61 i = zb (c i)) (ht : tp c f) {n : Nat} (ih : (∀ (o a k : Int) (D : Nat) (J : zA), pK n 3 o → zK (kL [62, 63] [(50, 16), (50, 17), (50, 18), (50, 19)]) A J → J 50 16 = a → J 50 17 = -1 → J 50 18 = o → J 50 19 = k → (0 ≤ a ∧ a ≤ f) → (0 ≤ k ∧ k ≤ a) → n + 8 ≤ D → zW X D 173 0 (gEn 173 [.ref 50]) [] J M R (rr c k o a (pE c n 3 o a) J M R))) : (∀ (o a k : Int) (D : Nat) (J : zA), pK (n + 1) 2 o → zK (kL [62, 63] [(50, 16), (50, 17), (50, 18), (50, 19)]) A J → J 50 16 = a → J 50 17 = -1 → J 50 18 = o → J 50 19 = k → (0 ≤ a ∧ a ≤ f) → (0 ≤ k ∧ k ≤ a) → (n + 1) + 8 ≤ D → zW X D 174 0 (gEn 174 [.ref 50]) [] J M R (rr c k o a (pE c (n + 1) 2 o a) J M R)) := by
  intro o a k D J hk hJ hat hfa hop hkk ha hk0 hD
  obtain ⟨D, rfl⟩ : ∃ e, D = e + 6 := ⟨D - 6, by omega⟩
  have tf := ht.1
  show zW _ _ _ _ [some (.ref 50), none] _ _ _ _ _
  refine z_aload rfl rfl ?_
  have gx := (pE_g ht n 3 o a (by omega) ha).1
  have gl : (pE c n 3 o a).1 = true → (a < (pE c n 3 o a).2.1 ∧ ((pE c n 3 o a).2.2.length : Int) ≤ (pE c n 3 o a).2.1 - a) := fun t => ⟨((pE_g ht n 3 o a (by omega) ha).2 t).1.1, ((pE_g ht n 3 o a (by omega) ha).2 t).1.2.1⟩
  refine z_callV (As := []) _ rfl rfl rfl (Nat.le_of_ble_eq_true rfl) (Nat.le_of_ble_eq_true rfl) (ih o a k _ _ (by omega) hJ hat hfa hop hkk ha hk0 (by omega)) (fun r J2 M2 R2 hr => ?_)
  obtain ⟨⟨rfl, hk2, h22, hke, eM, eR⟩, hr⟩ := hr
  obtain rfl : M = M2 := eM.symm
  obtain rfl : R = R2 := eR.symm
  have hJ2 : zK (kL [62, 63] [(50, 16), (50, 17), (50, 18), (50, 19)]) J J2 := zK_t zK_r hk2
  have hJ3 : zK (kL [62, 63] [(50, 16), (50, 17), (50, 18), (50, 19)]) A J2 := zK_t hJ hJ2
  have hb0 : ∀ j, j < 130 + (k) → J 62 j = J 62 j ∧ J 63 j = J 63 j := fun j hj => ⟨rfl, rfl⟩
  have hke2 : ∀ j, j < 130 + (k) → J2 62 j = J 62 j ∧ J2 63 j = J 63 j := fun j hj => ⟨(hke j hj).1.trans (hb0 j hj).1, (hke j hj).2.trans (hb0 j hj).2⟩
  rcases hr with ⟨ok, h27, h28, h29, hl⟩ | ⟨ok, h27, h29⟩
  · show zW _ _ _ _ _ _ _ _ _ _
    have gl2 := gl ok
    show zW _ _ _ _ [some (.ref 50), none] [] _ _ _ _
    rw [pE_t (by decide) ok]
    have gl2 := gl ok
    have hz := rlp2 (X := X) (M := M) hR hf hc ht ih hk (pE c n 3 o a).2.1 (k + ((pE c n 3 o a).2.2.length : Int)) none (D + 6) J2 hJ3 h22 h27 h28 h29 (by omega) (by omega) hD
    exact zW_m hz (fun r6 J6 M6 R6 h => rrc (l := (pE c n 3 o a).2.2) (p := (pE c n 3 o a).2.1) (show ((pE c n 3 o a).2.2.length : Int) ≤ (pE c n 3 o a).2.1 - a by omega) hJ2 hke2 hl h)
  · show zW _ _ _ _ _ _ _ _ _ _
    refine z_aload rfl rfl ?_
    refine z_callVP (As := []) (v := lo (c ((pE c n 3 o a).2.1))) rfl rfl rfl (Nat.le_of_ble_eq_true rfl) (Nat.le_of_ble_eq_true rfl) (look_k hR hf hc ht hJ3 (by exact h22) (by omega)) ?_
    have q1 := tp_r ht ((pE c n 3 o a).2.1) (by omega)
    have q2 := lo_r (c ((pE c n 3 o a).2.1))
    refine z_istore rfl rfl ?_
    refine z_aload rfl rfl ?_
    refine z_getI (v := (pE c n 3 o a).2.1) rfl rfl (h27) ?_
    refine z_if_geT rfl (by omega) (by omega) ?_
    refine z_vret rfl rfl ?_
    rw [pE_f (by decide) ok]
    exact ⟨⟨rfl, hJ2, h22, hke2, rfl, rfl⟩, Or.inr ⟨ok, h27, h29⟩⟩
theorem rlp1 {X : Nat × (Nat → Int32)} {M : zA} {R : zR} (hR : zRoR R) {A : zA} {c : Int → Int} {f : Int} (hf : A 50 15 = f) (hc : ∀ i, 0 ≤ i → i < f → A 61 i = zb (c i)) (ht : tp c f) {n : Nat} (ih : (∀ (o a k : Int) (D : Nat) (J : zA), pK n 2 o → zK (kL [62, 63] [(50, 16), (50, 17), (50, 18), (50, 19)]) A J → J 50 16 = a → J 50 17 = -1 → J 50 18 = o → J 50 19 = k → (0 ≤ a ∧ a ≤ f) → (0 ≤ k ∧ k ≤ a) → n + 8 ≤ D → zW X D 174 0 (gEn 174 [.ref 50]) [] J M R (rr c k o a (pE c n 2 o a) J M R))) {o : Int} (hkr : pK (n + 1) 1 o) : ∀ (m : Nat) (p k : Int) (D : Nat) (J : zA), zK (kL [62, 63] [(50, 16), (50, 17), (50, 18), (50, 19)]) A J → J 50 16 = p → J 50 17 = -1 → J 50 18 = o → J 50 19 = k → (0 ≤ p ∧ p ≤ f) → (0 ≤ k ∧ k ≤ p) → 120 ≤ p + m → n + 9 ≤ D → zW X D 175 4 [some (.ref 50)] [] J M R (rr c k o p (pL (pE c n 2 o) c 1 m p) J M R) := by
  intro m
  induction m with
  | zero =>
    intro p k D J hJ hat hfa hop hkk hp hk0 hpm hD
    obtain ⟨D, rfl⟩ : ∃ e, D = e + 6 := ⟨D - 6, by omega⟩
    have tf := ht.1
    have cp := ht.2.2 p (by omega)
    have lp : lo (c (p)) = -1 := by rw [cp]; rfl
    show zW _ _ _ _ [some (.ref 50)] _ _ _ _ _
    refine z_aload rfl rfl ?_
    refine z_getI (v := (-1)) rfl rfl (hfa) ?_
    refine z_if_geF rfl (by decide) (by decide) ?_
    refine z_aload rfl rfl ?_
    refine z_callVP (As := []) (v := lo (c (p))) rfl rfl rfl (Nat.le_of_ble_eq_true rfl) (Nat.le_of_ble_eq_true rfl) (look_k hR hf hc ht hJ hat (by omega)) ?_
    refine z_pushI (z := 38) rfl rfl ?_
    refine z_icmp_neT rfl (by omega) (by decide) (by omega) ?_
    refine z_vret rfl rfl ?_
    exact ⟨⟨rfl, zK_r, hat, fun j _ => ⟨rfl, rfl⟩, rfl, rfl⟩, Or.inl ⟨rfl, hfa, hop, hkk.trans (by show k = k + ((0 : Nat) : Int); omega), trivial⟩⟩
  | succ j ih2 =>
    intro p k D J hJ hat hfa hop hkk hp hk0 hpm hD
    obtain ⟨D, rfl⟩ : ∃ e, D = e + 6 := ⟨D - 6, by omega⟩
    have tf := ht.1
    show zW _ _ _ _ [some (.ref 50)] _ _ _ _ _
    refine z_aload rfl rfl ?_
    refine z_getI (v := (-1)) rfl rfl (hfa) ?_
    refine z_if_geF rfl (by decide) (by decide) ?_
    refine z_aload rfl rfl ?_
    refine z_callVP (As := []) (v := lo (c (p))) rfl rfl rfl (Nat.le_of_ble_eq_true rfl) (Nat.le_of_ble_eq_true rfl) (look_k hR hf hc ht hJ (by exact hat) (by omega)) ?_
    have q1 := tp_r ht (p) (by omega)
    have q2 := lo_r (c (p))
    refine z_pushI (z := 38) rfl rfl ?_
    refine z_icmp_ne rfl (by omega) (by decide) (fun h3 => ?_) (fun h3 => ?_)
    · refine z_vret rfl rfl ?_
      rw [pL_n (show ¬ rk (c p) = 1 by unfold rk; (repeat' split) <;> omega)]
      exact ⟨⟨rfl, zK_r, hat, fun j _ => ⟨rfl, rfl⟩, rfl, rfl⟩, Or.inl ⟨rfl, hfa, hop, hkk.trans (by show k = k + ((0 : Nat) : Int); omega), trivial⟩⟩
    · refine z_aload rfl rfl ?_
      refine z_dup rfl rfl ?_
      refine z_getI (v := p) rfl rfl (hat) ?_
      refine z_pushI (z := 1) rfl rfl ?_
      refine z_iadd (e := p + 1) rfl rfl ?_
      refine z_putI (y := 16) rfl rfl rfl ?_
      refine z_aload rfl rfl ?_
      have hq : rk (c p) = 1 := by unfold rk; (repeat' split) <;> omega
      have ha2 := tp_lt ht (rk_n (s := c p) (by omega)).1
      have rb := rk_b (s := c p) (by omega)
      have gx := (pE_g ht n 2 o (p + 1) (by omega) (by omega)).1
      have gl : (pE c n 2 o (p + 1)).1 = true → (p + 1 < (pE c n 2 o (p + 1)).2.1 ∧ ((pE c n 2 o (p + 1)).2.2.length : Int) ≤ (pE c n 2 o (p + 1)).2.1 - (p + 1)) := fun t => ⟨((pE_g ht n 2 o (p + 1) (by omega) (by omega)).2 t).1.1, ((pE_g ht n 2 o (p + 1) (by omega) (by omega)).2 t).1.2.1⟩
      refine z_callV (As := []) _ rfl rfl rfl (Nat.le_of_ble_eq_true rfl) (Nat.le_of_ble_eq_true rfl) (ih o (p + 1) k _ _ (by omega) (zK_x (a := 50) (x := 16) (v := p + 1) hJ rfl) (by exact zU_e) (by exact (zU_x (by decide)).trans (hfa)) (by exact (zU_x (by decide)).trans (hop)) (by exact (zU_x (by decide)).trans (hkk)) (by omega) (by omega) (by omega)) (fun r J2 M2 R2 hr => ?_)
      obtain ⟨⟨rfl, hk2, h22, hke, eM, eR⟩, hr⟩ := hr
      obtain rfl : M = M2 := eM.symm
      obtain rfl : R = R2 := eR.symm
      have hJ2 : zK (kL [62, 63] [(50, 16), (50, 17), (50, 18), (50, 19)]) J J2 := zK_t (zK_x (a := 50) (x := 16) (v := p + 1) zK_r rfl) hk2
      have hJ3 : zK (kL [62, 63] [(50, 16), (50, 17), (50, 18), (50, 19)]) A J2 := zK_t hJ hJ2
      have hb0 : ∀ j, j < 130 + (k) → (zU J 50 16 (p + 1)) 62 j = J 62 j ∧ (zU J 50 16 (p + 1)) 63 j = J 63 j := fun j hj => ⟨(zU_n (by decide)).trans (rfl), (zU_n (by decide)).trans (rfl)⟩
      have hke2 : ∀ j, j < 130 + (k) → J2 62 j = J 62 j ∧ J2 63 j = J 63 j := fun j hj => ⟨(hke j hj).1.trans (hb0 j hj).1, (hke j hj).2.trans (hb0 j hj).2⟩
      rcases hr with ⟨ok, h27, h28, h29, hl⟩ | ⟨ok, h27, h29⟩
      · show zW _ _ _ _ _ _ _ _ _ _
        have gl2 := gl ok
        refine z_aload rfl rfl ?_
        refine z_pushI (z := 38) rfl rfl ?_
        refine z_pushI (z := 0) rfl rfl ?_
        refine z_callVx (As := [_, _]) rfl rfl rfl (Nat.le_of_ble_eq_true rfl) (Nat.le_of_ble_eq_true rfl) (addStep_k (k := k + ((pE c n 2 o (p + 1)).2.2.length : Int)) (s := 38) (v := 0) hR (by omega) (by exact h29) (by omega)) ?_
        show zW _ _ _ _ _ _ _ _ _ _
        refine z_goto rfl ?_
        show zW _ _ _ _ [some (.ref 50)] [] _ _ _ _
        have gl2 := gl ok
        have hl2 : lay (zU (zU (zU J2 62 (130 + (k + ((pE c n 2 o (p + 1)).2.2.length : Int))) 38) 63 (130 + (k + ((pE c n 2 o (p + 1)).2.2.length : Int))) 0) 50 19 ((k + ((pE c n 2 o (p + 1)).2.2.length : Int)) + 1)) 62 63 (130 + k) (((pE c n 2 o (p + 1)).2.2 ++ [(c p, 0)]).map enc) := by
          rw [List.map_append]
          refine lay_app _ _ _ (lay_keep _ _ (130 + k + ((pE c n 2 o (p + 1)).2.2.length : Int)) hl (by rw [List.length_map]; omega) (fun j hj => ⟨?_, ?_⟩)) ?_
          · exact (zU_n (by decide)).trans ((zU_n (by decide)).trans (zU_x (by omega)))
          · exact (zU_n (by decide)).trans (zU_x (by omega))
          · show lay _ 62 63 _ [enc (c p, 0)]
            rw [enc_b (by omega)]
            refine ⟨⟨?_, ?_⟩, trivial⟩
            · exact ((zU_n (by decide)).trans ((zU_n (by decide)).trans (zU_ex (by rw [List.length_map]; omega)))).trans (show 38 = c p by omega)
            · exact (zU_n (by decide)).trans (zU_ex (by rw [List.length_map]; omega))
        have e1 : k + ((pE c n 2 o (p + 1)).2.2.length : Int) + 1 = k + (((pE c n 2 o (p + 1)).2.2 ++ [(c p, 0)]).length : Int) := by rw [List.length_append, List.length_singleton]; omega
        have hz := ih2 (pE c n 2 o (p + 1)).2.1 (k + (((pE c n 2 o (p + 1)).2.2 ++ [(c p, 0)]).length : Int))  (D + 6) (zU (zU (zU J2 62 (130 + (k + ((pE c n 2 o (p + 1)).2.2.length : Int))) 38) 63 (130 + (k + ((pE c n 2 o (p + 1)).2.2.length : Int))) 0) 50 19 ((k + ((pE c n 2 o (p + 1)).2.2.length : Int)) + 1)) (zK_x (a := 50) (x := 19) (v := (k + ((pE c n 2 o (p + 1)).2.2.length : Int)) + 1) (zK_x (a := 63) (x := 130 + (k + ((pE c n 2 o (p + 1)).2.2.length : Int))) (v := 0) (zK_x (a := 62) (x := 130 + (k + ((pE c n 2 o (p + 1)).2.2.length : Int))) (v := 38) hJ3 rfl) rfl) rfl) ((zU_x (by decide)).trans ((zU_n (by decide)).trans ((zU_n (by decide)).trans (h22)))) ((zU_x (by decide)).trans ((zU_n (by decide)).trans ((zU_n (by decide)).trans (h27)))) ((zU_x (by decide)).trans ((zU_n (by decide)).trans ((zU_n (by decide)).trans (h28)))) (zU_e.trans e1) (by omega) (by omega) (by omega) hD
        rw [pL_t hq ok, show (pE c n 2 o (p + 1)).2.2 ++ (c p, 0) :: (pL (pE c n 2 o) c 1 j (pE c n 2 o (p + 1)).2.1).2.2 = ((pE c n 2 o (p + 1)).2.2 ++ [(c p, 0)]) ++ (pL (pE c n 2 o) c 1 j (pE c n 2 o (p + 1)).2.1).2.2 by rw [List.append_assoc]; rfl]
        exact zW_m hz (fun r6 J6 M6 R6 h => rrc (p := (pE c n 2 o (p + 1)).2.1) (by rw [List.length_append, List.length_singleton]; omega) ((zK_x (a := 50) (x := 19) (v := (k + ((pE c n 2 o (p + 1)).2.2.length : Int)) + 1) (zK_x (a := 63) (x := 130 + (k + ((pE c n 2 o (p + 1)).2.2.length : Int))) (v := 0) (zK_x (a := 62) (x := 130 + (k + ((pE c n 2 o (p + 1)).2.2.length : Int))) (v := 38) hJ2 rfl) rfl) rfl)) (fun j hj => ⟨(zU_n (by decide)).trans ((zU_n (by decide)).trans ((zU_x (by omega)).trans ((hke2 j hj).1))), (zU_n (by decide)).trans ((zU_x (by omega)).trans ((zU_n (by decide)).trans ((hke2 j hj).2)))⟩) hl2 h)
      · show zW _ _ _ _ _ _ _ _ _ _
        refine z_aload rfl rfl ?_
        refine z_pushI (z := 38) rfl rfl ?_
        refine z_pushI (z := 0) rfl rfl ?_
        refine z_callVx (As := [_, _]) rfl rfl rfl (Nat.le_of_ble_eq_true rfl) (Nat.le_of_ble_eq_true rfl) (addStep_k (k := J2 50 19) (s := 38) (v := 0) hR (by omega) (by exact rfl) (by omega)) ?_
        show zW _ _ _ _ _ _ _ _ _ _
        refine z_goto rfl ?_
        show zW _ _ _ _ [some (.ref 50)] [] _ _ _ _
        refine z_aload rfl rfl ?_
        refine z_getI (v := (pE c n 2 o (p + 1)).2.1) rfl rfl ((zU_x (by decide)).trans ((zU_n (by decide)).trans ((zU_n (by decide)).trans (h27)))) ?_
        refine z_if_geT rfl (by omega) (by omega) ?_
        refine z_vret rfl rfl ?_
        rw [pL_f hq ok]
        refine ⟨⟨rfl, (zK_x (a := 50) (x := 19) (v := (J2 50 19) + 1) (zK_x (a := 63) (x := 130 + (J2 50 19)) (v := 0) (zK_x (a := 62) (x := 130 + (J2 50 19)) (v := 38) hJ2 rfl) rfl) rfl), (zU_x (by decide)).trans ((zU_n (by decide)).trans ((zU_n (by decide)).trans (h22))), fun j hj => ⟨(zU_n (by decide)).trans ((zU_n (by decide)).trans ((zU_x (by omega)).trans ((hke2 j hj).1))), (zU_n (by decide)).trans ((zU_x (by omega)).trans ((zU_n (by decide)).trans ((hke2 j hj).2)))⟩, rfl, rfl⟩, Or.inr ⟨ok, (zU_x (by decide)).trans ((zU_n (by decide)).trans ((zU_n (by decide)).trans (h27))), ?_⟩⟩
        rw [zU_e]
        omega
theorem rch1 {X : Nat × (Nat → Int32)} {M : zA} {R : zR} (hR : zRoR R) {A : zA} {c : Int → Int} {f : Int} (hf : A 50 15 = f) (hc : ∀ i, 0 ≤ i → i < f → A 61 i = zb (c i)) (ht : tp c f) {n : Nat} (ih : (∀ (o a k : Int) (D : Nat) (J : zA), pK n 2 o → zK (kL [62, 63] [(50, 16), (50, 17), (50, 18), (50, 19)]) A J → J 50 16 = a → J 50 17 = -1 → J 50 18 = o → J 50 19 = k → (0 ≤ a ∧ a ≤ f) → (0 ≤ k ∧ k ≤ a) → n + 8 ≤ D → zW X D 174 0 (gEn 174 [.ref 50]) [] J M R (rr c k o a (pE c n 2 o a) J M R))) : (∀ (o a k : Int) (D : Nat) (J : zA), pK (n + 1) 1 o → zK (kL [62, 63] [(50, 16), (50, 17), (50, 18), (50, 19)]) A J → J 50 16 = a → J 50 17 = -1 → J 50 18 = o → J 50 19 = k → (0 ≤ a ∧ a ≤ f) → (0 ≤ k ∧ k ≤ a) → (n + 1) + 8 ≤ D → zW X D 175 0 (gEn 175 [.ref 50]) [] J M R (rr c k o a (pE c (n + 1) 1 o a) J M R)) := by
  intro o a k D J hk hJ hat hfa hop hkk ha hk0 hD
  obtain ⟨D, rfl⟩ : ∃ e, D = e + 6 := ⟨D - 6, by omega⟩
  have tf := ht.1
  show zW _ _ _ _ [some (.ref 50)] _ _ _ _ _
  refine z_aload rfl rfl ?_
  have gx := (pE_g ht n 2 o a (by omega) ha).1
  have gl : (pE c n 2 o a).1 = true → (a < (pE c n 2 o a).2.1 ∧ ((pE c n 2 o a).2.2.length : Int) ≤ (pE c n 2 o a).2.1 - a) := fun t => ⟨((pE_g ht n 2 o a (by omega) ha).2 t).1.1, ((pE_g ht n 2 o a (by omega) ha).2 t).1.2.1⟩
  refine z_callV (As := []) _ rfl rfl rfl (Nat.le_of_ble_eq_true rfl) (Nat.le_of_ble_eq_true rfl) (ih o a k _ _ (by omega) hJ hat hfa hop hkk ha hk0 (by omega)) (fun r J2 M2 R2 hr => ?_)
  obtain ⟨⟨rfl, hk2, h22, hke, eM, eR⟩, hr⟩ := hr
  obtain rfl : M = M2 := eM.symm
  obtain rfl : R = R2 := eR.symm
  have hJ2 : zK (kL [62, 63] [(50, 16), (50, 17), (50, 18), (50, 19)]) J J2 := zK_t zK_r hk2
  have hJ3 : zK (kL [62, 63] [(50, 16), (50, 17), (50, 18), (50, 19)]) A J2 := zK_t hJ hJ2
  have hb0 : ∀ j, j < 130 + (k) → J 62 j = J 62 j ∧ J 63 j = J 63 j := fun j hj => ⟨rfl, rfl⟩
  have hke2 : ∀ j, j < 130 + (k) → J2 62 j = J 62 j ∧ J2 63 j = J 63 j := fun j hj => ⟨(hke j hj).1.trans (hb0 j hj).1, (hke j hj).2.trans (hb0 j hj).2⟩
  rcases hr with ⟨ok, h27, h28, h29, hl⟩ | ⟨ok, h27, h29⟩
  · show zW _ _ _ _ _ _ _ _ _ _
    have gl2 := gl ok
    show zW _ _ _ _ [some (.ref 50)] [] _ _ _ _
    rw [pE_t (by decide) ok]
    have gl2 := gl ok
    have hz := rlp1 (X := X) (M := M) hR hf hc ht ih hk (pM 1) (pE c n 2 o a).2.1 (k + ((pE c n 2 o a).2.2.length : Int))  (D + 6) J2 hJ3 h22 h27 h28 h29 (by omega) (by omega) (by show 120 ≤ (pE c n 2 o a).2.1 + ((120 : Nat) : Int); omega) hD
    exact zW_m hz (fun r6 J6 M6 R6 h => rrc (l := (pE c n 2 o a).2.2) (p := (pE c n 2 o a).2.1) (show ((pE c n 2 o a).2.2.length : Int) ≤ (pE c n 2 o a).2.1 - a by omega) hJ2 hke2 hl h)
  · show zW _ _ _ _ _ _ _ _ _ _
    refine z_aload rfl rfl ?_
    refine z_getI (v := (pE c n 2 o a).2.1) rfl rfl (h27) ?_
    refine z_if_geT rfl (by omega) (by omega) ?_
    refine z_vret rfl rfl ?_
    rw [pE_f (by decide) ok]
    exact ⟨⟨rfl, hJ2, h22, hke2, rfl, rfl⟩, Or.inr ⟨ok, h27, h29⟩⟩
theorem rlp0 {X : Nat × (Nat → Int32)} {M : zA} {R : zR} (hR : zRoR R) {A : zA} {c : Int → Int} {f : Int} (hf : A 50 15 = f) (hc : ∀ i, 0 ≤ i → i < f → A 61 i = zb (c i)) (ht : tp c f) {n : Nat} (ih : (∀ (o a k : Int) (D : Nat) (J : zA), pK n 1 o → zK (kL [62, 63] [(50, 16), (50, 17), (50, 18), (50, 19)]) A J → J 50 16 = a → J 50 17 = -1 → J 50 18 = o → J 50 19 = k → (0 ≤ a ∧ a ≤ f) → (0 ≤ k ∧ k ≤ a) → n + 8 ≤ D → zW X D 175 0 (gEn 175 [.ref 50]) [] J M R (rr c k o a (pE c n 1 o a) J M R))) {o : Int} (hkr : pK (n + 1) 0 o) : ∀ (m : Nat) (p k : Int) (D : Nat) (J : zA), zK (kL [62, 63] [(50, 16), (50, 17), (50, 18), (50, 19)]) A J → J 50 16 = p → J 50 17 = -1 → J 50 18 = o → J 50 19 = k → (0 ≤ p ∧ p ≤ f) → (0 ≤ k ∧ k ≤ p) → 120 ≤ p + m → n + 9 ≤ D → zW X D 176 4 [some (.ref 50)] [] J M R (rr c k o p (pL (pE c n 1 o) c 0 m p) J M R) := by
  intro m
  induction m with
  | zero =>
    intro p k D J hJ hat hfa hop hkk hp hk0 hpm hD
    obtain ⟨D, rfl⟩ : ∃ e, D = e + 6 := ⟨D - 6, by omega⟩
    have tf := ht.1
    have cp := ht.2.2 p (by omega)
    have lp : lo (c (p)) = -1 := by rw [cp]; rfl
    show zW _ _ _ _ [some (.ref 50)] _ _ _ _ _
    refine z_aload rfl rfl ?_
    refine z_getI (v := (-1)) rfl rfl (hfa) ?_
    refine z_if_geF rfl (by decide) (by decide) ?_
    refine z_aload rfl rfl ?_
    refine z_callVP (As := []) (v := lo (c (p))) rfl rfl rfl (Nat.le_of_ble_eq_true rfl) (Nat.le_of_ble_eq_true rfl) (look_k hR hf hc ht hJ hat (by omega)) ?_
    refine z_pushI (z := 124) rfl rfl ?_
    refine z_icmp_neT rfl (by omega) (by decide) (by omega) ?_
    refine z_vret rfl rfl ?_
    exact ⟨⟨rfl, zK_r, hat, fun j _ => ⟨rfl, rfl⟩, rfl, rfl⟩, Or.inl ⟨rfl, hfa, hop, hkk.trans (by show k = k + ((0 : Nat) : Int); omega), trivial⟩⟩
  | succ j ih2 =>
    intro p k D J hJ hat hfa hop hkk hp hk0 hpm hD
    obtain ⟨D, rfl⟩ : ∃ e, D = e + 6 := ⟨D - 6, by omega⟩
    have tf := ht.1
    show zW _ _ _ _ [some (.ref 50)] _ _ _ _ _
    refine z_aload rfl rfl ?_
    refine z_getI (v := (-1)) rfl rfl (hfa) ?_
    refine z_if_geF rfl (by decide) (by decide) ?_
    refine z_aload rfl rfl ?_
    refine z_callVP (As := []) (v := lo (c (p))) rfl rfl rfl (Nat.le_of_ble_eq_true rfl) (Nat.le_of_ble_eq_true rfl) (look_k hR hf hc ht hJ (by exact hat) (by omega)) ?_
    have q1 := tp_r ht (p) (by omega)
    have q2 := lo_r (c (p))
    refine z_pushI (z := 124) rfl rfl ?_
    refine z_icmp_ne rfl (by omega) (by decide) (fun h3 => ?_) (fun h3 => ?_)
    · refine z_vret rfl rfl ?_
      rw [pL_n (show ¬ rk (c p) = 0 by unfold rk; (repeat' split) <;> omega)]
      exact ⟨⟨rfl, zK_r, hat, fun j _ => ⟨rfl, rfl⟩, rfl, rfl⟩, Or.inl ⟨rfl, hfa, hop, hkk.trans (by show k = k + ((0 : Nat) : Int); omega), trivial⟩⟩
    · refine z_aload rfl rfl ?_
      refine z_dup rfl rfl ?_
      refine z_getI (v := p) rfl rfl (hat) ?_
      refine z_pushI (z := 1) rfl rfl ?_
      refine z_iadd (e := p + 1) rfl rfl ?_
      refine z_putI (y := 16) rfl rfl rfl ?_
      refine z_aload rfl rfl ?_
      have hq : rk (c p) = 0 := by unfold rk; (repeat' split) <;> omega
      have ha2 := tp_lt ht (rk_n (s := c p) (by omega)).1
      have rb := rk_b (s := c p) (by omega)
      have gx := (pE_g ht n 1 o (p + 1) (by omega) (by omega)).1
      have gl : (pE c n 1 o (p + 1)).1 = true → (p + 1 < (pE c n 1 o (p + 1)).2.1 ∧ ((pE c n 1 o (p + 1)).2.2.length : Int) ≤ (pE c n 1 o (p + 1)).2.1 - (p + 1)) := fun t => ⟨((pE_g ht n 1 o (p + 1) (by omega) (by omega)).2 t).1.1, ((pE_g ht n 1 o (p + 1) (by omega) (by omega)).2 t).1.2.1⟩
      refine z_callV (As := []) _ rfl rfl rfl (Nat.le_of_ble_eq_true rfl) (Nat.le_of_ble_eq_true rfl) (ih o (p + 1) k _ _ (by omega) (zK_x (a := 50) (x := 16) (v := p + 1) hJ rfl) (by exact zU_e) (by exact (zU_x (by decide)).trans (hfa)) (by exact (zU_x (by decide)).trans (hop)) (by exact (zU_x (by decide)).trans (hkk)) (by omega) (by omega) (by omega)) (fun r J2 M2 R2 hr => ?_)
      obtain ⟨⟨rfl, hk2, h22, hke, eM, eR⟩, hr⟩ := hr
      obtain rfl : M = M2 := eM.symm
      obtain rfl : R = R2 := eR.symm
      have hJ2 : zK (kL [62, 63] [(50, 16), (50, 17), (50, 18), (50, 19)]) J J2 := zK_t (zK_x (a := 50) (x := 16) (v := p + 1) zK_r rfl) hk2
      have hJ3 : zK (kL [62, 63] [(50, 16), (50, 17), (50, 18), (50, 19)]) A J2 := zK_t hJ hJ2
      have hb0 : ∀ j, j < 130 + (k) → (zU J 50 16 (p + 1)) 62 j = J 62 j ∧ (zU J 50 16 (p + 1)) 63 j = J 63 j := fun j hj => ⟨(zU_n (by decide)).trans (rfl), (zU_n (by decide)).trans (rfl)⟩
      have hke2 : ∀ j, j < 130 + (k) → J2 62 j = J 62 j ∧ J2 63 j = J 63 j := fun j hj => ⟨(hke j hj).1.trans (hb0 j hj).1, (hke j hj).2.trans (hb0 j hj).2⟩
      rcases hr with ⟨ok, h27, h28, h29, hl⟩ | ⟨ok, h27, h29⟩
      · show zW _ _ _ _ _ _ _ _ _ _
        have gl2 := gl ok
        refine z_aload rfl rfl ?_
        refine z_pushI (z := 124) rfl rfl ?_
        refine z_pushI (z := 0) rfl rfl ?_
        refine z_callVx (As := [_, _]) rfl rfl rfl (Nat.le_of_ble_eq_true rfl) (Nat.le_of_ble_eq_true rfl) (addStep_k (k := k + ((pE c n 1 o (p + 1)).2.2.length : Int)) (s := 124) (v := 0) hR (by omega) (by exact h29) (by omega)) ?_
        show zW _ _ _ _ _ _ _ _ _ _
        refine z_goto rfl ?_
        show zW _ _ _ _ [some (.ref 50)] [] _ _ _ _
        have gl2 := gl ok
        have hl2 : lay (zU (zU (zU J2 62 (130 + (k + ((pE c n 1 o (p + 1)).2.2.length : Int))) 124) 63 (130 + (k + ((pE c n 1 o (p + 1)).2.2.length : Int))) 0) 50 19 ((k + ((pE c n 1 o (p + 1)).2.2.length : Int)) + 1)) 62 63 (130 + k) (((pE c n 1 o (p + 1)).2.2 ++ [(c p, 0)]).map enc) := by
          rw [List.map_append]
          refine lay_app _ _ _ (lay_keep _ _ (130 + k + ((pE c n 1 o (p + 1)).2.2.length : Int)) hl (by rw [List.length_map]; omega) (fun j hj => ⟨?_, ?_⟩)) ?_
          · exact (zU_n (by decide)).trans ((zU_n (by decide)).trans (zU_x (by omega)))
          · exact (zU_n (by decide)).trans (zU_x (by omega))
          · show lay _ 62 63 _ [enc (c p, 0)]
            rw [enc_b (by omega)]
            refine ⟨⟨?_, ?_⟩, trivial⟩
            · exact ((zU_n (by decide)).trans ((zU_n (by decide)).trans (zU_ex (by rw [List.length_map]; omega)))).trans (show 124 = c p by omega)
            · exact (zU_n (by decide)).trans (zU_ex (by rw [List.length_map]; omega))
        have e1 : k + ((pE c n 1 o (p + 1)).2.2.length : Int) + 1 = k + (((pE c n 1 o (p + 1)).2.2 ++ [(c p, 0)]).length : Int) := by rw [List.length_append, List.length_singleton]; omega
        have hz := ih2 (pE c n 1 o (p + 1)).2.1 (k + (((pE c n 1 o (p + 1)).2.2 ++ [(c p, 0)]).length : Int))  (D + 6) (zU (zU (zU J2 62 (130 + (k + ((pE c n 1 o (p + 1)).2.2.length : Int))) 124) 63 (130 + (k + ((pE c n 1 o (p + 1)).2.2.length : Int))) 0) 50 19 ((k + ((pE c n 1 o (p + 1)).2.2.length : Int)) + 1)) (zK_x (a := 50) (x := 19) (v := (k + ((pE c n 1 o (p + 1)).2.2.length : Int)) + 1) (zK_x (a := 63) (x := 130 + (k + ((pE c n 1 o (p + 1)).2.2.length : Int))) (v := 0) (zK_x (a := 62) (x := 130 + (k + ((pE c n 1 o (p + 1)).2.2.length : Int))) (v := 124) hJ3 rfl) rfl) rfl) ((zU_x (by decide)).trans ((zU_n (by decide)).trans ((zU_n (by decide)).trans (h22)))) ((zU_x (by decide)).trans ((zU_n (by decide)).trans ((zU_n (by decide)).trans (h27)))) ((zU_x (by decide)).trans ((zU_n (by decide)).trans ((zU_n (by decide)).trans (h28)))) (zU_e.trans e1) (by omega) (by omega) (by omega) hD
        rw [pL_t hq ok, show (pE c n 1 o (p + 1)).2.2 ++ (c p, 0) :: (pL (pE c n 1 o) c 0 j (pE c n 1 o (p + 1)).2.1).2.2 = ((pE c n 1 o (p + 1)).2.2 ++ [(c p, 0)]) ++ (pL (pE c n 1 o) c 0 j (pE c n 1 o (p + 1)).2.1).2.2 by rw [List.append_assoc]; rfl]
        exact zW_m hz (fun r6 J6 M6 R6 h => rrc (p := (pE c n 1 o (p + 1)).2.1) (by rw [List.length_append, List.length_singleton]; omega) ((zK_x (a := 50) (x := 19) (v := (k + ((pE c n 1 o (p + 1)).2.2.length : Int)) + 1) (zK_x (a := 63) (x := 130 + (k + ((pE c n 1 o (p + 1)).2.2.length : Int))) (v := 0) (zK_x (a := 62) (x := 130 + (k + ((pE c n 1 o (p + 1)).2.2.length : Int))) (v := 124) hJ2 rfl) rfl) rfl)) (fun j hj => ⟨(zU_n (by decide)).trans ((zU_n (by decide)).trans ((zU_x (by omega)).trans ((hke2 j hj).1))), (zU_n (by decide)).trans ((zU_x (by omega)).trans ((zU_n (by decide)).trans ((hke2 j hj).2)))⟩) hl2 h)
      · show zW _ _ _ _ _ _ _ _ _ _
        refine z_aload rfl rfl ?_
        refine z_pushI (z := 124) rfl rfl ?_
        refine z_pushI (z := 0) rfl rfl ?_
        refine z_callVx (As := [_, _]) rfl rfl rfl (Nat.le_of_ble_eq_true rfl) (Nat.le_of_ble_eq_true rfl) (addStep_k (k := J2 50 19) (s := 124) (v := 0) hR (by omega) (by exact rfl) (by omega)) ?_
        show zW _ _ _ _ _ _ _ _ _ _
        refine z_goto rfl ?_
        show zW _ _ _ _ [some (.ref 50)] [] _ _ _ _
        refine z_aload rfl rfl ?_
        refine z_getI (v := (pE c n 1 o (p + 1)).2.1) rfl rfl ((zU_x (by decide)).trans ((zU_n (by decide)).trans ((zU_n (by decide)).trans (h27)))) ?_
        refine z_if_geT rfl (by omega) (by omega) ?_
        refine z_vret rfl rfl ?_
        rw [pL_f hq ok]
        refine ⟨⟨rfl, (zK_x (a := 50) (x := 19) (v := (J2 50 19) + 1) (zK_x (a := 63) (x := 130 + (J2 50 19)) (v := 0) (zK_x (a := 62) (x := 130 + (J2 50 19)) (v := 124) hJ2 rfl) rfl) rfl), (zU_x (by decide)).trans ((zU_n (by decide)).trans ((zU_n (by decide)).trans (h22))), fun j hj => ⟨(zU_n (by decide)).trans ((zU_n (by decide)).trans ((zU_x (by omega)).trans ((hke2 j hj).1))), (zU_n (by decide)).trans ((zU_x (by omega)).trans ((zU_n (by decide)).trans ((hke2 j hj).2)))⟩, rfl, rfl⟩, Or.inr ⟨ok, (zU_x (by decide)).trans ((zU_n (by decide)).trans ((zU_n (by decide)).trans (h27))), ?_⟩⟩
        rw [zU_e]
        omega
theorem rch0 {X : Nat × (Nat → Int32)} {M : zA} {R : zR} (hR : zRoR R) {A : zA} {c : Int → Int} {f : Int} (hf : A 50 15 = f) (hc : ∀ i, 0 ≤ i → i < f → A 61 i = zb (c i)) (ht : tp c f) {n : Nat} (ih : (∀ (o a k : Int) (D : Nat) (J : zA), pK n 1 o → zK (kL [62, 63] [(50, 16), (50, 17), (50, 18), (50, 19)]) A J → J 50 16 = a → J 50 17 = -1 → J 50 18 = o → J 50 19 = k → (0 ≤ a ∧ a ≤ f) → (0 ≤ k ∧ k ≤ a) → n + 8 ≤ D → zW X D 175 0 (gEn 175 [.ref 50]) [] J M R (rr c k o a (pE c n 1 o a) J M R))) : (∀ (o a k : Int) (D : Nat) (J : zA), pK (n + 1) 0 o → zK (kL [62, 63] [(50, 16), (50, 17), (50, 18), (50, 19)]) A J → J 50 16 = a → J 50 17 = -1 → J 50 18 = o → J 50 19 = k → (0 ≤ a ∧ a ≤ f) → (0 ≤ k ∧ k ≤ a) → (n + 1) + 8 ≤ D → zW X D 176 0 (gEn 176 [.ref 50]) [] J M R (rr c k o a (pE c (n + 1) 0 o a) J M R)) := by
  intro o a k D J hk hJ hat hfa hop hkk ha hk0 hD
  obtain ⟨D, rfl⟩ : ∃ e, D = e + 6 := ⟨D - 6, by omega⟩
  have tf := ht.1
  show zW _ _ _ _ [some (.ref 50)] _ _ _ _ _
  refine z_aload rfl rfl ?_
  have gx := (pE_g ht n 1 o a (by omega) ha).1
  have gl : (pE c n 1 o a).1 = true → (a < (pE c n 1 o a).2.1 ∧ ((pE c n 1 o a).2.2.length : Int) ≤ (pE c n 1 o a).2.1 - a) := fun t => ⟨((pE_g ht n 1 o a (by omega) ha).2 t).1.1, ((pE_g ht n 1 o a (by omega) ha).2 t).1.2.1⟩
  refine z_callV (As := []) _ rfl rfl rfl (Nat.le_of_ble_eq_true rfl) (Nat.le_of_ble_eq_true rfl) (ih o a k _ _ (by omega) hJ hat hfa hop hkk ha hk0 (by omega)) (fun r J2 M2 R2 hr => ?_)
  obtain ⟨⟨rfl, hk2, h22, hke, eM, eR⟩, hr⟩ := hr
  obtain rfl : M = M2 := eM.symm
  obtain rfl : R = R2 := eR.symm
  have hJ2 : zK (kL [62, 63] [(50, 16), (50, 17), (50, 18), (50, 19)]) J J2 := zK_t zK_r hk2
  have hJ3 : zK (kL [62, 63] [(50, 16), (50, 17), (50, 18), (50, 19)]) A J2 := zK_t hJ hJ2
  have hb0 : ∀ j, j < 130 + (k) → J 62 j = J 62 j ∧ J 63 j = J 63 j := fun j hj => ⟨rfl, rfl⟩
  have hke2 : ∀ j, j < 130 + (k) → J2 62 j = J 62 j ∧ J2 63 j = J 63 j := fun j hj => ⟨(hke j hj).1.trans (hb0 j hj).1, (hke j hj).2.trans (hb0 j hj).2⟩
  rcases hr with ⟨ok, h27, h28, h29, hl⟩ | ⟨ok, h27, h29⟩
  · show zW _ _ _ _ _ _ _ _ _ _
    have gl2 := gl ok
    show zW _ _ _ _ [some (.ref 50)] [] _ _ _ _
    rw [pE_t (by decide) ok]
    have gl2 := gl ok
    have hz := rlp0 (X := X) (M := M) hR hf hc ht ih hk (pM 0) (pE c n 1 o a).2.1 (k + ((pE c n 1 o a).2.2.length : Int))  (D + 6) J2 hJ3 h22 h27 h28 h29 (by omega) (by omega) (by show 120 ≤ (pE c n 1 o a).2.1 + ((120 : Nat) : Int); omega) hD
    exact zW_m hz (fun r6 J6 M6 R6 h => rrc (l := (pE c n 1 o a).2.2) (p := (pE c n 1 o a).2.1) (show ((pE c n 1 o a).2.2.length : Int) ≤ (pE c n 1 o a).2.1 - a by omega) hJ2 hke2 hl h)
  · show zW _ _ _ _ _ _ _ _ _ _
    refine z_aload rfl rfl ?_
    refine z_getI (v := (pE c n 1 o a).2.1) rfl rfl (h27) ?_
    refine z_if_geT rfl (by omega) (by omega) ?_
    refine z_vret rfl rfl ?_
    rw [pE_f (by decide) ok]
    exact ⟨⟨rfl, hJ2, h22, hke2, rfl, rfl⟩, Or.inr ⟨ok, h27, h29⟩⟩
theorem rdRef {X : Nat × (Nat → Int32)} {M : zA} {R : zR} (hR : zRoR R) {A : zA} {c : Int → Int} {f : Int} (hf : A 50 15 = f) (hc : ∀ i, 0 ≤ i → i < f → A 61 i = zb (c i)) (ht : tp c f) : ∀ n : Nat, (∀ (o a k : Int) (D : Nat) (J : zA), pK n 5 o → zK (kL [62, 63] [(50, 16), (50, 17), (50, 18), (50, 19)]) A J → J 50 16 = a → J 50 17 = -1 → J 50 18 = o → J 50 19 = k → (0 ≤ a ∧ a ≤ f) → (0 ≤ k ∧ k ≤ a) → n + 8 ≤ D → zW X D 171 0 (gEn 171 [.ref 50]) [] J M R (rr c k o a (pE c n 5 o a) J M R)) ∧ (∀ (o a k : Int) (D : Nat) (J : zA), pK n 4 o → zK (kL [62, 63] [(50, 16), (50, 17), (50, 18), (50, 19)]) A J → J 50 16 = a → J 50 17 = -1 → J 50 18 = o → J 50 19 = k → (0 ≤ a ∧ a ≤ f) → (0 ≤ k ∧ k ≤ a) → n + 8 ≤ D → zW X D 172 0 (gEn 172 [.ref 50]) [] J M R (rr c k o a (pE c n 4 o a) J M R)) ∧ (∀ (o a k : Int) (D : Nat) (J : zA), pK n 3 o → zK (kL [62, 63] [(50, 16), (50, 17), (50, 18), (50, 19)]) A J → J 50 16 = a → J 50 17 = -1 → J 50 18 = o → J 50 19 = k → (0 ≤ a ∧ a ≤ f) → (0 ≤ k ∧ k ≤ a) → n + 8 ≤ D → zW X D 173 0 (gEn 173 [.ref 50]) [] J M R (rr c k o a (pE c n 3 o a) J M R)) ∧ (∀ (o a k : Int) (D : Nat) (J : zA), pK n 2 o → zK (kL [62, 63] [(50, 16), (50, 17), (50, 18), (50, 19)]) A J → J 50 16 = a → J 50 17 = -1 → J 50 18 = o → J 50 19 = k → (0 ≤ a ∧ a ≤ f) → (0 ≤ k ∧ k ≤ a) → n + 8 ≤ D → zW X D 174 0 (gEn 174 [.ref 50]) [] J M R (rr c k o a (pE c n 2 o a) J M R)) ∧ (∀ (o a k : Int) (D : Nat) (J : zA), pK n 1 o → zK (kL [62, 63] [(50, 16), (50, 17), (50, 18), (50, 19)]) A J → J 50 16 = a → J 50 17 = -1 → J 50 18 = o → J 50 19 = k → (0 ≤ a ∧ a ≤ f) → (0 ≤ k ∧ k ≤ a) → n + 8 ≤ D → zW X D 175 0 (gEn 175 [.ref 50]) [] J M R (rr c k o a (pE c n 1 o a) J M R)) ∧ (∀ (o a k : Int) (D : Nat) (J : zA), pK n 0 o → zK (kL [62, 63] [(50, 16), (50, 17), (50, 18), (50, 19)]) A J → J 50 16 = a → J 50 17 = -1 → J 50 18 = o → J 50 19 = k → (0 ≤ a ∧ a ≤ f) → (0 ≤ k ∧ k ≤ a) → n + 8 ≤ D → zW X D 176 0 (gEn 176 [.ref 50]) [] J M R (rr c k o a (pE c n 0 o a) J M R)) := by
  intro n
  induction n with
  | zero =>
    refine ⟨?_, ?_, ?_, ?_, ?_, ?_⟩ <;> (intro o a k D J hk; exfalso; omega)
  | succ n ih =>
    obtain ⟨h5, h4, h3, h2, h1, h0⟩ := ih
    exact ⟨rop hR hf hc ht h5 h0, rch4 hR hf hc ht h5, rch3 hR hf hc ht h4, rch2 hR hf hc ht h3, rch1 hR hf hc ht h2, rch0 hR hf hc ht h1⟩
