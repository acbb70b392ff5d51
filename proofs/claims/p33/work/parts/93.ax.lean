theorem st_giveUp_n {X : Nat × (Nat → Int32)} {d : Nat} {J M : zA} {R : zR} {s v q : Int} (hr : Rel X J M R) (hs : -2147483648 ≤ s ∧ s < 2147483648) (hv : -2147483648 ≤ v ∧ v < 2147483648) (hq : -2147483648 ≤ q ∧ q < 2147483648) (hs6 : ¬ (0 ≤ s ∧ s < 6)) : zW X (d + 20) 115 0 (gEn 115 [(.ref 0), (zi s), (zi v), (zi q)]) [] J M R (stP X (d + 20) 207 [(zi s), (zi v), (zi q)]) := by
  have hr0 := hr
  obtain ⟨hR, hG, hY, hD, hP, hC, hAc, hS, hTp, hX, hW⟩ := hr0
  have hRr : zRoR R := zRoR_of hR
  have hY0 := hY
  obtain ⟨y1, y2, y3⟩ := hY0
  have yn := zNn y3
  show zW _ _ _ _ [some (.ref 0), some (zi s), some (zi v), some (zi q), none, none, none, none, none, none] _ _ _ _ _
  refine z_iload rfl rfl ?_
  refine z_callSi (As := [_]) (le := [some _]) rfl rfl (Nat.le_of_ble_eq_true rfl) (Nat.le_of_ble_eq_true rfl) rfl ?_
  refine z_iload rfl rfl ?_
  refine z_if_lt rfl (by omega) (fun h1 => ?_) (fun h1 => ?_)
  · refine z_pushI (z := 0) rfl rfl ?_
    refine z_bret rfl rfl (by decide) ?_
    show zW _ _ _ _ _ _ _ _ _ _
    refine z_if_eqT rfl (by decide) (by decide) ?_
    refine z_pushI (z := (-1)) rfl rfl ?_
    refine z_iret rfl rfl ?_
    refine ⟨_, rfl, ?_⟩
    show zW _ _ _ _ [some (.ref 50), some (zi s), some (zi v), some (zi q), none, none, none, none, none] _ _ _ _ _
    refine z_iload rfl rfl ?_
    refine z_callSi (As := [_]) (le := [some _]) rfl rfl (Nat.le_of_ble_eq_true rfl) (Nat.le_of_ble_eq_true rfl) rfl ?_
    refine z_iload rfl rfl ?_
    refine z_pushI (z := 0) rfl rfl ?_
    refine z_pushI (z := 5) rfl rfl ?_
    refine z_callSi (As := [_, _, _]) (le := [some _, some _, some _]) rfl rfl (Nat.le_of_ble_eq_true rfl) (Nat.le_of_ble_eq_true rfl) rfl ?_
    refine z_iload rfl rfl ?_
    refine z_iload rfl rfl ?_
    refine z_icmp_ltT rfl (by omega) (by decide) (by omega) ?_
    refine z_pushI (z := 0) rfl rfl ?_
    refine z_bret rfl rfl (by decide) ?_
    show zW _ _ _ _ _ _ _ _ _ _
    refine z_bret rfl rfl (by decide) ?_
    show zW _ _ _ _ _ _ _ _ _ _
    refine z_if_eqT rfl (by decide) (by decide) ?_
    refine z_pushI (z := (-1)) rfl rfl ?_
    refine z_iret rfl rfl ?_
    refine ⟨?_, ?_⟩
    · first | rfl | exact congrArg (fun v => some (zi v)) (by omega) | (exfalso; omega)
    · exact hr
  · refine z_iload rfl rfl ?_
    refine z_pushI (z := 6) rfl rfl ?_
    refine z_icmp_geT rfl (by omega) (by decide) (by omega) ?_
    refine z_pushI (z := 0) rfl rfl ?_
    refine z_bret rfl rfl (by decide) ?_
    show zW _ _ _ _ _ _ _ _ _ _
    refine z_if_eqT rfl (by decide) (by decide) ?_
    refine z_pushI (z := (-1)) rfl rfl ?_
    refine z_iret rfl rfl ?_
    refine ⟨_, rfl, ?_⟩
    show zW _ _ _ _ [some (.ref 50), some (zi s), some (zi v), some (zi q), none, none, none, none, none] _ _ _ _ _
    refine z_iload rfl rfl ?_
    refine z_callSi (As := [_]) (le := [some _]) rfl rfl (Nat.le_of_ble_eq_true rfl) (Nat.le_of_ble_eq_true rfl) rfl ?_
    refine z_iload rfl rfl ?_
    refine z_pushI (z := 0) rfl rfl ?_
    refine z_pushI (z := 5) rfl rfl ?_
    refine z_callSi (As := [_, _, _]) (le := [some _, some _, some _]) rfl rfl (Nat.le_of_ble_eq_true rfl) (Nat.le_of_ble_eq_true rfl) rfl ?_
    refine z_iload rfl rfl ?_
    refine z_iload rfl rfl ?_
    refine z_icmp_ltF rfl (by omega) (by decide) (by omega) ?_
    refine z_iload rfl rfl ?_
    refine z_iload rfl rfl ?_
    refine z_icmp_gtT rfl (by omega) (by decide) (by omega) ?_
    refine z_pushI (z := 0) rfl rfl ?_
    refine z_bret rfl rfl (by decide) ?_
    show zW _ _ _ _ _ _ _ _ _ _
    refine z_bret rfl rfl (by decide) ?_
    show zW _ _ _ _ _ _ _ _ _ _
    refine z_if_eqT rfl (by decide) (by decide) ?_
    refine z_pushI (z := (-1)) rfl rfl ?_
    refine z_iret rfl rfl ?_
    refine ⟨?_, ?_⟩
    · first | rfl | exact congrArg (fun v => some (zi v)) (by omega) | (exfalso; omega)
    · exact hr
theorem st_giveUp_0 {X : Nat × (Nat → Int32)} {d : Nat} {J M : zA} {R : zR} {s v q : Int} (hr : Rel X J M R) (hs : -2147483648 ≤ s ∧ s < 2147483648) (hv : -2147483648 ≤ v ∧ v < 2147483648) (hq : -2147483648 ≤ q ∧ q < 2147483648) (hs6 : 0 ≤ s ∧ s < 6) (hh : J (38 + 2 * s.toNat) 0 = 0) : zW X (d + 20) 115 0 (gEn 115 [(.ref 0), (zi s), (zi v), (zi q)]) [] J M R (stP X (d + 20) 207 [(zi s), (zi v), (zi q)]) := by
  have hr0 := hr
  obtain ⟨hR, hG, hY, hD, hP, hC, hAc, hS, hTp, hX, hW⟩ := hr0
  have hRr : zRoR R := zRoR_of hR
  have hY0 := hY
  obtain ⟨y1, y2, y3⟩ := hY0
  have yn := zNn y3
  have hA0 := hAc
  obtain ⟨a1, a2, a3, a4, a5, a6⟩ := hA0
  have e83 : J 83 s = -1 := (hS s hs6.1 hs6.2).1.symm.trans (cH_0 hh)
  have s3 : 0 ≤ J (38 + 2 * s.toNat) 2 ∧ J (38 + 2 * s.toNat) 2 ≤ 4 := (hS s hs6.1 hs6.2).2.2.1
  have s4 : 0 ≤ J (38 + 2 * s.toNat) 3 ∧ J (38 + 2 * s.toNat) 3 ≤ 60 := (hS s hs6.1 hs6.2).2.2.2.1
  show zW _ _ _ _ [some (.ref 0), some (zi s), some (zi v), some (zi q), none, none, none, none, none, none] _ _ _ _ _
  refine z_iload rfl rfl ?_
  refine z_callSi (As := [_]) (le := [some _]) rfl rfl (Nat.le_of_ble_eq_true rfl) (Nat.le_of_ble_eq_true rfl) rfl ?_
  refine z_iload rfl rfl ?_
  refine z_if_ltF rfl (by omega) (by omega) ?_
  refine z_iload rfl rfl ?_
  refine z_pushI (z := 6) rfl rfl ?_
  refine z_icmp_geF rfl (by omega) (by decide) (by omega) ?_
  refine z_pushI (z := 1) rfl rfl ?_
  refine z_goto rfl ?_
  refine z_bret rfl rfl (by decide) ?_
  show zW _ _ _ _ _ _ _ _ _ _
  refine z_if_eqF rfl (by decide) (by decide) ?_
  refine z_iload rfl rfl ?_
  refine z_if_lt rfl (by omega) (fun h1 => ?_) (fun h1 => ?_)
  · refine z_pushI (z := (-1)) rfl rfl ?_
    refine z_iret rfl rfl ?_
    refine ⟨_, rfl, ?_⟩
    show zW _ _ _ _ [some (.ref 50), some (zi s), some (zi v), some (zi q), none, none, none, none, none] _ _ _ _ _
    refine z_iload rfl rfl ?_
    refine z_callSi (As := [_]) (le := [some _]) rfl rfl (Nat.le_of_ble_eq_true rfl) (Nat.le_of_ble_eq_true rfl) rfl ?_
    refine z_iload rfl rfl ?_
    refine z_pushI (z := 0) rfl rfl ?_
    refine z_pushI (z := 5) rfl rfl ?_
    refine z_callSi (As := [_, _, _]) (le := [some _, some _, some _]) rfl rfl (Nat.le_of_ble_eq_true rfl) (Nat.le_of_ble_eq_true rfl) rfl ?_
    refine z_iload rfl rfl ?_
    refine z_iload rfl rfl ?_
    refine z_icmp_ltF rfl (by omega) (by decide) (by omega) ?_
    refine z_iload rfl rfl ?_
    refine z_iload rfl rfl ?_
    refine z_icmp_gtF rfl (by omega) (by decide) (by omega) ?_
    refine z_pushI (z := 1) rfl rfl ?_
    refine z_goto rfl ?_
    refine z_bret rfl rfl (by decide) ?_
    show zW _ _ _ _ _ _ _ _ _ _
    refine z_bret rfl rfl (by decide) ?_
    show zW _ _ _ _ _ _ _ _ _ _
    refine z_if_eqF rfl (by decide) (by decide) ?_
    refine z_iload rfl rfl ?_
    refine z_if_ltT rfl (by omega) (by omega) ?_
    refine z_pushI (z := (-1)) rfl rfl ?_
    refine z_iret rfl rfl ?_
    refine ⟨?_, ?_⟩
    · first | rfl | exact congrArg (fun v => some (zi v)) (by omega) | (exfalso; omega)
    · exact hr
  · refine z_iload rfl rfl ?_
    refine z_pushI (z := 1000000) rfl rfl ?_
    refine z_icmp_ge rfl (by omega) (by decide) (fun h2 => ?_) (fun h2 => ?_)
    · refine z_pushI (z := (-1)) rfl rfl ?_
      refine z_iret rfl rfl ?_
      refine ⟨_, rfl, ?_⟩
      show zW _ _ _ _ [some (.ref 50), some (zi s), some (zi v), some (zi q), none, none, none, none, none] _ _ _ _ _
      refine z_iload rfl rfl ?_
      refine z_callSi (As := [_]) (le := [some _]) rfl rfl (Nat.le_of_ble_eq_true rfl) (Nat.le_of_ble_eq_true rfl) rfl ?_
      refine z_iload rfl rfl ?_
      refine z_pushI (z := 0) rfl rfl ?_
      refine z_pushI (z := 5) rfl rfl ?_
      refine z_callSi (As := [_, _, _]) (le := [some _, some _, some _]) rfl rfl (Nat.le_of_ble_eq_true rfl) (Nat.le_of_ble_eq_true rfl) rfl ?_
      refine z_iload rfl rfl ?_
      refine z_iload rfl rfl ?_
      refine z_icmp_ltF rfl (by omega) (by decide) (by omega) ?_
      refine z_iload rfl rfl ?_
      refine z_iload rfl rfl ?_
      refine z_icmp_gtF rfl (by omega) (by decide) (by omega) ?_
      refine z_pushI (z := 1) rfl rfl ?_
      refine z_goto rfl ?_
      refine z_bret rfl rfl (by decide) ?_
      show zW _ _ _ _ _ _ _ _ _ _
      refine z_bret rfl rfl (by decide) ?_
      show zW _ _ _ _ _ _ _ _ _ _
      refine z_if_eqF rfl (by decide) (by decide) ?_
      refine z_iload rfl rfl ?_
      refine z_if_ltF rfl (by omega) (by omega) ?_
      refine z_iload rfl rfl ?_
      refine z_pushI (z := 100) rfl rfl ?_
      refine z_idiv (e := v / 100) rfl (by omega) (by omega) rfl ?_
      refine z_pushI (z := 9999) rfl rfl ?_
      refine z_icmp_gt rfl (by omega) (by decide) (fun h3 => ?_) (fun h3 => ?_)
      · refine z_pushI (z := (-1)) rfl rfl ?_
        refine z_iret rfl rfl ?_
        refine ⟨?_, ?_⟩
        · first | rfl | exact congrArg (fun v => some (zi v)) (by omega) | (exfalso; omega)
        · exact hr
      · refine z_iload rfl rfl ?_
        refine z_pushI (z := 0) rfl rfl ?_
        refine z_pushI (z := 1) rfl rfl ?_
        refine z_callSi (As := [_, _, _]) (le := [some _, some _, some _]) rfl rfl (Nat.le_of_ble_eq_true rfl) (Nat.le_of_ble_eq_true rfl) rfl ?_
        refine z_iload rfl rfl ?_
        refine z_iload rfl rfl ?_
        refine z_icmp_lt rfl (by omega) (by decide) (fun h4 => ?_) (fun h4 => ?_)
        · refine z_pushI (z := 0) rfl rfl ?_
          refine z_bret rfl rfl (by decide) ?_
          show zW _ _ _ _ _ _ _ _ _ _
          refine z_if_neF rfl (by decide) (by decide) ?_
          refine z_pushI (z := (-1)) rfl rfl ?_
          refine z_iret rfl rfl ?_
          refine ⟨?_, ?_⟩
          · first | rfl | exact congrArg (fun v => some (zi v)) (by omega) | (exfalso; omega)
          · exact hr
        · refine z_iload rfl rfl ?_
          refine z_iload rfl rfl ?_
          refine z_icmp_gt rfl (by omega) (by decide) (fun h5 => ?_) (fun h5 => ?_)
          · refine z_pushI (z := 0) rfl rfl ?_
            refine z_bret rfl rfl (by decide) ?_
            show zW _ _ _ _ _ _ _ _ _ _
            refine z_if_neF rfl (by decide) (by decide) ?_
            refine z_pushI (z := (-1)) rfl rfl ?_
            refine z_iret rfl rfl ?_
            refine ⟨?_, ?_⟩
            · first | rfl | exact congrArg (fun v => some (zi v)) (by omega) | (exfalso; omega)
            · exact hr
          · refine z_pushI (z := 1) rfl rfl ?_
            refine z_goto rfl ?_
            refine z_bret rfl rfl (by decide) ?_
            show zW _ _ _ _ _ _ _ _ _ _
            refine z_if_neT rfl (by decide) (by decide) ?_
            refine z_aload rfl rfl ?_
            refine z_iload rfl rfl ?_
            refine z_callVi (As := [_]) (le := [some _, some _]) rfl rfl rfl (Nat.le_of_ble_eq_true rfl) (Nat.le_of_ble_eq_true rfl) rfl ?_
            refine z_aload rfl rfl ?_
            refine z_getR (r := 83) rfl rfl (hRr _ rm_50_58 (by decide)) ?_
            refine z_iload rfl rfl ?_
            refine z_iald (v := (-1)) rfl rfl (by decide) (by omega) (e83) ?_
            refine z_pushI (z := (-1)) rfl rfl ?_
            refine z_icmp_neF rfl (by decide) (by decide) (by decide) ?_
            refine z_pushI (z := (-11)) rfl rfl ?_
            refine z_goto rfl ?_
            refine z_iret rfl rfl ?_
            show zW _ _ _ _ _ _ _ _ _ _
            refine z_if_geF rfl (by decide) (by decide) ?_
            refine z_aload rfl rfl ?_
            refine z_iload rfl rfl ?_
            refine z_callVi (As := [_]) (le := [some _, some _]) rfl rfl rfl (Nat.le_of_ble_eq_true rfl) (Nat.le_of_ble_eq_true rfl) rfl ?_
            refine z_aload rfl rfl ?_
            refine z_getR (r := 83) rfl rfl (hRr _ rm_50_58 (by decide)) ?_
            refine z_iload rfl rfl ?_
            refine z_iald (v := (-1)) rfl rfl (by decide) (by omega) (e83) ?_
            refine z_pushI (z := (-1)) rfl rfl ?_
            refine z_icmp_neF rfl (by decide) (by decide) (by decide) ?_
            refine z_pushI (z := (-11)) rfl rfl ?_
            refine z_goto rfl ?_
            refine z_iret rfl rfl ?_
            show zW _ _ _ _ _ _ _ _ _ _
            refine z_iret rfl rfl ?_
            refine ⟨?_, ?_⟩
            · first | rfl | exact congrArg (fun v => some (zi v)) (by omega) | (exfalso; omega)
            · exact hr
    · refine z_iload rfl rfl ?_
      refine z_callSi (As := [_]) (le := [some _]) rfl rfl (Nat.le_of_ble_eq_true rfl) (Nat.le_of_ble_eq_true rfl) rfl ?_
      refine z_iload rfl rfl ?_
      refine z_if_eq rfl (by omega) (fun h3 => ?_) (fun h3 => ?_)
      · refine z_pushI (z := 1) rfl rfl ?_
        refine z_goto rfl ?_
        refine z_bret rfl rfl (by decide) ?_
        show zW _ _ _ _ _ _ _ _ _ _
        refine z_if_neT rfl (by decide) (by decide) ?_
        refine z_aload rfl rfl ?_
        refine z_getR (r := 10) rfl rfl (hR _ rm_0_2) ?_
        refine z_aload rfl rfl ?_
        refine z_getR (r := 37) rfl rfl (hR _ rm_0_11) ?_
        refine z_iload rfl rfl ?_
        refine z_aald (r := 38 + 2 * s.toNat) rfl rfl (by decide) (by omega) (rr_shelf hR (by omega)) ?_
        refine z_callVi (As := [_]) (le := [some _, some _, none, none, none]) rfl rfl rfl (Nat.le_of_ble_eq_true rfl) (Nat.le_of_ble_eq_true rfl) rfl ?_
        refine z_aload rfl rfl ?_
        refine z_callVi (As := []) (le := [some _]) rfl rfl (zk_shelf (by omega)) (Nat.le_of_ble_eq_true rfl) (Nat.le_of_ble_eq_true rfl) rfl ?_
        refine z_aload rfl rfl ?_
        refine z_getI (v := 0) rfl (zk_shelf (by omega)) (hh) ?_
        refine z_if_neF rfl (by decide) (by decide) ?_
        refine z_pushI (z := (-11)) rfl rfl ?_
        refine z_iret rfl rfl ?_
        show zW _ _ _ _ _ _ _ _ _ _
        refine z_istore rfl rfl ?_
        refine z_iload rfl rfl ?_
        refine z_if_geF rfl (by decide) (by decide) ?_
        refine z_iload rfl rfl ?_
        refine z_iret rfl rfl ?_
        show zW _ _ _ _ _ _ _ _ _ _
        refine z_istore rfl rfl ?_
        refine z_iload rfl rfl ?_
        refine z_if_geF rfl (by decide) (by decide) ?_
        refine z_iload rfl rfl ?_
        refine z_iret rfl rfl ?_
        refine ⟨_, rfl, ?_⟩
        show zW _ _ _ _ [some (.ref 50), some (zi s), some (zi v), some (zi q), none, none, none, none, none] _ _ _ _ _
        refine z_iload rfl rfl ?_
        refine z_callSi (As := [_]) (le := [some _]) rfl rfl (Nat.le_of_ble_eq_true rfl) (Nat.le_of_ble_eq_true rfl) rfl ?_
        refine z_iload rfl rfl ?_
        refine z_pushI (z := 0) rfl rfl ?_
        refine z_pushI (z := 5) rfl rfl ?_
        refine z_callSi (As := [_, _, _]) (le := [some _, some _, some _]) rfl rfl (Nat.le_of_ble_eq_true rfl) (Nat.le_of_ble_eq_true rfl) rfl ?_
        refine z_iload rfl rfl ?_
        refine z_iload rfl rfl ?_
        refine z_icmp_ltF rfl (by omega) (by decide) (by omega) ?_
        refine z_iload rfl rfl ?_
        refine z_iload rfl rfl ?_
        refine z_icmp_gtF rfl (by omega) (by decide) (by omega) ?_
        refine z_pushI (z := 1) rfl rfl ?_
        refine z_goto rfl ?_
        refine z_bret rfl rfl (by decide) ?_
        show zW _ _ _ _ _ _ _ _ _ _
        refine z_bret rfl rfl (by decide) ?_
        show zW _ _ _ _ _ _ _ _ _ _
        refine z_if_eqF rfl (by decide) (by decide) ?_
        refine z_iload rfl rfl ?_
        refine z_if_ltF rfl (by omega) (by omega) ?_
        refine z_iload rfl rfl ?_
        refine z_pushI (z := 100) rfl rfl ?_
        refine z_idiv (e := v / 100) rfl (by omega) (by omega) rfl ?_
        refine z_pushI (z := 9999) rfl rfl ?_
        refine z_icmp_gt rfl (by omega) (by decide) (fun h4 => ?_) (fun h4 => ?_)
        · refine z_pushI (z := (-1)) rfl rfl ?_
          refine z_iret rfl rfl ?_
          refine ⟨?_, ?_⟩
          · first | rfl | exact congrArg (fun v => some (zi v)) (by omega) | (exfalso; omega)
          · exact hr
        · refine z_iload rfl rfl ?_
          refine z_pushI (z := 0) rfl rfl ?_
          refine z_pushI (z := 1) rfl rfl ?_
          refine z_callSi (As := [_, _, _]) (le := [some _, some _, some _]) rfl rfl (Nat.le_of_ble_eq_true rfl) (Nat.le_of_ble_eq_true rfl) rfl ?_
          refine z_iload rfl rfl ?_
          refine z_iload rfl rfl ?_
          refine z_icmp_ltF rfl (by omega) (by decide) (by omega) ?_
          refine z_iload rfl rfl ?_
          refine z_iload rfl rfl ?_
          refine z_icmp_gtF rfl (by omega) (by decide) (by omega) ?_
          refine z_pushI (z := 1) rfl rfl ?_
          refine z_goto rfl ?_
          refine z_bret rfl rfl (by decide) ?_
          show zW _ _ _ _ _ _ _ _ _ _
          refine z_if_neT rfl (by decide) (by decide) ?_
          refine z_aload rfl rfl ?_
          refine z_iload rfl rfl ?_
          refine z_callVi (As := [_]) (le := [some _, some _]) rfl rfl rfl (Nat.le_of_ble_eq_true rfl) (Nat.le_of_ble_eq_true rfl) rfl ?_
          refine z_aload rfl rfl ?_
          refine z_getR (r := 83) rfl rfl (hRr _ rm_50_58 (by decide)) ?_
          refine z_iload rfl rfl ?_
          refine z_iald (v := (-1)) rfl rfl (by decide) (by omega) (e83) ?_
          refine z_pushI (z := (-1)) rfl rfl ?_
          refine z_icmp_neF rfl (by decide) (by decide) (by decide) ?_
          refine z_pushI (z := (-11)) rfl rfl ?_
          refine z_goto rfl ?_
          refine z_iret rfl rfl ?_
          show zW _ _ _ _ _ _ _ _ _ _
          refine z_if_geF rfl (by decide) (by decide) ?_
          refine z_aload rfl rfl ?_
          refine z_iload rfl rfl ?_
          refine z_callVi (As := [_]) (le := [some _, some _]) rfl rfl rfl (Nat.le_of_ble_eq_true rfl) (Nat.le_of_ble_eq_true rfl) rfl ?_
          refine z_aload rfl rfl ?_
          refine z_getR (r := 83) rfl rfl (hRr _ rm_50_58 (by decide)) ?_
          refine z_iload rfl rfl ?_
          refine z_iald (v := (-1)) rfl rfl (by decide) (by omega) (e83) ?_
          refine z_pushI (z := (-1)) rfl rfl ?_
          refine z_icmp_neF rfl (by decide) (by decide) (by decide) ?_
          refine z_pushI (z := (-11)) rfl rfl ?_
          refine z_goto rfl ?_
          refine z_iret rfl rfl ?_
          show zW _ _ _ _ _ _ _ _ _ _
          refine z_iret rfl rfl ?_
          refine ⟨?_, ?_⟩
          · first | rfl | exact congrArg (fun v => some (zi v)) (by omega) | (exfalso; omega)
          · exact hr
      · refine z_iload rfl rfl ?_
        refine z_pushI (z := 1) rfl rfl ?_
        refine z_icmp_ne rfl (by omega) (by decide) (fun h4 => ?_) (fun h4 => ?_)
        · refine z_pushI (z := 0) rfl rfl ?_
          refine z_bret rfl rfl (by decide) ?_
          show zW _ _ _ _ _ _ _ _ _ _
          refine z_if_neF rfl (by decide) (by decide) ?_
          refine z_pushI (z := (-1)) rfl rfl ?_
          refine z_iret rfl rfl ?_
          refine ⟨_, rfl, ?_⟩
          show zW _ _ _ _ [some (.ref 50), some (zi s), some (zi v), some (zi q), none, none, none, none, none] _ _ _ _ _
          refine z_iload rfl rfl ?_
          refine z_callSi (As := [_]) (le := [some _]) rfl rfl (Nat.le_of_ble_eq_true rfl) (Nat.le_of_ble_eq_true rfl) rfl ?_
          refine z_iload rfl rfl ?_
          refine z_pushI (z := 0) rfl rfl ?_
          refine z_pushI (z := 5) rfl rfl ?_
          refine z_callSi (As := [_, _, _]) (le := [some _, some _, some _]) rfl rfl (Nat.le_of_ble_eq_true rfl) (Nat.le_of_ble_eq_true rfl) rfl ?_
          refine z_iload rfl rfl ?_
          refine z_iload rfl rfl ?_
          refine z_icmp_ltF rfl (by omega) (by decide) (by omega) ?_
          refine z_iload rfl rfl ?_
          refine z_iload rfl rfl ?_
          refine z_icmp_gtF rfl (by omega) (by decide) (by omega) ?_
          refine z_pushI (z := 1) rfl rfl ?_
          refine z_goto rfl ?_
          refine z_bret rfl rfl (by decide) ?_
          show zW _ _ _ _ _ _ _ _ _ _
          refine z_bret rfl rfl (by decide) ?_
          show zW _ _ _ _ _ _ _ _ _ _
          refine z_if_eqF rfl (by decide) (by decide) ?_
          refine z_iload rfl rfl ?_
          refine z_if_ltF rfl (by omega) (by omega) ?_
          refine z_iload rfl rfl ?_
          refine z_pushI (z := 100) rfl rfl ?_
          refine z_idiv (e := v / 100) rfl (by omega) (by omega) rfl ?_
          refine z_pushI (z := 9999) rfl rfl ?_
          refine z_icmp_gt rfl (by omega) (by decide) (fun h5 => ?_) (fun h5 => ?_)
          · refine z_pushI (z := (-1)) rfl rfl ?_
            refine z_iret rfl rfl ?_
            refine ⟨?_, ?_⟩
            · first | rfl | exact congrArg (fun v => some (zi v)) (by omega) | (exfalso; omega)
            · exact hr
          · refine z_iload rfl rfl ?_
            refine z_pushI (z := 0) rfl rfl ?_
            refine z_pushI (z := 1) rfl rfl ?_
            refine z_callSi (As := [_, _, _]) (le := [some _, some _, some _]) rfl rfl (Nat.le_of_ble_eq_true rfl) (Nat.le_of_ble_eq_true rfl) rfl ?_
            refine z_iload rfl rfl ?_
            refine z_iload rfl rfl ?_
            refine z_icmp_lt rfl (by omega) (by decide) (fun h6 => ?_) (fun h6 => ?_)
            · refine z_pushI (z := 0) rfl rfl ?_
              refine z_bret rfl rfl (by decide) ?_
              show zW _ _ _ _ _ _ _ _ _ _
              refine z_if_neF rfl (by decide) (by decide) ?_
              refine z_pushI (z := (-1)) rfl rfl ?_
              refine z_iret rfl rfl ?_
              refine ⟨?_, ?_⟩
              · first | rfl | exact congrArg (fun v => some (zi v)) (by omega) | (exfalso; omega)
              · exact hr
            · refine z_iload rfl rfl ?_
              refine z_iload rfl rfl ?_
              refine z_icmp_gt rfl (by omega) (by decide) (fun h7 => ?_) (fun h7 => ?_)
              · refine z_pushI (z := 0) rfl rfl ?_
                refine z_bret rfl rfl (by decide) ?_
                show zW _ _ _ _ _ _ _ _ _ _
                refine z_if_neF rfl (by decide) (by decide) ?_
                refine z_pushI (z := (-1)) rfl rfl ?_
                refine z_iret rfl rfl ?_
                refine ⟨?_, ?_⟩
                · first | rfl | exact congrArg (fun v => some (zi v)) (by omega) | (exfalso; omega)
                · exact hr
              · refine z_pushI (z := 1) rfl rfl ?_
                refine z_goto rfl ?_
                refine z_bret rfl rfl (by decide) ?_
                show zW _ _ _ _ _ _ _ _ _ _
                refine z_if_neT rfl (by decide) (by decide) ?_
                refine z_aload rfl rfl ?_
                refine z_iload rfl rfl ?_
                refine z_callVi (As := [_]) (le := [some _, some _]) rfl rfl rfl (Nat.le_of_ble_eq_true rfl) (Nat.le_of_ble_eq_true rfl) rfl ?_
                refine z_aload rfl rfl ?_
                refine z_getR (r := 83) rfl rfl (hRr _ rm_50_58 (by decide)) ?_
                refine z_iload rfl rfl ?_
                refine z_iald (v := (-1)) rfl rfl (by decide) (by omega) (e83) ?_
                refine z_pushI (z := (-1)) rfl rfl ?_
                refine z_icmp_neF rfl (by decide) (by decide) (by decide) ?_
                refine z_pushI (z := (-11)) rfl rfl ?_
                refine z_goto rfl ?_
                refine z_iret rfl rfl ?_
                show zW _ _ _ _ _ _ _ _ _ _
                refine z_if_geF rfl (by decide) (by decide) ?_
                refine z_aload rfl rfl ?_
                refine z_iload rfl rfl ?_
                refine z_callVi (As := [_]) (le := [some _, some _]) rfl rfl rfl (Nat.le_of_ble_eq_true rfl) (Nat.le_of_ble_eq_true rfl) rfl ?_
                refine z_aload rfl rfl ?_
                refine z_getR (r := 83) rfl rfl (hRr _ rm_50_58 (by decide)) ?_
                refine z_iload rfl rfl ?_
                refine z_iald (v := (-1)) rfl rfl (by decide) (by omega) (e83) ?_
                refine z_pushI (z := (-1)) rfl rfl ?_
                refine z_icmp_neF rfl (by decide) (by decide) (by decide) ?_
                refine z_pushI (z := (-11)) rfl rfl ?_
                refine z_goto rfl ?_
                refine z_iret rfl rfl ?_
                show zW _ _ _ _ _ _ _ _ _ _
                refine z_iret rfl rfl ?_
                refine ⟨?_, ?_⟩
                · first | rfl | exact congrArg (fun v => some (zi v)) (by omega) | (exfalso; omega)
                · exact hr
        · refine z_pushI (z := 1) rfl rfl ?_
          refine z_goto rfl ?_
          refine z_bret rfl rfl (by decide) ?_
          show zW _ _ _ _ _ _ _ _ _ _
          refine z_if_neT rfl (by decide) (by decide) ?_
          refine z_aload rfl rfl ?_
          refine z_getR (r := 10) rfl rfl (hR _ rm_0_2) ?_
          refine z_aload rfl rfl ?_
          refine z_getR (r := 37) rfl rfl (hR _ rm_0_11) ?_
          refine z_iload rfl rfl ?_
          refine z_aald (r := 38 + 2 * s.toNat) rfl rfl (by decide) (by omega) (rr_shelf hR (by omega)) ?_
          refine z_callVi (As := [_]) (le := [some _, some _, none, none, none]) rfl rfl rfl (Nat.le_of_ble_eq_true rfl) (Nat.le_of_ble_eq_true rfl) rfl ?_
          refine z_aload rfl rfl ?_
          refine z_callVi (As := []) (le := [some _]) rfl rfl (zk_shelf (by omega)) (Nat.le_of_ble_eq_true rfl) (Nat.le_of_ble_eq_true rfl) rfl ?_
          refine z_aload rfl rfl ?_
          refine z_getI (v := 0) rfl (zk_shelf (by omega)) (hh) ?_
          refine z_if_neF rfl (by decide) (by decide) ?_
          refine z_pushI (z := (-11)) rfl rfl ?_
          refine z_iret rfl rfl ?_
          show zW _ _ _ _ _ _ _ _ _ _
          refine z_istore rfl rfl ?_
          refine z_iload rfl rfl ?_
          refine z_if_geF rfl (by decide) (by decide) ?_
          refine z_iload rfl rfl ?_
          refine z_iret rfl rfl ?_
          show zW _ _ _ _ _ _ _ _ _ _
          refine z_istore rfl rfl ?_
          refine z_iload rfl rfl ?_
          refine z_if_geF rfl (by decide) (by decide) ?_
          refine z_iload rfl rfl ?_
          refine z_iret rfl rfl ?_
          refine ⟨_, rfl, ?_⟩
          show zW _ _ _ _ [some (.ref 50), some (zi s), some (zi v), some (zi q), none, none, none, none, none] _ _ _ _ _
          refine z_iload rfl rfl ?_
          refine z_callSi (As := [_]) (le := [some _]) rfl rfl (Nat.le_of_ble_eq_true rfl) (Nat.le_of_ble_eq_true rfl) rfl ?_
          refine z_iload rfl rfl ?_
          refine z_pushI (z := 0) rfl rfl ?_
          refine z_pushI (z := 5) rfl rfl ?_
          refine z_callSi (As := [_, _, _]) (le := [some _, some _, some _]) rfl rfl (Nat.le_of_ble_eq_true rfl) (Nat.le_of_ble_eq_true rfl) rfl ?_
          refine z_iload rfl rfl ?_
          refine z_iload rfl rfl ?_
          refine z_icmp_ltF rfl (by omega) (by decide) (by omega) ?_
          refine z_iload rfl rfl ?_
          refine z_iload rfl rfl ?_
          refine z_icmp_gtF rfl (by omega) (by decide) (by omega) ?_
          refine z_pushI (z := 1) rfl rfl ?_
          refine z_goto rfl ?_
          refine z_bret rfl rfl (by decide) ?_
          show zW _ _ _ _ _ _ _ _ _ _
          refine z_bret rfl rfl (by decide) ?_
          show zW _ _ _ _ _ _ _ _ _ _
          refine z_if_eqF rfl (by decide) (by decide) ?_
          refine z_iload rfl rfl ?_
          refine z_if_ltF rfl (by omega) (by omega) ?_
          refine z_iload rfl rfl ?_
          refine z_pushI (z := 100) rfl rfl ?_
          refine z_idiv (e := v / 100) rfl (by omega) (by omega) rfl ?_
          refine z_pushI (z := 9999) rfl rfl ?_
          refine z_icmp_gt rfl (by omega) (by decide) (fun h5 => ?_) (fun h5 => ?_)
          · refine z_pushI (z := (-1)) rfl rfl ?_
            refine z_iret rfl rfl ?_
            refine ⟨?_, ?_⟩
            · first | rfl | exact congrArg (fun v => some (zi v)) (by omega) | (exfalso; omega)
            · exact hr
          · refine z_iload rfl rfl ?_
            refine z_pushI (z := 0) rfl rfl ?_
            refine z_pushI (z := 1) rfl rfl ?_
            refine z_callSi (As := [_, _, _]) (le := [some _, some _, some _]) rfl rfl (Nat.le_of_ble_eq_true rfl) (Nat.le_of_ble_eq_true rfl) rfl ?_
            refine z_iload rfl rfl ?_
            refine z_iload rfl rfl ?_
            refine z_icmp_ltF rfl (by omega) (by decide) (by omega) ?_
            refine z_iload rfl rfl ?_
            refine z_iload rfl rfl ?_
            refine z_icmp_gtF rfl (by omega) (by decide) (by omega) ?_
            refine z_pushI (z := 1) rfl rfl ?_
            refine z_goto rfl ?_
            refine z_bret rfl rfl (by decide) ?_
            show zW _ _ _ _ _ _ _ _ _ _
            refine z_if_neT rfl (by decide) (by decide) ?_
            refine z_aload rfl rfl ?_
            refine z_iload rfl rfl ?_
            refine z_callVi (As := [_]) (le := [some _, some _]) rfl rfl rfl (Nat.le_of_ble_eq_true rfl) (Nat.le_of_ble_eq_true rfl) rfl ?_
            refine z_aload rfl rfl ?_
            refine z_getR (r := 83) rfl rfl (hRr _ rm_50_58 (by decide)) ?_
            refine z_iload rfl rfl ?_
            refine z_iald (v := (-1)) rfl rfl (by decide) (by omega) (e83) ?_
            refine z_pushI (z := (-1)) rfl rfl ?_
            refine z_icmp_neF rfl (by decide) (by decide) (by decide) ?_
            refine z_pushI (z := (-11)) rfl rfl ?_
            refine z_goto rfl ?_
            refine z_iret rfl rfl ?_
            show zW _ _ _ _ _ _ _ _ _ _
            refine z_if_geF rfl (by decide) (by decide) ?_
            refine z_aload rfl rfl ?_
            refine z_iload rfl rfl ?_
            refine z_callVi (As := [_]) (le := [some _, some _]) rfl rfl rfl (Nat.le_of_ble_eq_true rfl) (Nat.le_of_ble_eq_true rfl) rfl ?_
            refine z_aload rfl rfl ?_
            refine z_getR (r := 83) rfl rfl (hRr _ rm_50_58 (by decide)) ?_
            refine z_iload rfl rfl ?_
            refine z_iald (v := (-1)) rfl rfl (by decide) (by omega) (e83) ?_
            refine z_pushI (z := (-1)) rfl rfl ?_
            refine z_icmp_neF rfl (by decide) (by decide) (by decide) ?_
            refine z_pushI (z := (-11)) rfl rfl ?_
            refine z_goto rfl ?_
            refine z_iret rfl rfl ?_
            show zW _ _ _ _ _ _ _ _ _ _
            refine z_iret rfl rfl ?_
            refine ⟨?_, ?_⟩
            · first | rfl | exact congrArg (fun v => some (zi v)) (by omega) | (exfalso; omega)
            · exact hr
theorem st_giveUp_1 {X : Nat × (Nat → Int32)} {d : Nat} {J M : zA} {R : zR} {s v q : Int} (hr : Rel X J M R) (hs : -2147483648 ≤ s ∧ s < 2147483648) (hv : -2147483648 ≤ v ∧ v < 2147483648) (hq : -2147483648 ≤ q ∧ q < 2147483648) (hs6 : 0 ≤ s ∧ s < 6) (hh : J (38 + 2 * s.toNat) 0 = 1) : zW X (d + 20) 115 0 (gEn 115 [(.ref 0), (zi s), (zi v), (zi q)]) [] J M R (stP X (d + 20) 207 [(zi s), (zi v), (zi q)]) := by
  have hr0 := hr
  obtain ⟨hR, hG, hY, hD, hP, hC, hAc, hS, hTp, hX, hW⟩ := hr0
  have hRr : zRoR R := zRoR_of hR
  have hY0 := hY
  obtain ⟨y1, y2, y3⟩ := hY0
  have yn := zNn y3
  have hA0 := hAc
  obtain ⟨a1, a2, a3, a4, a5, a6⟩ := hA0
  have e83 : J 83 s = J (38 + 2 * s.toNat) 1 := (hS s hs6.1 hs6.2).1.symm.trans (cH_1 hh)
  have s3 : 0 ≤ J (38 + 2 * s.toNat) 2 ∧ J (38 + 2 * s.toNat) 2 ≤ 4 := (hS s hs6.1 hs6.2).2.2.1
  have s4 : 0 ≤ J (38 + 2 * s.toNat) 3 ∧ J (38 + 2 * s.toNat) 3 ≤ 60 := (hS s hs6.1 hs6.2).2.2.2.1
  have s5 : 0 ≤ J (38 + 2 * s.toNat) 1 ∧ J (38 + 2 * s.toNat) 1 < J 34 1 := (hS s hs6.1 hs6.2).2.2.2.2.1 hh
  show zW _ _ _ _ [some (.ref 0), some (zi s), some (zi v), some (zi q), none, none, none, none, none, none] _ _ _ _ _
  refine z_iload rfl rfl ?_
  refine z_callSi (As := [_]) (le := [some _]) rfl rfl (Nat.le_of_ble_eq_true rfl) (Nat.le_of_ble_eq_true rfl) rfl ?_
  refine z_iload rfl rfl ?_
  refine z_if_ltF rfl (by omega) (by omega) ?_
  refine z_iload rfl rfl ?_
  refine z_pushI (z := 6) rfl rfl ?_
  refine z_icmp_geF rfl (by omega) (by decide) (by omega) ?_
  refine z_pushI (z := 1) rfl rfl ?_
  refine z_goto rfl ?_
  refine z_bret rfl rfl (by decide) ?_
  show zW _ _ _ _ _ _ _ _ _ _
  refine z_if_eqF rfl (by decide) (by decide) ?_
  refine z_iload rfl rfl ?_
  refine z_if_lt rfl (by omega) (fun h1 => ?_) (fun h1 => ?_)
  · refine z_pushI (z := (-1)) rfl rfl ?_
    refine z_iret rfl rfl ?_
    refine ⟨_, rfl, ?_⟩
    show zW _ _ _ _ [some (.ref 50), some (zi s), some (zi v), some (zi q), none, none, none, none, none] _ _ _ _ _
    refine z_iload rfl rfl ?_
    refine z_callSi (As := [_]) (le := [some _]) rfl rfl (Nat.le_of_ble_eq_true rfl) (Nat.le_of_ble_eq_true rfl) rfl ?_
    refine z_iload rfl rfl ?_
    refine z_pushI (z := 0) rfl rfl ?_
    refine z_pushI (z := 5) rfl rfl ?_
    refine z_callSi (As := [_, _, _]) (le := [some _, some _, some _]) rfl rfl (Nat.le_of_ble_eq_true rfl) (Nat.le_of_ble_eq_true rfl) rfl ?_
    refine z_iload rfl rfl ?_
    refine z_iload rfl rfl ?_
    refine z_icmp_ltF rfl (by omega) (by decide) (by omega) ?_
    refine z_iload rfl rfl ?_
    refine z_iload rfl rfl ?_
    refine z_icmp_gtF rfl (by omega) (by decide) (by omega) ?_
    refine z_pushI (z := 1) rfl rfl ?_
    refine z_goto rfl ?_
    refine z_bret rfl rfl (by decide) ?_
    show zW _ _ _ _ _ _ _ _ _ _
    refine z_bret rfl rfl (by decide) ?_
    show zW _ _ _ _ _ _ _ _ _ _
    refine z_if_eqF rfl (by decide) (by decide) ?_
    refine z_iload rfl rfl ?_
    refine z_if_ltT rfl (by omega) (by omega) ?_
    refine z_pushI (z := (-1)) rfl rfl ?_
    refine z_iret rfl rfl ?_
    refine ⟨?_, ?_⟩
    · first | rfl | exact congrArg (fun v => some (zi v)) (by omega) | (exfalso; omega)
    · exact hr
  · refine z_iload rfl rfl ?_
    refine z_pushI (z := 1000000) rfl rfl ?_
    refine z_icmp_ge rfl (by omega) (by decide) (fun h2 => ?_) (fun h2 => ?_)
    · refine z_pushI (z := (-1)) rfl rfl ?_
      refine z_iret rfl rfl ?_
      refine ⟨_, rfl, ?_⟩
      show zW _ _ _ _ [some (.ref 50), some (zi s), some (zi v), some (zi q), none, none, none, none, none] _ _ _ _ _
      refine z_iload rfl rfl ?_
      refine z_callSi (As := [_]) (le := [some _]) rfl rfl (Nat.le_of_ble_eq_true rfl) (Nat.le_of_ble_eq_true rfl) rfl ?_
      refine z_iload rfl rfl ?_
      refine z_pushI (z := 0) rfl rfl ?_
      refine z_pushI (z := 5) rfl rfl ?_
      refine z_callSi (As := [_, _, _]) (le := [some _, some _, some _]) rfl rfl (Nat.le_of_ble_eq_true rfl) (Nat.le_of_ble_eq_true rfl) rfl ?_
      refine z_iload rfl rfl ?_
      refine z_iload rfl rfl ?_
      refine z_icmp_ltF rfl (by omega) (by decide) (by omega) ?_
      refine z_iload rfl rfl ?_
      refine z_iload rfl rfl ?_
      refine z_icmp_gtF rfl (by omega) (by decide) (by omega) ?_
      refine z_pushI (z := 1) rfl rfl ?_
      refine z_goto rfl ?_
      refine z_bret rfl rfl (by decide) ?_
      show zW _ _ _ _ _ _ _ _ _ _
      refine z_bret rfl rfl (by decide) ?_
      show zW _ _ _ _ _ _ _ _ _ _
      refine z_if_eqF rfl (by decide) (by decide) ?_
      refine z_iload rfl rfl ?_
      refine z_if_ltF rfl (by omega) (by omega) ?_
      refine z_iload rfl rfl ?_
      refine z_pushI (z := 100) rfl rfl ?_
      refine z_idiv (e := v / 100) rfl (by omega) (by omega) rfl ?_
      refine z_pushI (z := 9999) rfl rfl ?_
      refine z_icmp_gt rfl (by omega) (by decide) (fun h3 => ?_) (fun h3 => ?_)
      · refine z_pushI (z := (-1)) rfl rfl ?_
        refine z_iret rfl rfl ?_
        refine ⟨?_, ?_⟩
        · first | rfl | exact congrArg (fun v => some (zi v)) (by omega) | (exfalso; omega)
        · exact hr
      · refine z_iload rfl rfl ?_
        refine z_pushI (z := 0) rfl rfl ?_
        refine z_pushI (z := 1) rfl rfl ?_
        refine z_callSi (As := [_, _, _]) (le := [some _, some _, some _]) rfl rfl (Nat.le_of_ble_eq_true rfl) (Nat.le_of_ble_eq_true rfl) rfl ?_
        refine z_iload rfl rfl ?_
        refine z_iload rfl rfl ?_
        refine z_icmp_lt rfl (by omega) (by decide) (fun h4 => ?_) (fun h4 => ?_)
        · refine z_pushI (z := 0) rfl rfl ?_
          refine z_bret rfl rfl (by decide) ?_
          show zW _ _ _ _ _ _ _ _ _ _
          refine z_if_neF rfl (by decide) (by decide) ?_
          refine z_pushI (z := (-1)) rfl rfl ?_
          refine z_iret rfl rfl ?_
          refine ⟨?_, ?_⟩
          · first | rfl | exact congrArg (fun v => some (zi v)) (by omega) | (exfalso; omega)
          · exact hr
        · refine z_iload rfl rfl ?_
          refine z_iload rfl rfl ?_
          refine z_icmp_gt rfl (by omega) (by decide) (fun h5 => ?_) (fun h5 => ?_)
          · refine z_pushI (z := 0) rfl rfl ?_
            refine z_bret rfl rfl (by decide) ?_
            show zW _ _ _ _ _ _ _ _ _ _
            refine z_if_neF rfl (by decide) (by decide) ?_
            refine z_pushI (z := (-1)) rfl rfl ?_
            refine z_iret rfl rfl ?_
            refine ⟨?_, ?_⟩
            · first | rfl | exact congrArg (fun v => some (zi v)) (by omega) | (exfalso; omega)
            · exact hr
          · refine z_pushI (z := 1) rfl rfl ?_
            refine z_goto rfl ?_
            refine z_bret rfl rfl (by decide) ?_
            show zW _ _ _ _ _ _ _ _ _ _
            refine z_if_neT rfl (by decide) (by decide) ?_
            refine z_aload rfl rfl ?_
            refine z_iload rfl rfl ?_
            refine z_callVi (As := [_]) (le := [some _, some _]) rfl rfl rfl (Nat.le_of_ble_eq_true rfl) (Nat.le_of_ble_eq_true rfl) rfl ?_
            refine z_aload rfl rfl ?_
            refine z_getR (r := 83) rfl rfl (hRr _ rm_50_58 (by decide)) ?_
            refine z_iload rfl rfl ?_
            refine z_iald (v := J (38 + 2 * s.toNat) 1) rfl rfl (by decide) (by omega) (e83) ?_
            refine z_pushI (z := (-1)) rfl rfl ?_
            refine z_icmp_ne rfl (by omega) (by decide) (fun h6 => ?_) (fun h6 => ?_)
            · refine z_aload rfl rfl ?_
              refine z_getR (r := 83) rfl rfl (hRr _ rm_50_58 (by decide)) ?_
              refine z_iload rfl rfl ?_
              refine z_iald (v := J (38 + 2 * s.toNat) 1) rfl rfl (by decide) (by omega) (e83) ?_
              refine z_pushI (z := (-2)) rfl rfl ?_
              refine z_icmp_ne rfl (by omega) (by decide) (fun h7 => ?_) (fun h7 => ?_)
              · refine z_pushI (z := (-12)) rfl rfl ?_
                refine z_iret rfl rfl ?_
                show zW _ _ _ _ _ _ _ _ _ _
                refine z_if_geF rfl (by decide) (by decide) ?_
                refine z_aload rfl rfl ?_
                refine z_iload rfl rfl ?_
                refine z_callVi (As := [_]) (le := [some _, some _]) rfl rfl rfl (Nat.le_of_ble_eq_true rfl) (Nat.le_of_ble_eq_true rfl) rfl ?_
                refine z_aload rfl rfl ?_
                refine z_getR (r := 83) rfl rfl (hRr _ rm_50_58 (by decide)) ?_
                refine z_iload rfl rfl ?_
                refine z_iald (v := J (38 + 2 * s.toNat) 1) rfl rfl (by decide) (by omega) (e83) ?_
                refine z_pushI (z := (-1)) rfl rfl ?_
                refine z_icmp_ne rfl (by omega) (by decide) (fun h8 => ?_) (fun h8 => ?_)
                · refine z_aload rfl rfl ?_
                  refine z_getR (r := 83) rfl rfl (hRr _ rm_50_58 (by decide)) ?_
                  refine z_iload rfl rfl ?_
                  refine z_iald (v := J (38 + 2 * s.toNat) 1) rfl rfl (by decide) (by omega) (e83) ?_
                  refine z_pushI (z := (-2)) rfl rfl ?_
                  refine z_icmp_ne rfl (by omega) (by decide) (fun h9 => ?_) (fun h9 => ?_)
                  · refine z_pushI (z := (-12)) rfl rfl ?_
                    refine z_iret rfl rfl ?_
                    show zW _ _ _ _ _ _ _ _ _ _
                    refine z_iret rfl rfl ?_
                    refine ⟨?_, ?_⟩
                    · first | rfl | exact congrArg (fun v => some (zi v)) (by omega) | (exfalso; omega)
                    · exact hr
                  · refine z_pushI (z := 0) rfl rfl ?_
                    refine z_goto rfl ?_
                    refine z_iret rfl rfl ?_
                    show zW _ _ _ _ _ _ _ _ _ _
                    refine z_iret rfl rfl ?_
                    refine ⟨?_, ?_⟩
                    · first | rfl | exact congrArg (fun v => some (zi v)) (by omega) | (exfalso; omega)
                    · exact hr
                · refine z_pushI (z := (-11)) rfl rfl ?_
                  refine z_goto rfl ?_
                  refine z_iret rfl rfl ?_
                  show zW _ _ _ _ _ _ _ _ _ _
                  refine z_iret rfl rfl ?_
                  refine ⟨?_, ?_⟩
                  · first | rfl | exact congrArg (fun v => some (zi v)) (by omega) | (exfalso; omega)
                  · exact hr
              · refine z_pushI (z := 0) rfl rfl ?_
                refine z_goto rfl ?_
                refine z_iret rfl rfl ?_
                show zW _ _ _ _ _ _ _ _ _ _
                refine z_if_geT rfl (by decide) (by decide) ?_
                refine z_aload rfl rfl ?_
                refine z_iload rfl rfl ?_
                refine z_pushI (z := 60) rfl rfl ?_
                exfalso
                omega
            · refine z_pushI (z := (-11)) rfl rfl ?_
              refine z_goto rfl ?_
              refine z_iret rfl rfl ?_
              show zW _ _ _ _ _ _ _ _ _ _
              refine z_if_geF rfl (by decide) (by decide) ?_
              refine z_aload rfl rfl ?_
              refine z_iload rfl rfl ?_
              refine z_callVi (As := [_]) (le := [some _, some _]) rfl rfl rfl (Nat.le_of_ble_eq_true rfl) (Nat.le_of_ble_eq_true rfl) rfl ?_
              refine z_aload rfl rfl ?_
              refine z_getR (r := 83) rfl rfl (hRr _ rm_50_58 (by decide)) ?_
              refine z_iload rfl rfl ?_
              refine z_iald (v := J (38 + 2 * s.toNat) 1) rfl rfl (by decide) (by omega) (e83) ?_
              refine z_pushI (z := (-1)) rfl rfl ?_
              refine z_icmp_neF rfl (by omega) (by decide) (by omega) ?_
              refine z_pushI (z := (-11)) rfl rfl ?_
              refine z_goto rfl ?_
              refine z_iret rfl rfl ?_
              show zW _ _ _ _ _ _ _ _ _ _
              refine z_iret rfl rfl ?_
              refine ⟨?_, ?_⟩
              · first | rfl | exact congrArg (fun v => some (zi v)) (by omega) | (exfalso; omega)
              · exact hr
    · refine z_iload rfl rfl ?_
      refine z_callSi (As := [_]) (le := [some _]) rfl rfl (Nat.le_of_ble_eq_true rfl) (Nat.le_of_ble_eq_true rfl) rfl ?_
      refine z_iload rfl rfl ?_
      refine z_if_eq rfl (by omega) (fun h3 => ?_) (fun h3 => ?_)
      · refine z_pushI (z := 1) rfl rfl ?_
        refine z_goto rfl ?_
        refine z_bret rfl rfl (by decide) ?_
        show zW _ _ _ _ _ _ _ _ _ _
        refine z_if_neT rfl (by decide) (by decide) ?_
        refine z_aload rfl rfl ?_
        refine z_getR (r := 10) rfl rfl (hR _ rm_0_2) ?_
        refine z_aload rfl rfl ?_
        refine z_getR (r := 37) rfl rfl (hR _ rm_0_11) ?_
        refine z_iload rfl rfl ?_
        refine z_aald (r := 38 + 2 * s.toNat) rfl rfl (by decide) (by omega) (rr_shelf hR (by omega)) ?_
        refine z_callVi (As := [_]) (le := [some _, some _, none, none, none]) rfl rfl rfl (Nat.le_of_ble_eq_true rfl) (Nat.le_of_ble_eq_true rfl) rfl ?_
        refine z_aload rfl rfl ?_
        refine z_callVi (As := []) (le := [some _]) rfl rfl (zk_shelf (by omega)) (Nat.le_of_ble_eq_true rfl) (Nat.le_of_ble_eq_true rfl) rfl ?_
        refine z_aload rfl rfl ?_
        refine z_getI (v := 1) rfl (zk_shelf (by omega)) (hh) ?_
        refine z_if_neT rfl (by decide) (by decide) ?_
        refine z_aload rfl rfl ?_
        refine z_callVi (As := []) (le := [some _]) rfl rfl (zk_shelf (by omega)) (Nat.le_of_ble_eq_true rfl) (Nat.le_of_ble_eq_true rfl) rfl ?_
        refine z_aload rfl rfl ?_
        refine z_getI (v := 1) rfl (zk_shelf (by omega)) (hh) ?_
        refine z_pushI (z := 2) rfl rfl ?_
        refine z_icmp_neT rfl (by decide) (by decide) (by decide) ?_
        refine z_pushI (z := 0) rfl rfl ?_
        refine z_bret rfl rfl (by decide) ?_
        show zW _ _ _ _ _ _ _ _ _ _
        refine z_if_eqT rfl (by decide) (by decide) ?_
        refine z_pushI (z := (-12)) rfl rfl ?_
        refine z_iret rfl rfl ?_
        show zW _ _ _ _ _ _ _ _ _ _
        refine z_istore rfl rfl ?_
        refine z_iload rfl rfl ?_
        refine z_if_geF rfl (by decide) (by decide) ?_
        refine z_iload rfl rfl ?_
        refine z_iret rfl rfl ?_
        show zW _ _ _ _ _ _ _ _ _ _
        refine z_istore rfl rfl ?_
        refine z_iload rfl rfl ?_
        refine z_if_geF rfl (by decide) (by decide) ?_
        refine z_iload rfl rfl ?_
        refine z_iret rfl rfl ?_
        refine ⟨_, rfl, ?_⟩
        show zW _ _ _ _ [some (.ref 50), some (zi s), some (zi v), some (zi q), none, none, none, none, none] _ _ _ _ _
        refine z_iload rfl rfl ?_
        refine z_callSi (As := [_]) (le := [some _]) rfl rfl (Nat.le_of_ble_eq_true rfl) (Nat.le_of_ble_eq_true rfl) rfl ?_
        refine z_iload rfl rfl ?_
        refine z_pushI (z := 0) rfl rfl ?_
        refine z_pushI (z := 5) rfl rfl ?_
        refine z_callSi (As := [_, _, _]) (le := [some _, some _, some _]) rfl rfl (Nat.le_of_ble_eq_true rfl) (Nat.le_of_ble_eq_true rfl) rfl ?_
        refine z_iload rfl rfl ?_
        refine z_iload rfl rfl ?_
        refine z_icmp_ltF rfl (by omega) (by decide) (by omega) ?_
        refine z_iload rfl rfl ?_
        refine z_iload rfl rfl ?_
        refine z_icmp_gtF rfl (by omega) (by decide) (by omega) ?_
        refine z_pushI (z := 1) rfl rfl ?_
        refine z_goto rfl ?_
        refine z_bret rfl rfl (by decide) ?_
        show zW _ _ _ _ _ _ _ _ _ _
        refine z_bret rfl rfl (by decide) ?_
        show zW _ _ _ _ _ _ _ _ _ _
        refine z_if_eqF rfl (by decide) (by decide) ?_
        refine z_iload rfl rfl ?_
        refine z_if_ltF rfl (by omega) (by omega) ?_
        refine z_iload rfl rfl ?_
        refine z_pushI (z := 100) rfl rfl ?_
        refine z_idiv (e := v / 100) rfl (by omega) (by omega) rfl ?_
        refine z_pushI (z := 9999) rfl rfl ?_
        refine z_icmp_gt rfl (by omega) (by decide) (fun h4 => ?_) (fun h4 => ?_)
        · refine z_pushI (z := (-1)) rfl rfl ?_
          refine z_iret rfl rfl ?_
          refine ⟨?_, ?_⟩
          · first | rfl | exact congrArg (fun v => some (zi v)) (by omega) | (exfalso; omega)
          · exact hr
        · refine z_iload rfl rfl ?_
          refine z_pushI (z := 0) rfl rfl ?_
          refine z_pushI (z := 1) rfl rfl ?_
          refine z_callSi (As := [_, _, _]) (le := [some _, some _, some _]) rfl rfl (Nat.le_of_ble_eq_true rfl) (Nat.le_of_ble_eq_true rfl) rfl ?_
          refine z_iload rfl rfl ?_
          refine z_iload rfl rfl ?_
          refine z_icmp_ltF rfl (by omega) (by decide) (by omega) ?_
          refine z_iload rfl rfl ?_
          refine z_iload rfl rfl ?_
          refine z_icmp_gtF rfl (by omega) (by decide) (by omega) ?_
          refine z_pushI (z := 1) rfl rfl ?_
          refine z_goto rfl ?_
          refine z_bret rfl rfl (by decide) ?_
          show zW _ _ _ _ _ _ _ _ _ _
          refine z_if_neT rfl (by decide) (by decide) ?_
          refine z_aload rfl rfl ?_
          refine z_iload rfl rfl ?_
          refine z_callVi (As := [_]) (le := [some _, some _]) rfl rfl rfl (Nat.le_of_ble_eq_true rfl) (Nat.le_of_ble_eq_true rfl) rfl ?_
          refine z_aload rfl rfl ?_
          refine z_getR (r := 83) rfl rfl (hRr _ rm_50_58 (by decide)) ?_
          refine z_iload rfl rfl ?_
          refine z_iald (v := J (38 + 2 * s.toNat) 1) rfl rfl (by decide) (by omega) (e83) ?_
          refine z_pushI (z := (-1)) rfl rfl ?_
          refine z_icmp_ne rfl (by omega) (by decide) (fun h5 => ?_) (fun h5 => ?_)
          · refine z_aload rfl rfl ?_
            refine z_getR (r := 83) rfl rfl (hRr _ rm_50_58 (by decide)) ?_
            refine z_iload rfl rfl ?_
            refine z_iald (v := J (38 + 2 * s.toNat) 1) rfl rfl (by decide) (by omega) (e83) ?_
            refine z_pushI (z := (-2)) rfl rfl ?_
            refine z_icmp_ne rfl (by omega) (by decide) (fun h6 => ?_) (fun h6 => ?_)
            · refine z_pushI (z := (-12)) rfl rfl ?_
              refine z_iret rfl rfl ?_
              show zW _ _ _ _ _ _ _ _ _ _
              refine z_if_geF rfl (by decide) (by decide) ?_
              refine z_aload rfl rfl ?_
              refine z_iload rfl rfl ?_
              refine z_callVi (As := [_]) (le := [some _, some _]) rfl rfl rfl (Nat.le_of_ble_eq_true rfl) (Nat.le_of_ble_eq_true rfl) rfl ?_
              refine z_aload rfl rfl ?_
              refine z_getR (r := 83) rfl rfl (hRr _ rm_50_58 (by decide)) ?_
              refine z_iload rfl rfl ?_
              refine z_iald (v := J (38 + 2 * s.toNat) 1) rfl rfl (by decide) (by omega) (e83) ?_
              refine z_pushI (z := (-1)) rfl rfl ?_
              refine z_icmp_ne rfl (by omega) (by decide) (fun h7 => ?_) (fun h7 => ?_)
              · refine z_aload rfl rfl ?_
                refine z_getR (r := 83) rfl rfl (hRr _ rm_50_58 (by decide)) ?_
                refine z_iload rfl rfl ?_
                refine z_iald (v := J (38 + 2 * s.toNat) 1) rfl rfl (by decide) (by omega) (e83) ?_
                refine z_pushI (z := (-2)) rfl rfl ?_
                refine z_icmp_ne rfl (by omega) (by decide) (fun h8 => ?_) (fun h8 => ?_)
                · refine z_pushI (z := (-12)) rfl rfl ?_
                  refine z_iret rfl rfl ?_
                  show zW _ _ _ _ _ _ _ _ _ _
                  refine z_iret rfl rfl ?_
                  refine ⟨?_, ?_⟩
                  · first | rfl | exact congrArg (fun v => some (zi v)) (by omega) | (exfalso; omega)
                  · exact hr
                · refine z_pushI (z := 0) rfl rfl ?_
                  refine z_goto rfl ?_
                  refine z_iret rfl rfl ?_
                  show zW _ _ _ _ _ _ _ _ _ _
                  refine z_iret rfl rfl ?_
                  refine ⟨?_, ?_⟩
                  · first | rfl | exact congrArg (fun v => some (zi v)) (by omega) | (exfalso; omega)
                  · exact hr
              · refine z_pushI (z := (-11)) rfl rfl ?_
                refine z_goto rfl ?_
                refine z_iret rfl rfl ?_
                show zW _ _ _ _ _ _ _ _ _ _
                refine z_iret rfl rfl ?_
                refine ⟨?_, ?_⟩
                · first | rfl | exact congrArg (fun v => some (zi v)) (by omega) | (exfalso; omega)
                · exact hr
            · refine z_pushI (z := 0) rfl rfl ?_
              refine z_goto rfl ?_
              refine z_iret rfl rfl ?_
              show zW _ _ _ _ _ _ _ _ _ _
              refine z_if_geT rfl (by decide) (by decide) ?_
              refine z_aload rfl rfl ?_
              refine z_iload rfl rfl ?_
              refine z_pushI (z := 60) rfl rfl ?_
              exfalso
              omega
          · refine z_pushI (z := (-11)) rfl rfl ?_
            refine z_goto rfl ?_
            refine z_iret rfl rfl ?_
            show zW _ _ _ _ _ _ _ _ _ _
            refine z_if_geF rfl (by decide) (by decide) ?_
            refine z_aload rfl rfl ?_
            refine z_iload rfl rfl ?_
            refine z_callVi (As := [_]) (le := [some _, some _]) rfl rfl rfl (Nat.le_of_ble_eq_true rfl) (Nat.le_of_ble_eq_true rfl) rfl ?_
            refine z_aload rfl rfl ?_
            refine z_getR (r := 83) rfl rfl (hRr _ rm_50_58 (by decide)) ?_
            refine z_iload rfl rfl ?_
            refine z_iald (v := J (38 + 2 * s.toNat) 1) rfl rfl (by decide) (by omega) (e83) ?_
            refine z_pushI (z := (-1)) rfl rfl ?_
            refine z_icmp_neF rfl (by omega) (by decide) (by omega) ?_
            refine z_pushI (z := (-11)) rfl rfl ?_
            refine z_goto rfl ?_
            refine z_iret rfl rfl ?_
            show zW _ _ _ _ _ _ _ _ _ _
            refine z_iret rfl rfl ?_
            refine ⟨?_, ?_⟩
            · first | rfl | exact congrArg (fun v => some (zi v)) (by omega) | (exfalso; omega)
            · exact hr
      · refine z_iload rfl rfl ?_
        refine z_pushI (z := 1) rfl rfl ?_
        refine z_icmp_ne rfl (by omega) (by decide) (fun h4 => ?_) (fun h4 => ?_)
        · refine z_pushI (z := 0) rfl rfl ?_
          refine z_bret rfl rfl (by decide) ?_
          show zW _ _ _ _ _ _ _ _ _ _
          refine z_if_neF rfl (by decide) (by decide) ?_
          refine z_pushI (z := (-1)) rfl rfl ?_
          refine z_iret rfl rfl ?_
          refine ⟨_, rfl, ?_⟩
          show zW _ _ _ _ [some (.ref 50), some (zi s), some (zi v), some (zi q), none, none, none, none, none] _ _ _ _ _
          refine z_iload rfl rfl ?_
          refine z_callSi (As := [_]) (le := [some _]) rfl rfl (Nat.le_of_ble_eq_true rfl) (Nat.le_of_ble_eq_true rfl) rfl ?_
          refine z_iload rfl rfl ?_
          refine z_pushI (z := 0) rfl rfl ?_
          refine z_pushI (z := 5) rfl rfl ?_
          refine z_callSi (As := [_, _, _]) (le := [some _, some _, some _]) rfl rfl (Nat.le_of_ble_eq_true rfl) (Nat.le_of_ble_eq_true rfl) rfl ?_
          refine z_iload rfl rfl ?_
          refine z_iload rfl rfl ?_
          refine z_icmp_ltF rfl (by omega) (by decide) (by omega) ?_
          refine z_iload rfl rfl ?_
          refine z_iload rfl rfl ?_
          refine z_icmp_gtF rfl (by omega) (by decide) (by omega) ?_
          refine z_pushI (z := 1) rfl rfl ?_
          refine z_goto rfl ?_
          refine z_bret rfl rfl (by decide) ?_
          show zW _ _ _ _ _ _ _ _ _ _
          refine z_bret rfl rfl (by decide) ?_
          show zW _ _ _ _ _ _ _ _ _ _
          refine z_if_eqF rfl (by decide) (by decide) ?_
          refine z_iload rfl rfl ?_
          refine z_if_ltF rfl (by omega) (by omega) ?_
          refine z_iload rfl rfl ?_
          refine z_pushI (z := 100) rfl rfl ?_
          refine z_idiv (e := v / 100) rfl (by omega) (by omega) rfl ?_
          refine z_pushI (z := 9999) rfl rfl ?_
          refine z_icmp_gt rfl (by omega) (by decide) (fun h5 => ?_) (fun h5 => ?_)
          · refine z_pushI (z := (-1)) rfl rfl ?_
            refine z_iret rfl rfl ?_
            refine ⟨?_, ?_⟩
            · first | rfl | exact congrArg (fun v => some (zi v)) (by omega) | (exfalso; omega)
            · exact hr
          · refine z_iload rfl rfl ?_
            refine z_pushI (z := 0) rfl rfl ?_
            refine z_pushI (z := 1) rfl rfl ?_
            refine z_callSi (As := [_, _, _]) (le := [some _, some _, some _]) rfl rfl (Nat.le_of_ble_eq_true rfl) (Nat.le_of_ble_eq_true rfl) rfl ?_
            refine z_iload rfl rfl ?_
            refine z_iload rfl rfl ?_
            refine z_icmp_lt rfl (by omega) (by decide) (fun h6 => ?_) (fun h6 => ?_)
            · refine z_pushI (z := 0) rfl rfl ?_
              refine z_bret rfl rfl (by decide) ?_
              show zW _ _ _ _ _ _ _ _ _ _
              refine z_if_neF rfl (by decide) (by decide) ?_
              refine z_pushI (z := (-1)) rfl rfl ?_
              refine z_iret rfl rfl ?_
              refine ⟨?_, ?_⟩
              · first | rfl | exact congrArg (fun v => some (zi v)) (by omega) | (exfalso; omega)
              · exact hr
            · refine z_iload rfl rfl ?_
              refine z_iload rfl rfl ?_
              refine z_icmp_gt rfl (by omega) (by decide) (fun h7 => ?_) (fun h7 => ?_)
              · refine z_pushI (z := 0) rfl rfl ?_
                refine z_bret rfl rfl (by decide) ?_
                show zW _ _ _ _ _ _ _ _ _ _
                refine z_if_neF rfl (by decide) (by decide) ?_
                refine z_pushI (z := (-1)) rfl rfl ?_
                refine z_iret rfl rfl ?_
                refine ⟨?_, ?_⟩
                · first | rfl | exact congrArg (fun v => some (zi v)) (by omega) | (exfalso; omega)
                · exact hr
              · refine z_pushI (z := 1) rfl rfl ?_
                refine z_goto rfl ?_
                refine z_bret rfl rfl (by decide) ?_
                show zW _ _ _ _ _ _ _ _ _ _
                refine z_if_neT rfl (by decide) (by decide) ?_
                refine z_aload rfl rfl ?_
                refine z_iload rfl rfl ?_
                refine z_callVi (As := [_]) (le := [some _, some _]) rfl rfl rfl (Nat.le_of_ble_eq_true rfl) (Nat.le_of_ble_eq_true rfl) rfl ?_
                refine z_aload rfl rfl ?_
                refine z_getR (r := 83) rfl rfl (hRr _ rm_50_58 (by decide)) ?_
                refine z_iload rfl rfl ?_
                refine z_iald (v := J (38 + 2 * s.toNat) 1) rfl rfl (by decide) (by omega) (e83) ?_
                refine z_pushI (z := (-1)) rfl rfl ?_
                refine z_icmp_ne rfl (by omega) (by decide) (fun h8 => ?_) (fun h8 => ?_)
                · refine z_aload rfl rfl ?_
                  refine z_getR (r := 83) rfl rfl (hRr _ rm_50_58 (by decide)) ?_
                  refine z_iload rfl rfl ?_
                  refine z_iald (v := J (38 + 2 * s.toNat) 1) rfl rfl (by decide) (by omega) (e83) ?_
                  refine z_pushI (z := (-2)) rfl rfl ?_
                  refine z_icmp_ne rfl (by omega) (by decide) (fun h9 => ?_) (fun h9 => ?_)
                  · refine z_pushI (z := (-12)) rfl rfl ?_
                    refine z_iret rfl rfl ?_
                    show zW _ _ _ _ _ _ _ _ _ _
                    refine z_if_geF rfl (by decide) (by decide) ?_
                    refine z_aload rfl rfl ?_
                    refine z_iload rfl rfl ?_
                    refine z_callVi (As := [_]) (le := [some _, some _]) rfl rfl rfl (Nat.le_of_ble_eq_true rfl) (Nat.le_of_ble_eq_true rfl) rfl ?_
                    refine z_aload rfl rfl ?_
                    refine z_getR (r := 83) rfl rfl (hRr _ rm_50_58 (by decide)) ?_
                    refine z_iload rfl rfl ?_
                    refine z_iald (v := J (38 + 2 * s.toNat) 1) rfl rfl (by decide) (by omega) (e83) ?_
                    refine z_pushI (z := (-1)) rfl rfl ?_
                    refine z_icmp_ne rfl (by omega) (by decide) (fun h10 => ?_) (fun h10 => ?_)
                    · refine z_aload rfl rfl ?_
                      refine z_getR (r := 83) rfl rfl (hRr _ rm_50_58 (by decide)) ?_
                      refine z_iload rfl rfl ?_
                      refine z_iald (v := J (38 + 2 * s.toNat) 1) rfl rfl (by decide) (by omega) (e83) ?_
                      refine z_pushI (z := (-2)) rfl rfl ?_
                      refine z_icmp_ne rfl (by omega) (by decide) (fun h11 => ?_) (fun h11 => ?_)
                      · refine z_pushI (z := (-12)) rfl rfl ?_
                        refine z_iret rfl rfl ?_
                        show zW _ _ _ _ _ _ _ _ _ _
                        refine z_iret rfl rfl ?_
                        refine ⟨?_, ?_⟩
                        · first | rfl | exact congrArg (fun v => some (zi v)) (by omega) | (exfalso; omega)
                        · exact hr
                      · refine z_pushI (z := 0) rfl rfl ?_
                        refine z_goto rfl ?_
                        refine z_iret rfl rfl ?_
                        show zW _ _ _ _ _ _ _ _ _ _
                        refine z_iret rfl rfl ?_
                        refine ⟨?_, ?_⟩
                        · first | rfl | exact congrArg (fun v => some (zi v)) (by omega) | (exfalso; omega)
                        · exact hr
                    · refine z_pushI (z := (-11)) rfl rfl ?_
                      refine z_goto rfl ?_
                      refine z_iret rfl rfl ?_
                      show zW _ _ _ _ _ _ _ _ _ _
                      refine z_iret rfl rfl ?_
                      refine ⟨?_, ?_⟩
                      · first | rfl | exact congrArg (fun v => some (zi v)) (by omega) | (exfalso; omega)
                      · exact hr
                  · refine z_pushI (z := 0) rfl rfl ?_
                    refine z_goto rfl ?_
                    refine z_iret rfl rfl ?_
                    show zW _ _ _ _ _ _ _ _ _ _
                    refine z_if_geT rfl (by decide) (by decide) ?_
                    refine z_aload rfl rfl ?_
                    refine z_iload rfl rfl ?_
                    refine z_pushI (z := 60) rfl rfl ?_
                    exfalso
                    omega
                · refine z_pushI (z := (-11)) rfl rfl ?_
                  refine z_goto rfl ?_
                  refine z_iret rfl rfl ?_
                  show zW _ _ _ _ _ _ _ _ _ _
                  refine z_if_geF rfl (by decide) (by decide) ?_
                  refine z_aload rfl rfl ?_
                  refine z_iload rfl rfl ?_
                  refine z_callVi (As := [_]) (le := [some _, some _]) rfl rfl rfl (Nat.le_of_ble_eq_true rfl) (Nat.le_of_ble_eq_true rfl) rfl ?_
                  refine z_aload rfl rfl ?_
                  refine z_getR (r := 83) rfl rfl (hRr _ rm_50_58 (by decide)) ?_
                  refine z_iload rfl rfl ?_
                  refine z_iald (v := J (38 + 2 * s.toNat) 1) rfl rfl (by decide) (by omega) (e83) ?_
                  refine z_pushI (z := (-1)) rfl rfl ?_
                  refine z_icmp_neF rfl (by omega) (by decide) (by omega) ?_
                  refine z_pushI (z := (-11)) rfl rfl ?_
                  refine z_goto rfl ?_
                  refine z_iret rfl rfl ?_
                  show zW _ _ _ _ _ _ _ _ _ _
                  refine z_iret rfl rfl ?_
                  refine ⟨?_, ?_⟩
                  · first | rfl | exact congrArg (fun v => some (zi v)) (by omega) | (exfalso; omega)
                  · exact hr
        · refine z_pushI (z := 1) rfl rfl ?_
          refine z_goto rfl ?_
          refine z_bret rfl rfl (by decide) ?_
          show zW _ _ _ _ _ _ _ _ _ _
          refine z_if_neT rfl (by decide) (by decide) ?_
          refine z_aload rfl rfl ?_
          refine z_getR (r := 10) rfl rfl (hR _ rm_0_2) ?_
          refine z_aload rfl rfl ?_
          refine z_getR (r := 37) rfl rfl (hR _ rm_0_11) ?_
          refine z_iload rfl rfl ?_
          refine z_aald (r := 38 + 2 * s.toNat) rfl rfl (by decide) (by omega) (rr_shelf hR (by omega)) ?_
          refine z_callVi (As := [_]) (le := [some _, some _, none, none, none]) rfl rfl rfl (Nat.le_of_ble_eq_true rfl) (Nat.le_of_ble_eq_true rfl) rfl ?_
          refine z_aload rfl rfl ?_
          refine z_callVi (As := []) (le := [some _]) rfl rfl (zk_shelf (by omega)) (Nat.le_of_ble_eq_true rfl) (Nat.le_of_ble_eq_true rfl) rfl ?_
          refine z_aload rfl rfl ?_
          refine z_getI (v := 1) rfl (zk_shelf (by omega)) (hh) ?_
          refine z_if_neT rfl (by decide) (by decide) ?_
          refine z_aload rfl rfl ?_
          refine z_callVi (As := []) (le := [some _]) rfl rfl (zk_shelf (by omega)) (Nat.le_of_ble_eq_true rfl) (Nat.le_of_ble_eq_true rfl) rfl ?_
          refine z_aload rfl rfl ?_
          refine z_getI (v := 1) rfl (zk_shelf (by omega)) (hh) ?_
          refine z_pushI (z := 2) rfl rfl ?_
          refine z_icmp_neT rfl (by decide) (by decide) (by decide) ?_
          refine z_pushI (z := 0) rfl rfl ?_
          refine z_bret rfl rfl (by decide) ?_
          show zW _ _ _ _ _ _ _ _ _ _
          refine z_if_eqT rfl (by decide) (by decide) ?_
          refine z_pushI (z := (-12)) rfl rfl ?_
          refine z_iret rfl rfl ?_
          show zW _ _ _ _ _ _ _ _ _ _
          refine z_istore rfl rfl ?_
          refine z_iload rfl rfl ?_
          refine z_if_geF rfl (by decide) (by decide) ?_
          refine z_iload rfl rfl ?_
          refine z_iret rfl rfl ?_
          show zW _ _ _ _ _ _ _ _ _ _
          refine z_istore rfl rfl ?_
          refine z_iload rfl rfl ?_
          refine z_if_geF rfl (by decide) (by decide) ?_
          refine z_iload rfl rfl ?_
          refine z_iret rfl rfl ?_
          refine ⟨_, rfl, ?_⟩
          show zW _ _ _ _ [some (.ref 50), some (zi s), some (zi v), some (zi q), none, none, none, none, none] _ _ _ _ _
          refine z_iload rfl rfl ?_
          refine z_callSi (As := [_]) (le := [some _]) rfl rfl (Nat.le_of_ble_eq_true rfl) (Nat.le_of_ble_eq_true rfl) rfl ?_
          refine z_iload rfl rfl ?_
          refine z_pushI (z := 0) rfl rfl ?_
          refine z_pushI (z := 5) rfl rfl ?_
          refine z_callSi (As := [_, _, _]) (le := [some _, some _, some _]) rfl rfl (Nat.le_of_ble_eq_true rfl) (Nat.le_of_ble_eq_true rfl) rfl ?_
          refine z_iload rfl rfl ?_
          refine z_iload rfl rfl ?_
          refine z_icmp_ltF rfl (by omega) (by decide) (by omega) ?_
          refine z_iload rfl rfl ?_
          refine z_iload rfl rfl ?_
          refine z_icmp_gtF rfl (by omega) (by decide) (by omega) ?_
          refine z_pushI (z := 1) rfl rfl ?_
          refine z_goto rfl ?_
          refine z_bret rfl rfl (by decide) ?_
          show zW _ _ _ _ _ _ _ _ _ _
          refine z_bret rfl rfl (by decide) ?_
          show zW _ _ _ _ _ _ _ _ _ _
          refine z_if_eqF rfl (by decide) (by decide) ?_
          refine z_iload rfl rfl ?_
          refine z_if_ltF rfl (by omega) (by omega) ?_
          refine z_iload rfl rfl ?_
          refine z_pushI (z := 100) rfl rfl ?_
          refine z_idiv (e := v / 100) rfl (by omega) (by omega) rfl ?_
          refine z_pushI (z := 9999) rfl rfl ?_
          refine z_icmp_gt rfl (by omega) (by decide) (fun h5 => ?_) (fun h5 => ?_)
          · refine z_pushI (z := (-1)) rfl rfl ?_
            refine z_iret rfl rfl ?_
            refine ⟨?_, ?_⟩
            · first | rfl | exact congrArg (fun v => some (zi v)) (by omega) | (exfalso; omega)
            · exact hr
          · refine z_iload rfl rfl ?_
            refine z_pushI (z := 0) rfl rfl ?_
            refine z_pushI (z := 1) rfl rfl ?_
            refine z_callSi (As := [_, _, _]) (le := [some _, some _, some _]) rfl rfl (Nat.le_of_ble_eq_true rfl) (Nat.le_of_ble_eq_true rfl) rfl ?_
            refine z_iload rfl rfl ?_
            refine z_iload rfl rfl ?_
            refine z_icmp_ltF rfl (by omega) (by decide) (by omega) ?_
            refine z_iload rfl rfl ?_
            refine z_iload rfl rfl ?_
            refine z_icmp_gtF rfl (by omega) (by decide) (by omega) ?_
            refine z_pushI (z := 1) rfl rfl ?_
            refine z_goto rfl ?_
            refine z_bret rfl rfl (by decide) ?_
            show zW _ _ _ _ _ _ _ _ _ _
            refine z_if_neT rfl (by decide) (by decide) ?_
            refine z_aload rfl rfl ?_
            refine z_iload rfl rfl ?_
            refine z_callVi (As := [_]) (le := [some _, some _]) rfl rfl rfl (Nat.le_of_ble_eq_true rfl) (Nat.le_of_ble_eq_true rfl) rfl ?_
            refine z_aload rfl rfl ?_
            refine z_getR (r := 83) rfl rfl (hRr _ rm_50_58 (by decide)) ?_
            refine z_iload rfl rfl ?_
            refine z_iald (v := J (38 + 2 * s.toNat) 1) rfl rfl (by decide) (by omega) (e83) ?_
            refine z_pushI (z := (-1)) rfl rfl ?_
            refine z_icmp_ne rfl (by omega) (by decide) (fun h6 => ?_) (fun h6 => ?_)
            · refine z_aload rfl rfl ?_
              refine z_getR (r := 83) rfl rfl (hRr _ rm_50_58 (by decide)) ?_
              refine z_iload rfl rfl ?_
              refine z_iald (v := J (38 + 2 * s.toNat) 1) rfl rfl (by decide) (by omega) (e83) ?_
              refine z_pushI (z := (-2)) rfl rfl ?_
              refine z_icmp_ne rfl (by omega) (by decide) (fun h7 => ?_) (fun h7 => ?_)
              · refine z_pushI (z := (-12)) rfl rfl ?_
                refine z_iret rfl rfl ?_
                show zW _ _ _ _ _ _ _ _ _ _
                refine z_if_geF rfl (by decide) (by decide) ?_
                refine z_aload rfl rfl ?_
                refine z_iload rfl rfl ?_
                refine z_callVi (As := [_]) (le := [some _, some _]) rfl rfl rfl (Nat.le_of_ble_eq_true rfl) (Nat.le_of_ble_eq_true rfl) rfl ?_
                refine z_aload rfl rfl ?_
                refine z_getR (r := 83) rfl rfl (hRr _ rm_50_58 (by decide)) ?_
                refine z_iload rfl rfl ?_
                refine z_iald (v := J (38 + 2 * s.toNat) 1) rfl rfl (by decide) (by omega) (e83) ?_
                refine z_pushI (z := (-1)) rfl rfl ?_
                refine z_icmp_ne rfl (by omega) (by decide) (fun h8 => ?_) (fun h8 => ?_)
                · refine z_aload rfl rfl ?_
                  refine z_getR (r := 83) rfl rfl (hRr _ rm_50_58 (by decide)) ?_
                  refine z_iload rfl rfl ?_
                  refine z_iald (v := J (38 + 2 * s.toNat) 1) rfl rfl (by decide) (by omega) (e83) ?_
                  refine z_pushI (z := (-2)) rfl rfl ?_
                  refine z_icmp_ne rfl (by omega) (by decide) (fun h9 => ?_) (fun h9 => ?_)
                  · refine z_pushI (z := (-12)) rfl rfl ?_
                    refine z_iret rfl rfl ?_
                    show zW _ _ _ _ _ _ _ _ _ _
                    refine z_iret rfl rfl ?_
                    refine ⟨?_, ?_⟩
                    · first | rfl | exact congrArg (fun v => some (zi v)) (by omega) | (exfalso; omega)
                    · exact hr
                  · refine z_pushI (z := 0) rfl rfl ?_
                    refine z_goto rfl ?_
                    refine z_iret rfl rfl ?_
                    show zW _ _ _ _ _ _ _ _ _ _
                    refine z_iret rfl rfl ?_
                    refine ⟨?_, ?_⟩
                    · first | rfl | exact congrArg (fun v => some (zi v)) (by omega) | (exfalso; omega)
                    · exact hr
                · refine z_pushI (z := (-11)) rfl rfl ?_
                  refine z_goto rfl ?_
                  refine z_iret rfl rfl ?_
                  show zW _ _ _ _ _ _ _ _ _ _
                  refine z_iret rfl rfl ?_
                  refine ⟨?_, ?_⟩
                  · first | rfl | exact congrArg (fun v => some (zi v)) (by omega) | (exfalso; omega)
                  · exact hr
              · refine z_pushI (z := 0) rfl rfl ?_
                refine z_goto rfl ?_
                refine z_iret rfl rfl ?_
                show zW _ _ _ _ _ _ _ _ _ _
                refine z_if_geT rfl (by decide) (by decide) ?_
                refine z_aload rfl rfl ?_
                refine z_iload rfl rfl ?_
                refine z_pushI (z := 60) rfl rfl ?_
                exfalso
                omega
            · refine z_pushI (z := (-11)) rfl rfl ?_
              refine z_goto rfl ?_
              refine z_iret rfl rfl ?_
              show zW _ _ _ _ _ _ _ _ _ _
              refine z_if_geF rfl (by decide) (by decide) ?_
              refine z_aload rfl rfl ?_
              refine z_iload rfl rfl ?_
              refine z_callVi (As := [_]) (le := [some _, some _]) rfl rfl rfl (Nat.le_of_ble_eq_true rfl) (Nat.le_of_ble_eq_true rfl) rfl ?_
              refine z_aload rfl rfl ?_
              refine z_getR (r := 83) rfl rfl (hRr _ rm_50_58 (by decide)) ?_
              refine z_iload rfl rfl ?_
              refine z_iald (v := J (38 + 2 * s.toNat) 1) rfl rfl (by decide) (by omega) (e83) ?_
              refine z_pushI (z := (-1)) rfl rfl ?_
              refine z_icmp_neF rfl (by omega) (by decide) (by omega) ?_
              refine z_pushI (z := (-11)) rfl rfl ?_
              refine z_goto rfl ?_
              refine z_iret rfl rfl ?_
              show zW _ _ _ _ _ _ _ _ _ _
              refine z_iret rfl rfl ?_
              refine ⟨?_, ?_⟩
              · first | rfl | exact congrArg (fun v => some (zi v)) (by omega) | (exfalso; omega)
              · exact hr
theorem st_giveUp_2 {X : Nat × (Nat → Int32)} {d : Nat} {J M : zA} {R : zR} {s v q : Int} (hr : Rel X J M R) (hs : -2147483648 ≤ s ∧ s < 2147483648) (hv : -2147483648 ≤ v ∧ v < 2147483648) (hq : -2147483648 ≤ q ∧ q < 2147483648) (hs6 : 0 ≤ s ∧ s < 6) (hh : J (38 + 2 * s.toNat) 0 = 2) (hso : ¬ J (38 + 2 * s.toNat) 2 = 0) : zW X (d + 20) 115 0 (gEn 115 [(.ref 0), (zi s), (zi v), (zi q)]) [] J M R (stP X (d + 20) 207 [(zi s), (zi v), (zi q)]) := by
  have hr0 := hr
  obtain ⟨hR, hG, hY, hD, hP, hC, hAc, hS, hTp, hX, hW⟩ := hr0
  have hRr : zRoR R := zRoR_of hR
  have hY0 := hY
  obtain ⟨y1, y2, y3⟩ := hY0
  have yn := zNn y3
  have hA0 := hAc
  obtain ⟨a1, a2, a3, a4, a5, a6⟩ := hA0
  have e83 : J 83 s = -2 - J (38 + 2 * s.toNat) 2 := (hS s hs6.1 hs6.2).1.symm.trans (cH_2 hh)
  have s3 : 0 ≤ J (38 + 2 * s.toNat) 2 ∧ J (38 + 2 * s.toNat) 2 ≤ 4 := (hS s hs6.1 hs6.2).2.2.1
  have s4 : 0 ≤ J (38 + 2 * s.toNat) 3 ∧ J (38 + 2 * s.toNat) 3 ≤ 60 := (hS s hs6.1 hs6.2).2.2.2.1
  have s6 := (hS s hs6.1 hs6.2).2.2.2.2.2 hh
  have s7 : J 84 s = J (38 + 2 * s.toNat) 3 := s6.1.symm
  have s8 : ∀ i, 0 ≤ i → i < J (38 + 2 * s.toNat) 3 → M (39 + 2 * s.toNat) i = M 85 (60 * s + i) := s6.2.1
  show zW _ _ _ _ [some (.ref 0), some (zi s), some (zi v), some (zi q), none, none, none, none, none, none] _ _ _ _ _
  refine z_iload rfl rfl ?_
  refine z_callSi (As := [_]) (le := [some _]) rfl rfl (Nat.le_of_ble_eq_true rfl) (Nat.le_of_ble_eq_true rfl) rfl ?_
  refine z_iload rfl rfl ?_
  refine z_if_ltF rfl (by omega) (by omega) ?_
  refine z_iload rfl rfl ?_
  refine z_pushI (z := 6) rfl rfl ?_
  refine z_icmp_geF rfl (by omega) (by decide) (by omega) ?_
  refine z_pushI (z := 1) rfl rfl ?_
  refine z_goto rfl ?_
  refine z_bret rfl rfl (by decide) ?_
  show zW _ _ _ _ _ _ _ _ _ _
  refine z_if_eqF rfl (by decide) (by decide) ?_
  refine z_iload rfl rfl ?_
  refine z_if_lt rfl (by omega) (fun h1 => ?_) (fun h1 => ?_)
  · refine z_pushI (z := (-1)) rfl rfl ?_
    refine z_iret rfl rfl ?_
    refine ⟨_, rfl, ?_⟩
    show zW _ _ _ _ [some (.ref 50), some (zi s), some (zi v), some (zi q), none, none, none, none, none] _ _ _ _ _
    refine z_iload rfl rfl ?_
    refine z_callSi (As := [_]) (le := [some _]) rfl rfl (Nat.le_of_ble_eq_true rfl) (Nat.le_of_ble_eq_true rfl) rfl ?_
    refine z_iload rfl rfl ?_
    refine z_pushI (z := 0) rfl rfl ?_
    refine z_pushI (z := 5) rfl rfl ?_
    refine z_callSi (As := [_, _, _]) (le := [some _, some _, some _]) rfl rfl (Nat.le_of_ble_eq_true rfl) (Nat.le_of_ble_eq_true rfl) rfl ?_
    refine z_iload rfl rfl ?_
    refine z_iload rfl rfl ?_
    refine z_icmp_ltF rfl (by omega) (by decide) (by omega) ?_
    refine z_iload rfl rfl ?_
    refine z_iload rfl rfl ?_
    refine z_icmp_gtF rfl (by omega) (by decide) (by omega) ?_
    refine z_pushI (z := 1) rfl rfl ?_
    refine z_goto rfl ?_
    refine z_bret rfl rfl (by decide) ?_
    show zW _ _ _ _ _ _ _ _ _ _
    refine z_bret rfl rfl (by decide) ?_
    show zW _ _ _ _ _ _ _ _ _ _
    refine z_if_eqF rfl (by decide) (by decide) ?_
    refine z_iload rfl rfl ?_
    refine z_if_ltT rfl (by omega) (by omega) ?_
    refine z_pushI (z := (-1)) rfl rfl ?_
    refine z_iret rfl rfl ?_
    refine ⟨?_, ?_⟩
    · first | rfl | exact congrArg (fun v => some (zi v)) (by omega) | (exfalso; omega)
    · exact hr
  · refine z_iload rfl rfl ?_
    refine z_pushI (z := 1000000) rfl rfl ?_
    refine z_icmp_ge rfl (by omega) (by decide) (fun h2 => ?_) (fun h2 => ?_)
    · refine z_pushI (z := (-1)) rfl rfl ?_
      refine z_iret rfl rfl ?_
      refine ⟨_, rfl, ?_⟩
      show zW _ _ _ _ [some (.ref 50), some (zi s), some (zi v), some (zi q), none, none, none, none, none] _ _ _ _ _
      refine z_iload rfl rfl ?_
      refine z_callSi (As := [_]) (le := [some _]) rfl rfl (Nat.le_of_ble_eq_true rfl) (Nat.le_of_ble_eq_true rfl) rfl ?_
      refine z_iload rfl rfl ?_
      refine z_pushI (z := 0) rfl rfl ?_
      refine z_pushI (z := 5) rfl rfl ?_
      refine z_callSi (As := [_, _, _]) (le := [some _, some _, some _]) rfl rfl (Nat.le_of_ble_eq_true rfl) (Nat.le_of_ble_eq_true rfl) rfl ?_
      refine z_iload rfl rfl ?_
      refine z_iload rfl rfl ?_
      refine z_icmp_ltF rfl (by omega) (by decide) (by omega) ?_
      refine z_iload rfl rfl ?_
      refine z_iload rfl rfl ?_
      refine z_icmp_gtF rfl (by omega) (by decide) (by omega) ?_
      refine z_pushI (z := 1) rfl rfl ?_
      refine z_goto rfl ?_
      refine z_bret rfl rfl (by decide) ?_
      show zW _ _ _ _ _ _ _ _ _ _
      refine z_bret rfl rfl (by decide) ?_
      show zW _ _ _ _ _ _ _ _ _ _
      refine z_if_eqF rfl (by decide) (by decide) ?_
      refine z_iload rfl rfl ?_
      refine z_if_ltF rfl (by omega) (by omega) ?_
      refine z_iload rfl rfl ?_
      refine z_pushI (z := 100) rfl rfl ?_
      refine z_idiv (e := v / 100) rfl (by omega) (by omega) rfl ?_
      refine z_pushI (z := 9999) rfl rfl ?_
      refine z_icmp_gt rfl (by omega) (by decide) (fun h3 => ?_) (fun h3 => ?_)
      · refine z_pushI (z := (-1)) rfl rfl ?_
        refine z_iret rfl rfl ?_
        refine ⟨?_, ?_⟩
        · first | rfl | exact congrArg (fun v => some (zi v)) (by omega) | (exfalso; omega)
        · exact hr
      · refine z_iload rfl rfl ?_
        refine z_pushI (z := 0) rfl rfl ?_
        refine z_pushI (z := 1) rfl rfl ?_
        refine z_callSi (As := [_, _, _]) (le := [some _, some _, some _]) rfl rfl (Nat.le_of_ble_eq_true rfl) (Nat.le_of_ble_eq_true rfl) rfl ?_
        refine z_iload rfl rfl ?_
        refine z_iload rfl rfl ?_
        refine z_icmp_lt rfl (by omega) (by decide) (fun h4 => ?_) (fun h4 => ?_)
        · refine z_pushI (z := 0) rfl rfl ?_
          refine z_bret rfl rfl (by decide) ?_
          show zW _ _ _ _ _ _ _ _ _ _
          refine z_if_neF rfl (by decide) (by decide) ?_
          refine z_pushI (z := (-1)) rfl rfl ?_
          refine z_iret rfl rfl ?_
          refine ⟨?_, ?_⟩
          · first | rfl | exact congrArg (fun v => some (zi v)) (by omega) | (exfalso; omega)
          · exact hr
        · refine z_iload rfl rfl ?_
          refine z_iload rfl rfl ?_
          refine z_icmp_gt rfl (by omega) (by decide) (fun h5 => ?_) (fun h5 => ?_)
          · refine z_pushI (z := 0) rfl rfl ?_
            refine z_bret rfl rfl (by decide) ?_
            show zW _ _ _ _ _ _ _ _ _ _
            refine z_if_neF rfl (by decide) (by decide) ?_
            refine z_pushI (z := (-1)) rfl rfl ?_
            refine z_iret rfl rfl ?_
            refine ⟨?_, ?_⟩
            · first | rfl | exact congrArg (fun v => some (zi v)) (by omega) | (exfalso; omega)
            · exact hr
          · refine z_pushI (z := 1) rfl rfl ?_
            refine z_goto rfl ?_
            refine z_bret rfl rfl (by decide) ?_
            show zW _ _ _ _ _ _ _ _ _ _
            refine z_if_neT rfl (by decide) (by decide) ?_
            refine z_aload rfl rfl ?_
            refine z_iload rfl rfl ?_
            refine z_callVi (As := [_]) (le := [some _, some _]) rfl rfl rfl (Nat.le_of_ble_eq_true rfl) (Nat.le_of_ble_eq_true rfl) rfl ?_
            refine z_aload rfl rfl ?_
            refine z_getR (r := 83) rfl rfl (hRr _ rm_50_58 (by decide)) ?_
            refine z_iload rfl rfl ?_
            refine z_iald (v := (-2) - (J (38 + 2 * s.toNat) 2)) rfl rfl (by decide) (by omega) (e83) ?_
            refine z_pushI (z := (-1)) rfl rfl ?_
            refine z_icmp_neT rfl (by omega) (by decide) (by omega) ?_
            refine z_aload rfl rfl ?_
            refine z_getR (r := 83) rfl rfl (hRr _ rm_50_58 (by decide)) ?_
            refine z_iload rfl rfl ?_
            refine z_iald (v := (-2) - (J (38 + 2 * s.toNat) 2)) rfl rfl (by decide) (by omega) (e83) ?_
            refine z_pushI (z := (-2)) rfl rfl ?_
            refine z_icmp_neT rfl (by omega) (by decide) (by omega) ?_
            refine z_pushI (z := (-12)) rfl rfl ?_
            refine z_iret rfl rfl ?_
            show zW _ _ _ _ _ _ _ _ _ _
            refine z_if_geF rfl (by decide) (by decide) ?_
            refine z_aload rfl rfl ?_
            refine z_iload rfl rfl ?_
            refine z_callVi (As := [_]) (le := [some _, some _]) rfl rfl rfl (Nat.le_of_ble_eq_true rfl) (Nat.le_of_ble_eq_true rfl) rfl ?_
            refine z_aload rfl rfl ?_
            refine z_getR (r := 83) rfl rfl (hRr _ rm_50_58 (by decide)) ?_
            refine z_iload rfl rfl ?_
            refine z_iald (v := (-2) - (J (38 + 2 * s.toNat) 2)) rfl rfl (by decide) (by omega) (e83) ?_
            refine z_pushI (z := (-1)) rfl rfl ?_
            refine z_icmp_neT rfl (by omega) (by decide) (by omega) ?_
            refine z_aload rfl rfl ?_
            refine z_getR (r := 83) rfl rfl (hRr _ rm_50_58 (by decide)) ?_
            refine z_iload rfl rfl ?_
            refine z_iald (v := (-2) - (J (38 + 2 * s.toNat) 2)) rfl rfl (by decide) (by omega) (e83) ?_
            refine z_pushI (z := (-2)) rfl rfl ?_
            refine z_icmp_neT rfl (by omega) (by decide) (by omega) ?_
            refine z_pushI (z := (-12)) rfl rfl ?_
            refine z_iret rfl rfl ?_
            show zW _ _ _ _ _ _ _ _ _ _
            refine z_iret rfl rfl ?_
            refine ⟨?_, ?_⟩
            · first | rfl | exact congrArg (fun v => some (zi v)) (by omega) | (exfalso; omega)
            · exact hr
    · refine z_iload rfl rfl ?_
      refine z_callSi (As := [_]) (le := [some _]) rfl rfl (Nat.le_of_ble_eq_true rfl) (Nat.le_of_ble_eq_true rfl) rfl ?_
      refine z_iload rfl rfl ?_
      refine z_if_eq rfl (by omega) (fun h3 => ?_) (fun h3 => ?_)
      · refine z_pushI (z := 1) rfl rfl ?_
        refine z_goto rfl ?_
        refine z_bret rfl rfl (by decide) ?_
        show zW _ _ _ _ _ _ _ _ _ _
        refine z_if_neT rfl (by decide) (by decide) ?_
        refine z_aload rfl rfl ?_
        refine z_getR (r := 10) rfl rfl (hR _ rm_0_2) ?_
        refine z_aload rfl rfl ?_
        refine z_getR (r := 37) rfl rfl (hR _ rm_0_11) ?_
        refine z_iload rfl rfl ?_
        refine z_aald (r := 38 + 2 * s.toNat) rfl rfl (by decide) (by omega) (rr_shelf hR (by omega)) ?_
        refine z_callVi (As := [_]) (le := [some _, some _, none, none, none]) rfl rfl rfl (Nat.le_of_ble_eq_true rfl) (Nat.le_of_ble_eq_true rfl) rfl ?_
        refine z_aload rfl rfl ?_
        refine z_callVi (As := []) (le := [some _]) rfl rfl (zk_shelf (by omega)) (Nat.le_of_ble_eq_true rfl) (Nat.le_of_ble_eq_true rfl) rfl ?_
        refine z_aload rfl rfl ?_
        refine z_getI (v := 2) rfl (zk_shelf (by omega)) (hh) ?_
        refine z_if_neT rfl (by decide) (by decide) ?_
        refine z_aload rfl rfl ?_
        refine z_callVi (As := []) (le := [some _]) rfl rfl (zk_shelf (by omega)) (Nat.le_of_ble_eq_true rfl) (Nat.le_of_ble_eq_true rfl) rfl ?_
        refine z_aload rfl rfl ?_
        refine z_getI (v := 2) rfl (zk_shelf (by omega)) (hh) ?_
        refine z_pushI (z := 2) rfl rfl ?_
        refine z_icmp_neF rfl (by decide) (by decide) (by decide) ?_
        refine z_aload rfl rfl ?_
        refine z_getI (v := J (38 + 2 * s.toNat) 2) rfl (zk_shelf (by omega)) (rfl) ?_
        refine z_if_neT rfl (by omega) (by omega) ?_
        refine z_pushI (z := 0) rfl rfl ?_
        refine z_bret rfl rfl (by decide) ?_
        show zW _ _ _ _ _ _ _ _ _ _
        refine z_if_eqT rfl (by decide) (by decide) ?_
        refine z_pushI (z := (-12)) rfl rfl ?_
        refine z_iret rfl rfl ?_
        show zW _ _ _ _ _ _ _ _ _ _
        refine z_istore rfl rfl ?_
        refine z_iload rfl rfl ?_
        refine z_if_geF rfl (by decide) (by decide) ?_
        refine z_iload rfl rfl ?_
        refine z_iret rfl rfl ?_
        show zW _ _ _ _ _ _ _ _ _ _
        refine z_istore rfl rfl ?_
        refine z_iload rfl rfl ?_
        refine z_if_geF rfl (by decide) (by decide) ?_
        refine z_iload rfl rfl ?_
        refine z_iret rfl rfl ?_
        refine ⟨_, rfl, ?_⟩
        show zW _ _ _ _ [some (.ref 50), some (zi s), some (zi v), some (zi q), none, none, none, none, none] _ _ _ _ _
        refine z_iload rfl rfl ?_
        refine z_callSi (As := [_]) (le := [some _]) rfl rfl (Nat.le_of_ble_eq_true rfl) (Nat.le_of_ble_eq_true rfl) rfl ?_
        refine z_iload rfl rfl ?_
        refine z_pushI (z := 0) rfl rfl ?_
        refine z_pushI (z := 5) rfl rfl ?_
        refine z_callSi (As := [_, _, _]) (le := [some _, some _, some _]) rfl rfl (Nat.le_of_ble_eq_true rfl) (Nat.le_of_ble_eq_true rfl) rfl ?_
        refine z_iload rfl rfl ?_
        refine z_iload rfl rfl ?_
        refine z_icmp_ltF rfl (by omega) (by decide) (by omega) ?_
        refine z_iload rfl rfl ?_
        refine z_iload rfl rfl ?_
        refine z_icmp_gtF rfl (by omega) (by decide) (by omega) ?_
        refine z_pushI (z := 1) rfl rfl ?_
        refine z_goto rfl ?_
        refine z_bret rfl rfl (by decide) ?_
        show zW _ _ _ _ _ _ _ _ _ _
        refine z_bret rfl rfl (by decide) ?_
        show zW _ _ _ _ _ _ _ _ _ _
        refine z_if_eqF rfl (by decide) (by decide) ?_
        refine z_iload rfl rfl ?_
        refine z_if_ltF rfl (by omega) (by omega) ?_
        refine z_iload rfl rfl ?_
        refine z_pushI (z := 100) rfl rfl ?_
        refine z_idiv (e := v / 100) rfl (by omega) (by omega) rfl ?_
        refine z_pushI (z := 9999) rfl rfl ?_
        refine z_icmp_gt rfl (by omega) (by decide) (fun h4 => ?_) (fun h4 => ?_)
        · refine z_pushI (z := (-1)) rfl rfl ?_
          refine z_iret rfl rfl ?_
          refine ⟨?_, ?_⟩
          · first | rfl | exact congrArg (fun v => some (zi v)) (by omega) | (exfalso; omega)
          · exact hr
        · refine z_iload rfl rfl ?_
          refine z_pushI (z := 0) rfl rfl ?_
          refine z_pushI (z := 1) rfl rfl ?_
          refine z_callSi (As := [_, _, _]) (le := [some _, some _, some _]) rfl rfl (Nat.le_of_ble_eq_true rfl) (Nat.le_of_ble_eq_true rfl) rfl ?_
          refine z_iload rfl rfl ?_
          refine z_iload rfl rfl ?_
          refine z_icmp_ltF rfl (by omega) (by decide) (by omega) ?_
          refine z_iload rfl rfl ?_
          refine z_iload rfl rfl ?_
          refine z_icmp_gtF rfl (by omega) (by decide) (by omega) ?_
          refine z_pushI (z := 1) rfl rfl ?_
          refine z_goto rfl ?_
          refine z_bret rfl rfl (by decide) ?_
          show zW _ _ _ _ _ _ _ _ _ _
          refine z_if_neT rfl (by decide) (by decide) ?_
          refine z_aload rfl rfl ?_
          refine z_iload rfl rfl ?_
          refine z_callVi (As := [_]) (le := [some _, some _]) rfl rfl rfl (Nat.le_of_ble_eq_true rfl) (Nat.le_of_ble_eq_true rfl) rfl ?_
          refine z_aload rfl rfl ?_
          refine z_getR (r := 83) rfl rfl (hRr _ rm_50_58 (by decide)) ?_
          refine z_iload rfl rfl ?_
          refine z_iald (v := (-2) - (J (38 + 2 * s.toNat) 2)) rfl rfl (by decide) (by omega) (e83) ?_
          refine z_pushI (z := (-1)) rfl rfl ?_
          refine z_icmp_neT rfl (by omega) (by decide) (by omega) ?_
          refine z_aload rfl rfl ?_
          refine z_getR (r := 83) rfl rfl (hRr _ rm_50_58 (by decide)) ?_
          refine z_iload rfl rfl ?_
          refine z_iald (v := (-2) - (J (38 + 2 * s.toNat) 2)) rfl rfl (by decide) (by omega) (e83) ?_
          refine z_pushI (z := (-2)) rfl rfl ?_
          refine z_icmp_neT rfl (by omega) (by decide) (by omega) ?_
          refine z_pushI (z := (-12)) rfl rfl ?_
          refine z_iret rfl rfl ?_
          show zW _ _ _ _ _ _ _ _ _ _
          refine z_if_geF rfl (by decide) (by decide) ?_
          refine z_aload rfl rfl ?_
          refine z_iload rfl rfl ?_
          refine z_callVi (As := [_]) (le := [some _, some _]) rfl rfl rfl (Nat.le_of_ble_eq_true rfl) (Nat.le_of_ble_eq_true rfl) rfl ?_
          refine z_aload rfl rfl ?_
          refine z_getR (r := 83) rfl rfl (hRr _ rm_50_58 (by decide)) ?_
          refine z_iload rfl rfl ?_
          refine z_iald (v := (-2) - (J (38 + 2 * s.toNat) 2)) rfl rfl (by decide) (by omega) (e83) ?_
          refine z_pushI (z := (-1)) rfl rfl ?_
          refine z_icmp_neT rfl (by omega) (by decide) (by omega) ?_
          refine z_aload rfl rfl ?_
          refine z_getR (r := 83) rfl rfl (hRr _ rm_50_58 (by decide)) ?_
          refine z_iload rfl rfl ?_
          refine z_iald (v := (-2) - (J (38 + 2 * s.toNat) 2)) rfl rfl (by decide) (by omega) (e83) ?_
          refine z_pushI (z := (-2)) rfl rfl ?_
          refine z_icmp_neT rfl (by omega) (by decide) (by omega) ?_
          refine z_pushI (z := (-12)) rfl rfl ?_
          refine z_iret rfl rfl ?_
          show zW _ _ _ _ _ _ _ _ _ _
          refine z_iret rfl rfl ?_
          refine ⟨?_, ?_⟩
          · first | rfl | exact congrArg (fun v => some (zi v)) (by omega) | (exfalso; omega)
          · exact hr
      · refine z_iload rfl rfl ?_
        refine z_pushI (z := 1) rfl rfl ?_
        refine z_icmp_ne rfl (by omega) (by decide) (fun h4 => ?_) (fun h4 => ?_)
        · refine z_pushI (z := 0) rfl rfl ?_
          refine z_bret rfl rfl (by decide) ?_
          show zW _ _ _ _ _ _ _ _ _ _
          refine z_if_neF rfl (by decide) (by decide) ?_
          refine z_pushI (z := (-1)) rfl rfl ?_
          refine z_iret rfl rfl ?_
          refine ⟨_, rfl, ?_⟩
          show zW _ _ _ _ [some (.ref 50), some (zi s), some (zi v), some (zi q), none, none, none, none, none] _ _ _ _ _
          refine z_iload rfl rfl ?_
          refine z_callSi (As := [_]) (le := [some _]) rfl rfl (Nat.le_of_ble_eq_true rfl) (Nat.le_of_ble_eq_true rfl) rfl ?_
          refine z_iload rfl rfl ?_
          refine z_pushI (z := 0) rfl rfl ?_
          refine z_pushI (z := 5) rfl rfl ?_
          refine z_callSi (As := [_, _, _]) (le := [some _, some _, some _]) rfl rfl (Nat.le_of_ble_eq_true rfl) (Nat.le_of_ble_eq_true rfl) rfl ?_
          refine z_iload rfl rfl ?_
          refine z_iload rfl rfl ?_
          refine z_icmp_ltF rfl (by omega) (by decide) (by omega) ?_
          refine z_iload rfl rfl ?_
          refine z_iload rfl rfl ?_
          refine z_icmp_gtF rfl (by omega) (by decide) (by omega) ?_
          refine z_pushI (z := 1) rfl rfl ?_
          refine z_goto rfl ?_
          refine z_bret rfl rfl (by decide) ?_
          show zW _ _ _ _ _ _ _ _ _ _
          refine z_bret rfl rfl (by decide) ?_
          show zW _ _ _ _ _ _ _ _ _ _
          refine z_if_eqF rfl (by decide) (by decide) ?_
          refine z_iload rfl rfl ?_
          refine z_if_ltF rfl (by omega) (by omega) ?_
          refine z_iload rfl rfl ?_
          refine z_pushI (z := 100) rfl rfl ?_
          refine z_idiv (e := v / 100) rfl (by omega) (by omega) rfl ?_
          refine z_pushI (z := 9999) rfl rfl ?_
          refine z_icmp_gt rfl (by omega) (by decide) (fun h5 => ?_) (fun h5 => ?_)
          · refine z_pushI (z := (-1)) rfl rfl ?_
            refine z_iret rfl rfl ?_
            refine ⟨?_, ?_⟩
            · first | rfl | exact congrArg (fun v => some (zi v)) (by omega) | (exfalso; omega)
            · exact hr
          · refine z_iload rfl rfl ?_
            refine z_pushI (z := 0) rfl rfl ?_
            refine z_pushI (z := 1) rfl rfl ?_
            refine z_callSi (As := [_, _, _]) (le := [some _, some _, some _]) rfl rfl (Nat.le_of_ble_eq_true rfl) (Nat.le_of_ble_eq_true rfl) rfl ?_
            refine z_iload rfl rfl ?_
            refine z_iload rfl rfl ?_
            refine z_icmp_lt rfl (by omega) (by decide) (fun h6 => ?_) (fun h6 => ?_)
            · refine z_pushI (z := 0) rfl rfl ?_
              refine z_bret rfl rfl (by decide) ?_
              show zW _ _ _ _ _ _ _ _ _ _
              refine z_if_neF rfl (by decide) (by decide) ?_
              refine z_pushI (z := (-1)) rfl rfl ?_
              refine z_iret rfl rfl ?_
              refine ⟨?_, ?_⟩
              · first | rfl | exact congrArg (fun v => some (zi v)) (by omega) | (exfalso; omega)
              · exact hr
            · refine z_iload rfl rfl ?_
              refine z_iload rfl rfl ?_
              refine z_icmp_gt rfl (by omega) (by decide) (fun h7 => ?_) (fun h7 => ?_)
              · refine z_pushI (z := 0) rfl rfl ?_
                refine z_bret rfl rfl (by decide) ?_
                show zW _ _ _ _ _ _ _ _ _ _
                refine z_if_neF rfl (by decide) (by decide) ?_
                refine z_pushI (z := (-1)) rfl rfl ?_
                refine z_iret rfl rfl ?_
                refine ⟨?_, ?_⟩
                · first | rfl | exact congrArg (fun v => some (zi v)) (by omega) | (exfalso; omega)
                · exact hr
              · refine z_pushI (z := 1) rfl rfl ?_
                refine z_goto rfl ?_
                refine z_bret rfl rfl (by decide) ?_
                show zW _ _ _ _ _ _ _ _ _ _
                refine z_if_neT rfl (by decide) (by decide) ?_
                refine z_aload rfl rfl ?_
                refine z_iload rfl rfl ?_
                refine z_callVi (As := [_]) (le := [some _, some _]) rfl rfl rfl (Nat.le_of_ble_eq_true rfl) (Nat.le_of_ble_eq_true rfl) rfl ?_
                refine z_aload rfl rfl ?_
                refine z_getR (r := 83) rfl rfl (hRr _ rm_50_58 (by decide)) ?_
                refine z_iload rfl rfl ?_
                refine z_iald (v := (-2) - (J (38 + 2 * s.toNat) 2)) rfl rfl (by decide) (by omega) (e83) ?_
                refine z_pushI (z := (-1)) rfl rfl ?_
                refine z_icmp_neT rfl (by omega) (by decide) (by omega) ?_
                refine z_aload rfl rfl ?_
                refine z_getR (r := 83) rfl rfl (hRr _ rm_50_58 (by decide)) ?_
                refine z_iload rfl rfl ?_
                refine z_iald (v := (-2) - (J (38 + 2 * s.toNat) 2)) rfl rfl (by decide) (by omega) (e83) ?_
                refine z_pushI (z := (-2)) rfl rfl ?_
                refine z_icmp_neT rfl (by omega) (by decide) (by omega) ?_
                refine z_pushI (z := (-12)) rfl rfl ?_
                refine z_iret rfl rfl ?_
                show zW _ _ _ _ _ _ _ _ _ _
                refine z_if_geF rfl (by decide) (by decide) ?_
                refine z_aload rfl rfl ?_
                refine z_iload rfl rfl ?_
                refine z_callVi (As := [_]) (le := [some _, some _]) rfl rfl rfl (Nat.le_of_ble_eq_true rfl) (Nat.le_of_ble_eq_true rfl) rfl ?_
                refine z_aload rfl rfl ?_
                refine z_getR (r := 83) rfl rfl (hRr _ rm_50_58 (by decide)) ?_
                refine z_iload rfl rfl ?_
                refine z_iald (v := (-2) - (J (38 + 2 * s.toNat) 2)) rfl rfl (by decide) (by omega) (e83) ?_
                refine z_pushI (z := (-1)) rfl rfl ?_
                refine z_icmp_neT rfl (by omega) (by decide) (by omega) ?_
                refine z_aload rfl rfl ?_
                refine z_getR (r := 83) rfl rfl (hRr _ rm_50_58 (by decide)) ?_
                refine z_iload rfl rfl ?_
                refine z_iald (v := (-2) - (J (38 + 2 * s.toNat) 2)) rfl rfl (by decide) (by omega) (e83) ?_
                refine z_pushI (z := (-2)) rfl rfl ?_
                refine z_icmp_neT rfl (by omega) (by decide) (by omega) ?_
                refine z_pushI (z := (-12)) rfl rfl ?_
                refine z_iret rfl rfl ?_
                show zW _ _ _ _ _ _ _ _ _ _
                refine z_iret rfl rfl ?_
                refine ⟨?_, ?_⟩
                · first | rfl | exact congrArg (fun v => some (zi v)) (by omega) | (exfalso; omega)
                · exact hr
        · refine z_pushI (z := 1) rfl rfl ?_
          refine z_goto rfl ?_
          refine z_bret rfl rfl (by decide) ?_
          show zW _ _ _ _ _ _ _ _ _ _
          refine z_if_neT rfl (by decide) (by decide) ?_
          refine z_aload rfl rfl ?_
          refine z_getR (r := 10) rfl rfl (hR _ rm_0_2) ?_
          refine z_aload rfl rfl ?_
          refine z_getR (r := 37) rfl rfl (hR _ rm_0_11) ?_
          refine z_iload rfl rfl ?_
          refine z_aald (r := 38 + 2 * s.toNat) rfl rfl (by decide) (by omega) (rr_shelf hR (by omega)) ?_
          refine z_callVi (As := [_]) (le := [some _, some _, none, none, none]) rfl rfl rfl (Nat.le_of_ble_eq_true rfl) (Nat.le_of_ble_eq_true rfl) rfl ?_
          refine z_aload rfl rfl ?_
          refine z_callVi (As := []) (le := [some _]) rfl rfl (zk_shelf (by omega)) (Nat.le_of_ble_eq_true rfl) (Nat.le_of_ble_eq_true rfl) rfl ?_
          refine z_aload rfl rfl ?_
          refine z_getI (v := 2) rfl (zk_shelf (by omega)) (hh) ?_
          refine z_if_neT rfl (by decide) (by decide) ?_
          refine z_aload rfl rfl ?_
          refine z_callVi (As := []) (le := [some _]) rfl rfl (zk_shelf (by omega)) (Nat.le_of_ble_eq_true rfl) (Nat.le_of_ble_eq_true rfl) rfl ?_
          refine z_aload rfl rfl ?_
          refine z_getI (v := 2) rfl (zk_shelf (by omega)) (hh) ?_
          refine z_pushI (z := 2) rfl rfl ?_
          refine z_icmp_neF rfl (by decide) (by decide) (by decide) ?_
          refine z_aload rfl rfl ?_
          refine z_getI (v := J (38 + 2 * s.toNat) 2) rfl (zk_shelf (by omega)) (rfl) ?_
          refine z_if_neT rfl (by omega) (by omega) ?_
          refine z_pushI (z := 0) rfl rfl ?_
          refine z_bret rfl rfl (by decide) ?_
          show zW _ _ _ _ _ _ _ _ _ _
          refine z_if_eqT rfl (by decide) (by decide) ?_
          refine z_pushI (z := (-12)) rfl rfl ?_
          refine z_iret rfl rfl ?_
          show zW _ _ _ _ _ _ _ _ _ _
          refine z_istore rfl rfl ?_
          refine z_iload rfl rfl ?_
          refine z_if_geF rfl (by decide) (by decide) ?_
          refine z_iload rfl rfl ?_
          refine z_iret rfl rfl ?_
          show zW _ _ _ _ _ _ _ _ _ _
          refine z_istore rfl rfl ?_
          refine z_iload rfl rfl ?_
          refine z_if_geF rfl (by decide) (by decide) ?_
          refine z_iload rfl rfl ?_
          refine z_iret rfl rfl ?_
          refine ⟨_, rfl, ?_⟩
          show zW _ _ _ _ [some (.ref 50), some (zi s), some (zi v), some (zi q), none, none, none, none, none] _ _ _ _ _
          refine z_iload rfl rfl ?_
          refine z_callSi (As := [_]) (le := [some _]) rfl rfl (Nat.le_of_ble_eq_true rfl) (Nat.le_of_ble_eq_true rfl) rfl ?_
          refine z_iload rfl rfl ?_
          refine z_pushI (z := 0) rfl rfl ?_
          refine z_pushI (z := 5) rfl rfl ?_
          refine z_callSi (As := [_, _, _]) (le := [some _, some _, some _]) rfl rfl (Nat.le_of_ble_eq_true rfl) (Nat.le_of_ble_eq_true rfl) rfl ?_
          refine z_iload rfl rfl ?_
          refine z_iload rfl rfl ?_
          refine z_icmp_ltF rfl (by omega) (by decide) (by omega) ?_
          refine z_iload rfl rfl ?_
          refine z_iload rfl rfl ?_
          refine z_icmp_gtF rfl (by omega) (by decide) (by omega) ?_
          refine z_pushI (z := 1) rfl rfl ?_
          refine z_goto rfl ?_
          refine z_bret rfl rfl (by decide) ?_
          show zW _ _ _ _ _ _ _ _ _ _
          refine z_bret rfl rfl (by decide) ?_
          show zW _ _ _ _ _ _ _ _ _ _
          refine z_if_eqF rfl (by decide) (by decide) ?_
          refine z_iload rfl rfl ?_
          refine z_if_ltF rfl (by omega) (by omega) ?_
          refine z_iload rfl rfl ?_
          refine z_pushI (z := 100) rfl rfl ?_
          refine z_idiv (e := v / 100) rfl (by omega) (by omega) rfl ?_
          refine z_pushI (z := 9999) rfl rfl ?_
          refine z_icmp_gt rfl (by omega) (by decide) (fun h5 => ?_) (fun h5 => ?_)
          · refine z_pushI (z := (-1)) rfl rfl ?_
            refine z_iret rfl rfl ?_
            refine ⟨?_, ?_⟩
            · first | rfl | exact congrArg (fun v => some (zi v)) (by omega) | (exfalso; omega)
            · exact hr
          · refine z_iload rfl rfl ?_
            refine z_pushI (z := 0) rfl rfl ?_
            refine z_pushI (z := 1) rfl rfl ?_
            refine z_callSi (As := [_, _, _]) (le := [some _, some _, some _]) rfl rfl (Nat.le_of_ble_eq_true rfl) (Nat.le_of_ble_eq_true rfl) rfl ?_
            refine z_iload rfl rfl ?_
            refine z_iload rfl rfl ?_
            refine z_icmp_ltF rfl (by omega) (by decide) (by omega) ?_
            refine z_iload rfl rfl ?_
            refine z_iload rfl rfl ?_
            refine z_icmp_gtF rfl (by omega) (by decide) (by omega) ?_
            refine z_pushI (z := 1) rfl rfl ?_
            refine z_goto rfl ?_
            refine z_bret rfl rfl (by decide) ?_
            show zW _ _ _ _ _ _ _ _ _ _
            refine z_if_neT rfl (by decide) (by decide) ?_
            refine z_aload rfl rfl ?_
            refine z_iload rfl rfl ?_
            refine z_callVi (As := [_]) (le := [some _, some _]) rfl rfl rfl (Nat.le_of_ble_eq_true rfl) (Nat.le_of_ble_eq_true rfl) rfl ?_
            refine z_aload rfl rfl ?_
            refine z_getR (r := 83) rfl rfl (hRr _ rm_50_58 (by decide)) ?_
            refine z_iload rfl rfl ?_
            refine z_iald (v := (-2) - (J (38 + 2 * s.toNat) 2)) rfl rfl (by decide) (by omega) (e83) ?_
            refine z_pushI (z := (-1)) rfl rfl ?_
            refine z_icmp_neT rfl (by omega) (by decide) (by omega) ?_
            refine z_aload rfl rfl ?_
            refine z_getR (r := 83) rfl rfl (hRr _ rm_50_58 (by decide)) ?_
            refine z_iload rfl rfl ?_
            refine z_iald (v := (-2) - (J (38 + 2 * s.toNat) 2)) rfl rfl (by decide) (by omega) (e83) ?_
            refine z_pushI (z := (-2)) rfl rfl ?_
            refine z_icmp_neT rfl (by omega) (by decide) (by omega) ?_
            refine z_pushI (z := (-12)) rfl rfl ?_
            refine z_iret rfl rfl ?_
            show zW _ _ _ _ _ _ _ _ _ _
            refine z_if_geF rfl (by decide) (by decide) ?_
            refine z_aload rfl rfl ?_
            refine z_iload rfl rfl ?_
            refine z_callVi (As := [_]) (le := [some _, some _]) rfl rfl rfl (Nat.le_of_ble_eq_true rfl) (Nat.le_of_ble_eq_true rfl) rfl ?_
            refine z_aload rfl rfl ?_
            refine z_getR (r := 83) rfl rfl (hRr _ rm_50_58 (by decide)) ?_
            refine z_iload rfl rfl ?_
            refine z_iald (v := (-2) - (J (38 + 2 * s.toNat) 2)) rfl rfl (by decide) (by omega) (e83) ?_
            refine z_pushI (z := (-1)) rfl rfl ?_
            refine z_icmp_neT rfl (by omega) (by decide) (by omega) ?_
            refine z_aload rfl rfl ?_
            refine z_getR (r := 83) rfl rfl (hRr _ rm_50_58 (by decide)) ?_
            refine z_iload rfl rfl ?_
            refine z_iald (v := (-2) - (J (38 + 2 * s.toNat) 2)) rfl rfl (by decide) (by omega) (e83) ?_
            refine z_pushI (z := (-2)) rfl rfl ?_
            refine z_icmp_neT rfl (by omega) (by decide) (by omega) ?_
            refine z_pushI (z := (-12)) rfl rfl ?_
            refine z_iret rfl rfl ?_
            show zW _ _ _ _ _ _ _ _ _ _
            refine z_iret rfl rfl ?_
            refine ⟨?_, ?_⟩
            · first | rfl | exact congrArg (fun v => some (zi v)) (by omega) | (exfalso; omega)
            · exact hr
theorem st_giveUp_m {X : Nat × (Nat → Int32)} {d : Nat} {J M : zA} {R : zR} {s v q : Int} (hr : Rel X J M R) (hs : -2147483648 ≤ s ∧ s < 2147483648) (hv : -2147483648 ≤ v ∧ v < 2147483648) (hq : -2147483648 ≤ q ∧ q < 2147483648) (hs6 : 0 ≤ s ∧ s < 6) (hh : J (38 + 2 * s.toNat) 0 = 2) (hso : J (38 + 2 * s.toNat) 2 = 0) : zW X (d + 20) 115 0 (gEn 115 [(.ref 0), (zi s), (zi v), (zi q)]) [] J M R (stP X (d + 20) 207 [(zi s), (zi v), (zi q)]) := by
  have hr0 := hr
  obtain ⟨hR, hG, hY, hD, hP, hC, hAc, hS, hTp, hX, hW⟩ := hr0
  have hRr : zRoR R := zRoR_of hR
  have hY0 := hY
  obtain ⟨y1, y2, y3⟩ := hY0
  have yn := zNn y3
  have e83 : J 83 s = -2 - J (38 + 2 * s.toNat) 2 := (hS s hs6.1 hs6.2).1.symm.trans (cH_2 hh)
  have s3 : 0 ≤ J (38 + 2 * s.toNat) 2 ∧ J (38 + 2 * s.toNat) 2 ≤ 4 := (hS s hs6.1 hs6.2).2.2.1
  have s4 : 0 ≤ J (38 + 2 * s.toNat) 3 ∧ J (38 + 2 * s.toNat) 3 ≤ 60 := (hS s hs6.1 hs6.2).2.2.2.1
  have s6 := (hS s hs6.1 hs6.2).2.2.2.2.2 hh
  have s7 : J 84 s = J (38 + 2 * s.toNat) 3 := s6.1.symm
  have s8 : ∀ i, 0 ≤ i → i < J (38 + 2 * s.toNat) 3 → M (39 + 2 * s.toNat) i = M 85 (60 * s + i) := s6.2.1
  have e83n : J 83 s = -2 := e83.trans (by omega)
  have hbr := s6.2.2 hso
  have hX0 := hX
  obtain ⟨T, t1, t2, t3⟩ := hX0
  show zW _ _ _ _ [some (.ref 0), some (zi s), some (zi v), some (zi q), none, none, none, none, none, none] _ _ _ _ _
  refine z_iload rfl rfl ?_
  refine z_callSi (As := [_]) (le := [some _]) rfl rfl (Nat.le_of_ble_eq_true rfl) (Nat.le_of_ble_eq_true rfl) rfl ?_
  refine z_iload rfl rfl ?_
  refine z_if_ltF rfl (by omega) (by omega) ?_
  refine z_iload rfl rfl ?_
  refine z_pushI (z := 6) rfl rfl ?_
  refine z_icmp_geF rfl (by omega) (by decide) (by omega) ?_
  refine z_pushI (z := 1) rfl rfl ?_
  refine z_goto rfl ?_
  refine z_bret rfl rfl (by decide) ?_
  show zW _ _ _ _ _ _ _ _ _ _
  refine z_if_eqF rfl (by decide) (by decide) ?_
  refine z_iload rfl rfl ?_
  refine z_if_lt rfl (by omega) (fun h1 => ?_) (fun h1 => ?_)
  · refine z_pushI (z := (-1)) rfl rfl ?_
    refine z_iret rfl rfl ?_
    refine ⟨_, rfl, ?_⟩
    show zW _ _ _ _ [some (.ref 50), some (zi s), some (zi v), some (zi q), none, none, none, none, none] _ _ _ _ _
    refine z_iload rfl rfl ?_
    refine z_callSi (As := [_]) (le := [some _]) rfl rfl (Nat.le_of_ble_eq_true rfl) (Nat.le_of_ble_eq_true rfl) rfl ?_
    refine z_iload rfl rfl ?_
    refine z_pushI (z := 0) rfl rfl ?_
    refine z_pushI (z := 5) rfl rfl ?_
    refine z_callSi (As := [_, _, _]) (le := [some _, some _, some _]) rfl rfl (Nat.le_of_ble_eq_true rfl) (Nat.le_of_ble_eq_true rfl) rfl ?_
    refine z_iload rfl rfl ?_
    refine z_iload rfl rfl ?_
    refine z_icmp_ltF rfl (by omega) (by decide) (by omega) ?_
    refine z_iload rfl rfl ?_
    refine z_iload rfl rfl ?_
    refine z_icmp_gtF rfl (by omega) (by decide) (by omega) ?_
    refine z_pushI (z := 1) rfl rfl ?_
    refine z_goto rfl ?_
    refine z_bret rfl rfl (by decide) ?_
    show zW _ _ _ _ _ _ _ _ _ _
    refine z_bret rfl rfl (by decide) ?_
    show zW _ _ _ _ _ _ _ _ _ _
    refine z_if_eqF rfl (by decide) (by decide) ?_
    refine z_iload rfl rfl ?_
    refine z_if_ltT rfl (by omega) (by omega) ?_
    refine z_pushI (z := (-1)) rfl rfl ?_
    refine z_iret rfl rfl ?_
    refine ⟨?_, ?_⟩
    · first | rfl | exact congrArg (fun v => some (zi v)) (by omega) | (exfalso; omega)
    · exact hr
  · refine z_iload rfl rfl ?_
    refine z_pushI (z := 1000000) rfl rfl ?_
    refine z_icmp_ge rfl (by omega) (by decide) (fun h2 => ?_) (fun h2 => ?_)
    · refine z_pushI (z := (-1)) rfl rfl ?_
      refine z_iret rfl rfl ?_
      refine ⟨_, rfl, ?_⟩
      show zW _ _ _ _ [some (.ref 50), some (zi s), some (zi v), some (zi q), none, none, none, none, none] _ _ _ _ _
      refine z_iload rfl rfl ?_
      refine z_callSi (As := [_]) (le := [some _]) rfl rfl (Nat.le_of_ble_eq_true rfl) (Nat.le_of_ble_eq_true rfl) rfl ?_
      refine z_iload rfl rfl ?_
      refine z_pushI (z := 0) rfl rfl ?_
      refine z_pushI (z := 5) rfl rfl ?_
      refine z_callSi (As := [_, _, _]) (le := [some _, some _, some _]) rfl rfl (Nat.le_of_ble_eq_true rfl) (Nat.le_of_ble_eq_true rfl) rfl ?_
      refine z_iload rfl rfl ?_
      refine z_iload rfl rfl ?_
      refine z_icmp_ltF rfl (by omega) (by decide) (by omega) ?_
      refine z_iload rfl rfl ?_
      refine z_iload rfl rfl ?_
      refine z_icmp_gtF rfl (by omega) (by decide) (by omega) ?_
      refine z_pushI (z := 1) rfl rfl ?_
      refine z_goto rfl ?_
      refine z_bret rfl rfl (by decide) ?_
      show zW _ _ _ _ _ _ _ _ _ _
      refine z_bret rfl rfl (by decide) ?_
      show zW _ _ _ _ _ _ _ _ _ _
      refine z_if_eqF rfl (by decide) (by decide) ?_
      refine z_iload rfl rfl ?_
      refine z_if_ltF rfl (by omega) (by omega) ?_
      refine z_iload rfl rfl ?_
      refine z_pushI (z := 100) rfl rfl ?_
      refine z_idiv (e := v / 100) rfl (by omega) (by omega) rfl ?_
      refine z_pushI (z := 9999) rfl rfl ?_
      refine z_icmp_gt rfl (by omega) (by decide) (fun h3 => ?_) (fun h3 => ?_)
      · refine z_pushI (z := (-1)) rfl rfl ?_
        refine z_iret rfl rfl ?_
        refine ⟨?_, ?_⟩
        · first | rfl | exact congrArg (fun v => some (zi v)) (by omega) | (exfalso; omega)
        · exact hr
      · refine z_iload rfl rfl ?_
        refine z_pushI (z := 0) rfl rfl ?_
        refine z_pushI (z := 1) rfl rfl ?_
        refine z_callSi (As := [_, _, _]) (le := [some _, some _, some _]) rfl rfl (Nat.le_of_ble_eq_true rfl) (Nat.le_of_ble_eq_true rfl) rfl ?_
        refine z_iload rfl rfl ?_
        refine z_iload rfl rfl ?_
        refine z_icmp_lt rfl (by omega) (by decide) (fun h4 => ?_) (fun h4 => ?_)
        · refine z_pushI (z := 0) rfl rfl ?_
          refine z_bret rfl rfl (by decide) ?_
          show zW _ _ _ _ _ _ _ _ _ _
          refine z_if_neF rfl (by decide) (by decide) ?_
          refine z_pushI (z := (-1)) rfl rfl ?_
          refine z_iret rfl rfl ?_
          refine ⟨?_, ?_⟩
          · first | rfl | exact congrArg (fun v => some (zi v)) (by omega) | (exfalso; omega)
          · exact hr
        · refine z_iload rfl rfl ?_
          refine z_iload rfl rfl ?_
          refine z_icmp_gt rfl (by omega) (by decide) (fun h5 => ?_) (fun h5 => ?_)
          · refine z_pushI (z := 0) rfl rfl ?_
            refine z_bret rfl rfl (by decide) ?_
            show zW _ _ _ _ _ _ _ _ _ _
            refine z_if_neF rfl (by decide) (by decide) ?_
            refine z_pushI (z := (-1)) rfl rfl ?_
            refine z_iret rfl rfl ?_
            refine ⟨?_, ?_⟩
            · first | rfl | exact congrArg (fun v => some (zi v)) (by omega) | (exfalso; omega)
            · exact hr
          · refine z_pushI (z := 1) rfl rfl ?_
            refine z_goto rfl ?_
            refine z_bret rfl rfl (by decide) ?_
            show zW _ _ _ _ _ _ _ _ _ _
            refine z_if_neT rfl (by decide) (by decide) ?_
            refine z_aload rfl rfl ?_
            refine z_iload rfl rfl ?_
            refine z_callVi (As := [_]) (le := [some _, some _]) rfl rfl rfl (Nat.le_of_ble_eq_true rfl) (Nat.le_of_ble_eq_true rfl) rfl ?_
            refine z_aload rfl rfl ?_
            refine z_getR (r := 83) rfl rfl (hRr _ rm_50_58 (by decide)) ?_
            refine z_iload rfl rfl ?_
            refine z_iald (v := (-2)) rfl rfl (by decide) (by omega) (e83n) ?_
            refine z_pushI (z := (-1)) rfl rfl ?_
            refine z_icmp_neT rfl (by decide) (by decide) (by decide) ?_
            refine z_aload rfl rfl ?_
            refine z_getR (r := 83) rfl rfl (hRr _ rm_50_58 (by decide)) ?_
            refine z_iload rfl rfl ?_
            refine z_iald (v := (-2)) rfl rfl (by decide) (by omega) (e83n) ?_
            refine z_pushI (z := (-2)) rfl rfl ?_
            refine z_icmp_neF rfl (by decide) (by decide) (by decide) ?_
            refine z_pushI (z := 0) rfl rfl ?_
            refine z_goto rfl ?_
            refine z_iret rfl rfl ?_
            show zW _ _ _ _ _ _ _ _ _ _
            refine z_if_geT rfl (by decide) (by decide) ?_
            refine z_aload rfl rfl ?_
            refine z_iload rfl rfl ?_
            refine z_pushI (z := 60) rfl rfl ?_
            exfalso
            omega
    · refine z_iload rfl rfl ?_
      refine z_callSi (As := [_]) (le := [some _]) rfl rfl (Nat.le_of_ble_eq_true rfl) (Nat.le_of_ble_eq_true rfl) rfl ?_
      refine z_iload rfl rfl ?_
      refine z_if_eq rfl (by omega) (fun h3 => ?_) (fun h3 => ?_)
      · refine z_pushI (z := 1) rfl rfl ?_
        refine z_goto rfl ?_
        refine z_bret rfl rfl (by decide) ?_
        show zW _ _ _ _ _ _ _ _ _ _
        refine z_if_neT rfl (by decide) (by decide) ?_
        refine z_aload rfl rfl ?_
        refine z_getR (r := 10) rfl rfl (hR _ rm_0_2) ?_
        refine z_aload rfl rfl ?_
        refine z_getR (r := 37) rfl rfl (hR _ rm_0_11) ?_
        refine z_iload rfl rfl ?_
        refine z_aald (r := 38 + 2 * s.toNat) rfl rfl (by decide) (by omega) (rr_shelf hR (by omega)) ?_
        have hk1 : zK kP J J := zK_r
        refine z_callV (As := [_]) _ rfl rfl rfl (Nat.le_of_ble_eq_true rfl) (Nat.le_of_ble_eq_true rfl) (follow_k (J := J) (N := (cN J)) (n := J 8 2) (T := T) (s := s) (w := J 10 12) (z := (J (38 + 2 * s.toNat) 3)) (b := (fun i => M (39 + 2 * s.toNat) i)) hR (cN_P hk1) (hk1 8 2 rfl) y3 (LawC_P t2 hk1) t1 hs6 (fun _ _ _ => rfl) hbr (hk1 _ 3 (kP_b (by omega))) s4 ((hk1 _ 0 (kP_b (by omega))).trans hh) ((hk1 _ 2 (kP_b (by omega))).trans hso) rfl hW.1) (fun r J2 M2 R2 hr2 => ?_)
        obtain ⟨rfl, K, hE, hK30, hk3, hc2, hw2, eM, eR⟩ := hr2
        obtain rfl : M = M2 := eM.symm
        obtain rfl : R = R2 := eR.symm
        show zW _ _ _ _ _ (_ :: _) _ _ _ _
        have hk2 := zK_t hk1 hk3
        have hn2 : J2 8 2 = J 8 2 := hk2 8 2 rfl
        have hks : zK kS J J2 := kS_Pw hk3 (hc2.2.2.2.2.1.trans (Eq.symm rfl))
        obtain ⟨S, eS⟩ : ∃ S, S = tS T (cN J) (J 8 2) (fun i => M (39 + 2 * s.toNat) i) (J 10 12) K := ⟨_, rfl⟩
        have hi0 := (tS_r y3 K hE.1).1
        have hz0 := tS_z K hE.1
        rw [← eS] at hc2 hi0 hz0
        have hi := tI_30 hi0 (by omega)
        have qi := hi.2.2
        have hfc : ∀ p, 0 ≤ p → p < 8 → J2 11 p = tsh S p := fun p q1 q2 => hc2.2.2.2.2.2.2.1 p q1 q2
        refine z_istore rfl rfl ?_
        refine z_iload rfl rfl ?_
        refine z_if_geT rfl (by decide) (by decide) ?_
        refine z_pushI (z := 0) rfl rfl ?_
        refine z_istore rfl rfl ?_
        refine z_pushI (z := 0) rfl rfl ?_
        refine z_istore rfl rfl ?_
        refine z_pushI (z := 0) rfl rfl ?_
        refine z_istore rfl rfl ?_
        show zW _ _ _ _ [some (.ref 0), some (zi s), some (zi v), some (zi q), some (zi 0), some (zi 0), some (zi 0), some (zi 0), none, none] [] _ _ _ _
        refine giveC_z (wp := v) hR y3 hc2.1 hw2 hK30 (by omega) hE.1 (fun e8 e9 => ?_) K 0 none none (by omega)
        refine z_iload rfl rfl ?_
        refine z_if_neF rfl (by omega) (by omega) ?_
        refine z_iload rfl rfl ?_
        refine z_goto rfl ?_
        refine z_iret rfl rfl ?_
        refine ⟨_, rfl, ?_⟩
        show zW _ _ _ _ [some (.ref 50), some (zi s), some (zi v), some (zi q), none, none, none, none, none] _ _ _ _ _
        refine z_iload rfl rfl ?_
        refine z_callSi (As := [_]) (le := [some _]) rfl rfl (Nat.le_of_ble_eq_true rfl) (Nat.le_of_ble_eq_true rfl) rfl ?_
        refine z_iload rfl rfl ?_
        refine z_pushI (z := 0) rfl rfl ?_
        refine z_pushI (z := 5) rfl rfl ?_
        refine z_callSi (As := [_, _, _]) (le := [some _, some _, some _]) rfl rfl (Nat.le_of_ble_eq_true rfl) (Nat.le_of_ble_eq_true rfl) rfl ?_
        refine z_iload rfl rfl ?_
        refine z_iload rfl rfl ?_
        refine z_icmp_ltF rfl (by omega) (by decide) (by omega) ?_
        refine z_iload rfl rfl ?_
        refine z_iload rfl rfl ?_
        refine z_icmp_gtF rfl (by omega) (by decide) (by omega) ?_
        refine z_pushI (z := 1) rfl rfl ?_
        refine z_goto rfl ?_
        refine z_bret rfl rfl (by decide) ?_
        show zW _ _ _ _ _ _ _ _ _ _
        refine z_bret rfl rfl (by decide) ?_
        show zW _ _ _ _ _ _ _ _ _ _
        refine z_if_eqF rfl (by decide) (by decide) ?_
        refine z_iload rfl rfl ?_
        refine z_if_ltF rfl (by omega) (by omega) ?_
        refine z_iload rfl rfl ?_
        refine z_pushI (z := 100) rfl rfl ?_
        refine z_idiv (e := v / 100) rfl (by omega) (by omega) rfl ?_
        refine z_pushI (z := 9999) rfl rfl ?_
        refine z_icmp_gt rfl (by omega) (by decide) (fun h4 => ?_) (fun h4 => ?_)
        · refine z_pushI (z := (-1)) rfl rfl ?_
          refine z_iret rfl rfl ?_
          refine ⟨?_, ?_⟩
          · first | rfl | exact congrArg (fun v => some (zi v)) (by omega) | (exfalso; omega)
          · exact Rel_S hks zK_r hr
        · refine z_iload rfl rfl ?_
          refine z_pushI (z := 0) rfl rfl ?_
          refine z_pushI (z := 1) rfl rfl ?_
          refine z_callSi (As := [_, _, _]) (le := [some _, some _, some _]) rfl rfl (Nat.le_of_ble_eq_true rfl) (Nat.le_of_ble_eq_true rfl) rfl ?_
          refine z_iload rfl rfl ?_
          refine z_iload rfl rfl ?_
          refine z_icmp_ltF rfl (by omega) (by decide) (by omega) ?_
          refine z_iload rfl rfl ?_
          refine z_iload rfl rfl ?_
          refine z_icmp_gtF rfl (by omega) (by decide) (by omega) ?_
          refine z_pushI (z := 1) rfl rfl ?_
          refine z_goto rfl ?_
          refine z_bret rfl rfl (by decide) ?_
          show zW _ _ _ _ _ _ _ _ _ _
          refine z_if_neT rfl (by decide) (by decide) ?_
          refine z_aload rfl rfl ?_
          refine z_iload rfl rfl ?_
          refine z_callVi (As := [_]) (le := [some _, some _]) rfl rfl rfl (Nat.le_of_ble_eq_true rfl) (Nat.le_of_ble_eq_true rfl) rfl ?_
          refine z_aload rfl rfl ?_
          refine z_getR (r := 83) rfl rfl (hRr _ rm_50_58 (by decide)) ?_
          refine z_iload rfl rfl ?_
          refine z_iald (v := (-2)) rfl rfl (by decide) (by omega) ((hks 83 _ rfl).trans e83n) ?_
          refine z_pushI (z := (-1)) rfl rfl ?_
          refine z_icmp_neT rfl (by decide) (by decide) (by decide) ?_
          refine z_aload rfl rfl ?_
          refine z_getR (r := 83) rfl rfl (hRr _ rm_50_58 (by decide)) ?_
          refine z_iload rfl rfl ?_
          refine z_iald (v := (-2)) rfl rfl (by decide) (by omega) ((hks 83 _ rfl).trans e83n) ?_
          refine z_pushI (z := (-2)) rfl rfl ?_
          refine z_icmp_neF rfl (by decide) (by decide) (by decide) ?_
          refine z_pushI (z := 0) rfl rfl ?_
          refine z_goto rfl ?_
          refine z_iret rfl rfl ?_
          show zW _ _ _ _ _ _ _ _ _ _
          refine z_if_geT rfl (by decide) (by decide) ?_
          refine z_aload rfl rfl ?_
          refine z_iload rfl rfl ?_
          refine z_pushI (z := 60) rfl rfl ?_
          have hV := zK_m hks kV_S
          refine z_callV (As := [_, _]) _ rfl rfl rfl (Nat.le_of_ble_eq_true rfl) (Nat.le_of_ble_eq_true rfl) (goRound_k (N := (cN J)) (n := J 8 2) (T := T) (s := s) (z := (J (38 + 2 * s.toNat) 3)) (b := (fun i => M (39 + 2 * s.toNat) i)) (w := 0) (most := 60) hRr ((rN_V hV).trans y1.symm) ((hks 50 1 rfl).trans y2.symm) y3 (LawR_V t3 hV) t1 hs6 (fun i i1 i2 => (s8 i i1 i2).symm) hbr ((hks 84 _ rfl).trans s7) s4 (by decide) ((hks 50 35 rfl).trans hW.2) (by decide)) (fun r J4 M4 R4 hr4 => ?_)
          obtain ⟨K2, rfl, hO, hOr, hK2, hq4, hr4, eM, eR⟩ := hr4
          obtain rfl : M = M4 := eM.symm
          obtain rfl : R = R4 := eR.symm
          show zW _ _ _ _ _ (_ :: _) _ _ _ _
          have eK : K2 = K := tEnd_w ⟨hO, (by rcases hOr with h | h; (exfalso; omega); exact h)⟩ hE
          rw [eK] at hr4
          have hg : rTg J4 (J 8 2) S (sGone (cN J) (J 8 2)) := rT_w eS hr4
          have hs4 := zK_t hks (zK_m hq4 kS_Q)
          have hn4 : J4 50 1 = J 8 2 := (hs4 50 1 rfl).trans y2.symm
          have hfr : ∀ p, 0 ≤ p → p < J 8 2 → J4 69 p = tsh S p := fun p q1 q2 => hg.2.2.2.2.1 p q1 q2
          refine z_istore rfl rfl ?_
          refine z_pushI (z := 0) rfl rfl ?_
          refine z_istore rfl rfl ?_
          refine z_pushI (z := 0) rfl rfl ?_
          refine z_istore rfl rfl ?_
          refine z_pushI (z := 1) rfl rfl ?_
          refine z_istore rfl rfl ?_
          show zW _ _ _ _ [some (.ref 50), some (zi s), some (zi v), some (zi q), some (zi (K2 : Int)), some (zi 0), some (zi 0), some (zi 1), none] [] _ _ _ _
          have hV4 := zK_m hs4 kV_S
          rw [eK]
          refine giveR_z (w := J 10 12) (wp := v) (A := J4) (n := J 8 2) (d := d + 11) y3 hRr ((rN_V hV4).trans y1.symm) hn4 (LawR_V t3 hV4) t1 hs6 (z := (J (38 + 2 * s.toNat) 3)) (b := (fun i => M (39 + 2 * s.toNat) i)) (fun i i1 i2 => (s8 i i1 i2).symm) hbr ((hs4 84 _ rfl).trans s7) s4 ((hs4 50 35 rfl).trans hW.2) hK30 (by omega) hE.1 (fun e8 J5 hJ5 => ?_) K 0 none J4 zK_r (by omega)
          have hs5 := zK_t hs4 hJ5
          refine z_iload rfl rfl ?_
          refine z_if_neF rfl (by omega) (by omega) ?_
          refine z_iload rfl rfl ?_
          refine z_goto rfl ?_
          refine z_iret rfl rfl ?_
          refine ⟨?_, ?_⟩
          · first | rfl | exact congrArg (fun v => some (zi v)) (by omega) | (exfalso; omega)
          · exact Rel_S hs5 zK_r hr
      · refine z_iload rfl rfl ?_
        refine z_pushI (z := 1) rfl rfl ?_
        refine z_icmp_ne rfl (by omega) (by decide) (fun h4 => ?_) (fun h4 => ?_)
        · refine z_pushI (z := 0) rfl rfl ?_
          refine z_bret rfl rfl (by decide) ?_
          show zW _ _ _ _ _ _ _ _ _ _
          refine z_if_neF rfl (by decide) (by decide) ?_
          refine z_pushI (z := (-1)) rfl rfl ?_
          refine z_iret rfl rfl ?_
          refine ⟨_, rfl, ?_⟩
          show zW _ _ _ _ [some (.ref 50), some (zi s), some (zi v), some (zi q), none, none, none, none, none] _ _ _ _ _
          refine z_iload rfl rfl ?_
          refine z_callSi (As := [_]) (le := [some _]) rfl rfl (Nat.le_of_ble_eq_true rfl) (Nat.le_of_ble_eq_true rfl) rfl ?_
          refine z_iload rfl rfl ?_
          refine z_pushI (z := 0) rfl rfl ?_
          refine z_pushI (z := 5) rfl rfl ?_
          refine z_callSi (As := [_, _, _]) (le := [some _, some _, some _]) rfl rfl (Nat.le_of_ble_eq_true rfl) (Nat.le_of_ble_eq_true rfl) rfl ?_
          refine z_iload rfl rfl ?_
          refine z_iload rfl rfl ?_
          refine z_icmp_ltF rfl (by omega) (by decide) (by omega) ?_
          refine z_iload rfl rfl ?_
          refine z_iload rfl rfl ?_
          refine z_icmp_gtF rfl (by omega) (by decide) (by omega) ?_
          refine z_pushI (z := 1) rfl rfl ?_
          refine z_goto rfl ?_
          refine z_bret rfl rfl (by decide) ?_
          show zW _ _ _ _ _ _ _ _ _ _
          refine z_bret rfl rfl (by decide) ?_
          show zW _ _ _ _ _ _ _ _ _ _
          refine z_if_eqF rfl (by decide) (by decide) ?_
          refine z_iload rfl rfl ?_
          refine z_if_ltF rfl (by omega) (by omega) ?_
          refine z_iload rfl rfl ?_
          refine z_pushI (z := 100) rfl rfl ?_
          refine z_idiv (e := v / 100) rfl (by omega) (by omega) rfl ?_
          refine z_pushI (z := 9999) rfl rfl ?_
          refine z_icmp_gt rfl (by omega) (by decide) (fun h5 => ?_) (fun h5 => ?_)
          · refine z_pushI (z := (-1)) rfl rfl ?_
            refine z_iret rfl rfl ?_
            refine ⟨?_, ?_⟩
            · first | rfl | exact congrArg (fun v => some (zi v)) (by omega) | (exfalso; omega)
            · exact hr
          · refine z_iload rfl rfl ?_
            refine z_pushI (z := 0) rfl rfl ?_
            refine z_pushI (z := 1) rfl rfl ?_
            refine z_callSi (As := [_, _, _]) (le := [some _, some _, some _]) rfl rfl (Nat.le_of_ble_eq_true rfl) (Nat.le_of_ble_eq_true rfl) rfl ?_
            refine z_iload rfl rfl ?_
            refine z_iload rfl rfl ?_
            refine z_icmp_lt rfl (by omega) (by decide) (fun h6 => ?_) (fun h6 => ?_)
            · refine z_pushI (z := 0) rfl rfl ?_
              refine z_bret rfl rfl (by decide) ?_
              show zW _ _ _ _ _ _ _ _ _ _
              refine z_if_neF rfl (by decide) (by decide) ?_
              refine z_pushI (z := (-1)) rfl rfl ?_
              refine z_iret rfl rfl ?_
              refine ⟨?_, ?_⟩
              · first | rfl | exact congrArg (fun v => some (zi v)) (by omega) | (exfalso; omega)
              · exact hr
            · refine z_iload rfl rfl ?_
              refine z_iload rfl rfl ?_
              refine z_icmp_gt rfl (by omega) (by decide) (fun h7 => ?_) (fun h7 => ?_)
              · refine z_pushI (z := 0) rfl rfl ?_
                refine z_bret rfl rfl (by decide) ?_
                show zW _ _ _ _ _ _ _ _ _ _
                refine z_if_neF rfl (by decide) (by decide) ?_
                refine z_pushI (z := (-1)) rfl rfl ?_
                refine z_iret rfl rfl ?_
                refine ⟨?_, ?_⟩
                · first | rfl | exact congrArg (fun v => some (zi v)) (by omega) | (exfalso; omega)
                · exact hr
              · refine z_pushI (z := 1) rfl rfl ?_
                refine z_goto rfl ?_
                refine z_bret rfl rfl (by decide) ?_
                show zW _ _ _ _ _ _ _ _ _ _
                refine z_if_neT rfl (by decide) (by decide) ?_
                refine z_aload rfl rfl ?_
                refine z_iload rfl rfl ?_
                refine z_callVi (As := [_]) (le := [some _, some _]) rfl rfl rfl (Nat.le_of_ble_eq_true rfl) (Nat.le_of_ble_eq_true rfl) rfl ?_
                refine z_aload rfl rfl ?_
                refine z_getR (r := 83) rfl rfl (hRr _ rm_50_58 (by decide)) ?_
                refine z_iload rfl rfl ?_
                refine z_iald (v := (-2)) rfl rfl (by decide) (by omega) (e83n) ?_
                refine z_pushI (z := (-1)) rfl rfl ?_
                refine z_icmp_neT rfl (by decide) (by decide) (by decide) ?_
                refine z_aload rfl rfl ?_
                refine z_getR (r := 83) rfl rfl (hRr _ rm_50_58 (by decide)) ?_
                refine z_iload rfl rfl ?_
                refine z_iald (v := (-2)) rfl rfl (by decide) (by omega) (e83n) ?_
                refine z_pushI (z := (-2)) rfl rfl ?_
                refine z_icmp_neF rfl (by decide) (by decide) (by decide) ?_
                refine z_pushI (z := 0) rfl rfl ?_
                refine z_goto rfl ?_
                refine z_iret rfl rfl ?_
                show zW _ _ _ _ _ _ _ _ _ _
                refine z_if_geT rfl (by decide) (by decide) ?_
                refine z_aload rfl rfl ?_
                refine z_iload rfl rfl ?_
                refine z_pushI (z := 60) rfl rfl ?_
                exfalso
                omega
        · refine z_pushI (z := 1) rfl rfl ?_
          refine z_goto rfl ?_
          refine z_bret rfl rfl (by decide) ?_
          show zW _ _ _ _ _ _ _ _ _ _
          refine z_if_neT rfl (by decide) (by decide) ?_
          refine z_aload rfl rfl ?_
          refine z_getR (r := 10) rfl rfl (hR _ rm_0_2) ?_
          refine z_aload rfl rfl ?_
          refine z_getR (r := 37) rfl rfl (hR _ rm_0_11) ?_
          refine z_iload rfl rfl ?_
          refine z_aald (r := 38 + 2 * s.toNat) rfl rfl (by decide) (by omega) (rr_shelf hR (by omega)) ?_
          have hk1 : zK kP J J := zK_r
          refine z_callV (As := [_]) _ rfl rfl rfl (Nat.le_of_ble_eq_true rfl) (Nat.le_of_ble_eq_true rfl) (follow_k (J := J) (N := (cN J)) (n := J 8 2) (T := T) (s := s) (w := J 10 12) (z := (J (38 + 2 * s.toNat) 3)) (b := (fun i => M (39 + 2 * s.toNat) i)) hR (cN_P hk1) (hk1 8 2 rfl) y3 (LawC_P t2 hk1) t1 hs6 (fun _ _ _ => rfl) hbr (hk1 _ 3 (kP_b (by omega))) s4 ((hk1 _ 0 (kP_b (by omega))).trans hh) ((hk1 _ 2 (kP_b (by omega))).trans hso) rfl hW.1) (fun r J2 M2 R2 hr2 => ?_)
          obtain ⟨rfl, K, hE, hK30, hk3, hc2, hw2, eM, eR⟩ := hr2
          obtain rfl : M = M2 := eM.symm
          obtain rfl : R = R2 := eR.symm
          show zW _ _ _ _ _ (_ :: _) _ _ _ _
          have hk2 := zK_t hk1 hk3
          have hn2 : J2 8 2 = J 8 2 := hk2 8 2 rfl
          have hks : zK kS J J2 := kS_Pw hk3 (hc2.2.2.2.2.1.trans (Eq.symm rfl))
          obtain ⟨S, eS⟩ : ∃ S, S = tS T (cN J) (J 8 2) (fun i => M (39 + 2 * s.toNat) i) (J 10 12) K := ⟨_, rfl⟩
          have hi0 := (tS_r y3 K hE.1).1
          have hz0 := tS_z K hE.1
          rw [← eS] at hc2 hi0 hz0
          have hi := tI_30 hi0 (by omega)
          have qi := hi.2.2
          have hfc : ∀ p, 0 ≤ p → p < 8 → J2 11 p = tsh S p := fun p q1 q2 => hc2.2.2.2.2.2.2.1 p q1 q2
          refine z_istore rfl rfl ?_
          refine z_iload rfl rfl ?_
          refine z_if_geT rfl (by decide) (by decide) ?_
          refine z_pushI (z := 0) rfl rfl ?_
          refine z_istore rfl rfl ?_
          refine z_pushI (z := 0) rfl rfl ?_
          refine z_istore rfl rfl ?_
          refine z_pushI (z := 0) rfl rfl ?_
          refine z_istore rfl rfl ?_
          show zW _ _ _ _ [some (.ref 0), some (zi s), some (zi v), some (zi q), some (zi 0), some (zi 0), some (zi 0), some (zi 0), none, none] [] _ _ _ _
          refine giveC_z (wp := v) hR y3 hc2.1 hw2 hK30 (by omega) hE.1 (fun e8 e9 => ?_) K 0 none none (by omega)
          refine z_iload rfl rfl ?_
          refine z_if_neT rfl (by omega) (by omega) ?_
          refine z_iload rfl rfl ?_
          refine z_iret rfl rfl ?_
          refine ⟨_, rfl, ?_⟩
          show zW _ _ _ _ [some (.ref 50), some (zi s), some (zi v), some (zi q), none, none, none, none, none] _ _ _ _ _
          refine z_iload rfl rfl ?_
          refine z_callSi (As := [_]) (le := [some _]) rfl rfl (Nat.le_of_ble_eq_true rfl) (Nat.le_of_ble_eq_true rfl) rfl ?_
          refine z_iload rfl rfl ?_
          refine z_pushI (z := 0) rfl rfl ?_
          refine z_pushI (z := 5) rfl rfl ?_
          refine z_callSi (As := [_, _, _]) (le := [some _, some _, some _]) rfl rfl (Nat.le_of_ble_eq_true rfl) (Nat.le_of_ble_eq_true rfl) rfl ?_
          refine z_iload rfl rfl ?_
          refine z_iload rfl rfl ?_
          refine z_icmp_ltF rfl (by omega) (by decide) (by omega) ?_
          refine z_iload rfl rfl ?_
          refine z_iload rfl rfl ?_
          refine z_icmp_gtF rfl (by omega) (by decide) (by omega) ?_
          refine z_pushI (z := 1) rfl rfl ?_
          refine z_goto rfl ?_
          refine z_bret rfl rfl (by decide) ?_
          show zW _ _ _ _ _ _ _ _ _ _
          refine z_bret rfl rfl (by decide) ?_
          show zW _ _ _ _ _ _ _ _ _ _
          refine z_if_eqF rfl (by decide) (by decide) ?_
          refine z_iload rfl rfl ?_
          refine z_if_ltF rfl (by omega) (by omega) ?_
          refine z_iload rfl rfl ?_
          refine z_pushI (z := 100) rfl rfl ?_
          refine z_idiv (e := v / 100) rfl (by omega) (by omega) rfl ?_
          refine z_pushI (z := 9999) rfl rfl ?_
          refine z_icmp_gt rfl (by omega) (by decide) (fun h5 => ?_) (fun h5 => ?_)
          · refine z_pushI (z := (-1)) rfl rfl ?_
            refine z_iret rfl rfl ?_
            refine ⟨?_, ?_⟩
            · first | rfl | exact congrArg (fun v => some (zi v)) (by omega) | (exfalso; omega)
            · exact Rel_S hks zK_r hr
          · refine z_iload rfl rfl ?_
            refine z_pushI (z := 0) rfl rfl ?_
            refine z_pushI (z := 1) rfl rfl ?_
            refine z_callSi (As := [_, _, _]) (le := [some _, some _, some _]) rfl rfl (Nat.le_of_ble_eq_true rfl) (Nat.le_of_ble_eq_true rfl) rfl ?_
            refine z_iload rfl rfl ?_
            refine z_iload rfl rfl ?_
            refine z_icmp_ltF rfl (by omega) (by decide) (by omega) ?_
            refine z_iload rfl rfl ?_
            refine z_iload rfl rfl ?_
            refine z_icmp_gtF rfl (by omega) (by decide) (by omega) ?_
            refine z_pushI (z := 1) rfl rfl ?_
            refine z_goto rfl ?_
            refine z_bret rfl rfl (by decide) ?_
            show zW _ _ _ _ _ _ _ _ _ _
            refine z_if_neT rfl (by decide) (by decide) ?_
            refine z_aload rfl rfl ?_
            refine z_iload rfl rfl ?_
            refine z_callVi (As := [_]) (le := [some _, some _]) rfl rfl rfl (Nat.le_of_ble_eq_true rfl) (Nat.le_of_ble_eq_true rfl) rfl ?_
            refine z_aload rfl rfl ?_
            refine z_getR (r := 83) rfl rfl (hRr _ rm_50_58 (by decide)) ?_
            refine z_iload rfl rfl ?_
            refine z_iald (v := (-2)) rfl rfl (by decide) (by omega) ((hks 83 _ rfl).trans e83n) ?_
            refine z_pushI (z := (-1)) rfl rfl ?_
            refine z_icmp_neT rfl (by decide) (by decide) (by decide) ?_
            refine z_aload rfl rfl ?_
            refine z_getR (r := 83) rfl rfl (hRr _ rm_50_58 (by decide)) ?_
            refine z_iload rfl rfl ?_
            refine z_iald (v := (-2)) rfl rfl (by decide) (by omega) ((hks 83 _ rfl).trans e83n) ?_
            refine z_pushI (z := (-2)) rfl rfl ?_
            refine z_icmp_neF rfl (by decide) (by decide) (by decide) ?_
            refine z_pushI (z := 0) rfl rfl ?_
            refine z_goto rfl ?_
            refine z_iret rfl rfl ?_
            show zW _ _ _ _ _ _ _ _ _ _
            refine z_if_geT rfl (by decide) (by decide) ?_
            refine z_aload rfl rfl ?_
            refine z_iload rfl rfl ?_
            refine z_pushI (z := 60) rfl rfl ?_
            have hV := zK_m hks kV_S
            refine z_callV (As := [_, _]) _ rfl rfl rfl (Nat.le_of_ble_eq_true rfl) (Nat.le_of_ble_eq_true rfl) (goRound_k (N := (cN J)) (n := J 8 2) (T := T) (s := s) (z := (J (38 + 2 * s.toNat) 3)) (b := (fun i => M (39 + 2 * s.toNat) i)) (w := 0) (most := 60) hRr ((rN_V hV).trans y1.symm) ((hks 50 1 rfl).trans y2.symm) y3 (LawR_V t3 hV) t1 hs6 (fun i i1 i2 => (s8 i i1 i2).symm) hbr ((hks 84 _ rfl).trans s7) s4 (by decide) ((hks 50 35 rfl).trans hW.2) (by decide)) (fun r J4 M4 R4 hr4 => ?_)
            obtain ⟨K2, rfl, hO, hOr, hK2, hq4, hr4, eM, eR⟩ := hr4
            obtain rfl : M = M4 := eM.symm
            obtain rfl : R = R4 := eR.symm
            show zW _ _ _ _ _ (_ :: _) _ _ _ _
            have eK : K2 = K := tEnd_w ⟨hO, (by rcases hOr with h | h; (exfalso; omega); exact h)⟩ hE
            rw [eK] at hr4
            have hg : rTg J4 (J 8 2) S (sGone (cN J) (J 8 2)) := rT_w eS hr4
            have hs4 := zK_t hks (zK_m hq4 kS_Q)
            have hn4 : J4 50 1 = J 8 2 := (hs4 50 1 rfl).trans y2.symm
            have hfr : ∀ p, 0 ≤ p → p < J 8 2 → J4 69 p = tsh S p := fun p q1 q2 => hg.2.2.2.2.1 p q1 q2
            refine z_istore rfl rfl ?_
            refine z_pushI (z := 0) rfl rfl ?_
            refine z_istore rfl rfl ?_
            refine z_pushI (z := 0) rfl rfl ?_
            refine z_istore rfl rfl ?_
            refine z_pushI (z := 1) rfl rfl ?_
            refine z_istore rfl rfl ?_
            show zW _ _ _ _ [some (.ref 50), some (zi s), some (zi v), some (zi q), some (zi (K2 : Int)), some (zi 0), some (zi 0), some (zi 1), none] [] _ _ _ _
            have hV4 := zK_m hs4 kV_S
            rw [eK]
            refine giveR_z (w := J 10 12) (wp := v) (A := J4) (n := J 8 2) (d := d + 11) y3 hRr ((rN_V hV4).trans y1.symm) hn4 (LawR_V t3 hV4) t1 hs6 (z := (J (38 + 2 * s.toNat) 3)) (b := (fun i => M (39 + 2 * s.toNat) i)) (fun i i1 i2 => (s8 i i1 i2).symm) hbr ((hs4 84 _ rfl).trans s7) s4 ((hs4 50 35 rfl).trans hW.2) hK30 (by omega) hE.1 (fun e8 J5 hJ5 => ?_) K 0 none J4 zK_r (by omega)
            have hs5 := zK_t hs4 hJ5
            refine z_iload rfl rfl ?_
            refine z_if_neT rfl (by omega) (by omega) ?_
            refine z_iload rfl rfl ?_
            refine z_iret rfl rfl ?_
            refine ⟨?_, ?_⟩
            · first | rfl | exact congrArg (fun v => some (zi v)) (by omega) | (exfalso; omega)
            · exact Rel_S hs5 zK_r hr
theorem st_giveUp {X : Nat × (Nat → Int32)} {d : Nat} {J M : zA} {R : zR} {s v q : Int} (hr : Rel X J M R) (hs : -2147483648 ≤ s ∧ s < 2147483648) (hv : -2147483648 ≤ v ∧ v < 2147483648) (hq : -2147483648 ≤ q ∧ q < 2147483648) : zW X (d + 20) 115 0 (gEn 115 [(.ref 0), (zi s), (zi v), (zi q)]) [] J M R (stP X (d + 20) 207 [(zi s), (zi v), (zi q)]) := by
  by_cases hs6 : 0 ≤ s ∧ s < 6
  · have hS : RelS J M := hr.2.2.2.2.2.2.2.1
    have h2 := (hS s hs6.1 hs6.2).2.1
    have h4 : J (38 + 2 * s.toNat) 0 = 0 ∨ J (38 + 2 * s.toNat) 0 = 1 ∨ J (38 + 2 * s.toNat) 0 = 2 := by omega
    rcases h4 with hh | hh | hh
    · exact st_giveUp_0 hr hs hv hq hs6 hh
    · exact st_giveUp_1 hr hs hv hq hs6 hh
    · by_cases hso : J (38 + 2 * s.toNat) 2 = 0
      · exact st_giveUp_m hr hs hv hq hs6 hh hso
      · exact st_giveUp_2 hr hs hv hq hs6 hh hso
  · exact st_giveUp_n hr hs hv hq hs6
theorem st_by_n {X : Nat × (Nat → Int32)} {d : Nat} {J M : zA} {R : zR} {s v : Int} (hr : Rel X J M R) (hs : -2147483648 ≤ s ∧ s < 2147483648) (hv : -2147483648 ≤ v ∧ v < 2147483648) (hs6 : ¬ (0 ≤ s ∧ s < 6)) : zW X (d + 20) 111 0 (gEn 111 [(.ref 0), (zi s), (zi v)]) [] J M R (stP X (d + 20) 200 [(zi s), (zi v)]) := by
  have hr0 := hr
  obtain ⟨hR, hG, hY, hD, hP, hC, hAc, hS, hTp, hX, hW⟩ := hr0
  have hRr : zRoR R := zRoR_of hR
  have hY0 := hY
  obtain ⟨y1, y2, y3⟩ := hY0
  have yn := zNn y3
  show zW _ _ _ _ [some (.ref 0), some (zi s), some (zi v), none] _ _ _ _ _
  refine z_iload rfl rfl ?_
  refine z_callSi (As := [_]) (le := [some _]) rfl rfl (Nat.le_of_ble_eq_true rfl) (Nat.le_of_ble_eq_true rfl) rfl ?_
  refine z_iload rfl rfl ?_
  refine z_if_lt rfl (by omega) (fun h1 => ?_) (fun h1 => ?_)
  · refine z_pushI (z := 0) rfl rfl ?_
    refine z_bret rfl rfl (by decide) ?_
    show zW _ _ _ _ _ _ _ _ _ _
    refine z_if_eqT rfl (by decide) (by decide) ?_
    refine z_pushI (z := (-1)) rfl rfl ?_
    refine z_iret rfl rfl ?_
    refine ⟨_, rfl, ?_⟩
    show zW _ _ _ _ [some (.ref 50), some (zi s), some (zi v)] _ _ _ _ _
    refine z_iload rfl rfl ?_
    refine z_callSi (As := [_]) (le := [some _]) rfl rfl (Nat.le_of_ble_eq_true rfl) (Nat.le_of_ble_eq_true rfl) rfl ?_
    refine z_iload rfl rfl ?_
    refine z_pushI (z := 0) rfl rfl ?_
    refine z_pushI (z := 5) rfl rfl ?_
    refine z_callSi (As := [_, _, _]) (le := [some _, some _, some _]) rfl rfl (Nat.le_of_ble_eq_true rfl) (Nat.le_of_ble_eq_true rfl) rfl ?_
    refine z_iload rfl rfl ?_
    refine z_iload rfl rfl ?_
    refine z_icmp_ltT rfl (by omega) (by decide) (by omega) ?_
    refine z_pushI (z := 0) rfl rfl ?_
    refine z_bret rfl rfl (by decide) ?_
    show zW _ _ _ _ _ _ _ _ _ _
    refine z_bret rfl rfl (by decide) ?_
    show zW _ _ _ _ _ _ _ _ _ _
    refine z_if_eqT rfl (by decide) (by decide) ?_
    refine z_pushI (z := (-1)) rfl rfl ?_
    refine z_iret rfl rfl ?_
    refine ⟨?_, ?_⟩
    · first | rfl | exact congrArg (fun v => some (zi v)) (by omega) | (exfalso; omega)
    · exact hr
  · refine z_iload rfl rfl ?_
    refine z_pushI (z := 6) rfl rfl ?_
    refine z_icmp_geT rfl (by omega) (by decide) (by omega) ?_
    refine z_pushI (z := 0) rfl rfl ?_
    refine z_bret rfl rfl (by decide) ?_
    show zW _ _ _ _ _ _ _ _ _ _
    refine z_if_eqT rfl (by decide) (by decide) ?_
    refine z_pushI (z := (-1)) rfl rfl ?_
    refine z_iret rfl rfl ?_
    refine ⟨_, rfl, ?_⟩
    show zW _ _ _ _ [some (.ref 50), some (zi s), some (zi v)] _ _ _ _ _
    refine z_iload rfl rfl ?_
    refine z_callSi (As := [_]) (le := [some _]) rfl rfl (Nat.le_of_ble_eq_true rfl) (Nat.le_of_ble_eq_true rfl) rfl ?_
    refine z_iload rfl rfl ?_
    refine z_pushI (z := 0) rfl rfl ?_
    refine z_pushI (z := 5) rfl rfl ?_
    refine z_callSi (As := [_, _, _]) (le := [some _, some _, some _]) rfl rfl (Nat.le_of_ble_eq_true rfl) (Nat.le_of_ble_eq_true rfl) rfl ?_
    refine z_iload rfl rfl ?_
    refine z_iload rfl rfl ?_
    refine z_icmp_ltF rfl (by omega) (by decide) (by omega) ?_
    refine z_iload rfl rfl ?_
    refine z_iload rfl rfl ?_
    refine z_icmp_gtT rfl (by omega) (by decide) (by omega) ?_
    refine z_pushI (z := 0) rfl rfl ?_
    refine z_bret rfl rfl (by decide) ?_
    show zW _ _ _ _ _ _ _ _ _ _
    refine z_bret rfl rfl (by decide) ?_
    show zW _ _ _ _ _ _ _ _ _ _
    refine z_if_eqT rfl (by decide) (by decide) ?_
    refine z_pushI (z := (-1)) rfl rfl ?_
    refine z_iret rfl rfl ?_
    refine ⟨?_, ?_⟩
    · first | rfl | exact congrArg (fun v => some (zi v)) (by omega) | (exfalso; omega)
    · exact hr
theorem st_by_0 {X : Nat × (Nat → Int32)} {d : Nat} {J M : zA} {R : zR} {s v : Int} (hr : Rel X J M R) (hs : -2147483648 ≤ s ∧ s < 2147483648) (hv : -2147483648 ≤ v ∧ v < 2147483648) (hs6 : 0 ≤ s ∧ s < 6) (hh : J (38 + 2 * s.toNat) 0 = 0) : zW X (d + 20) 111 0 (gEn 111 [(.ref 0), (zi s), (zi v)]) [] J M R (stP X (d + 20) 200 [(zi s), (zi v)]) := by
  have hr0 := hr
  obtain ⟨hR, hG, hY, hD, hP, hC, hAc, hS, hTp, hX, hW⟩ := hr0
  have hRr : zRoR R := zRoR_of hR
  have hY0 := hY
  obtain ⟨y1, y2, y3⟩ := hY0
  have yn := zNn y3
  have hA0 := hAc
  obtain ⟨a1, a2, a3, a4, a5, a6⟩ := hA0
  have e83 : J 83 s = -1 := (hS s hs6.1 hs6.2).1.symm.trans (cH_0 hh)
  have s3 : 0 ≤ J (38 + 2 * s.toNat) 2 ∧ J (38 + 2 * s.toNat) 2 ≤ 4 := (hS s hs6.1 hs6.2).2.2.1
  have s4 : 0 ≤ J (38 + 2 * s.toNat) 3 ∧ J (38 + 2 * s.toNat) 3 ≤ 60 := (hS s hs6.1 hs6.2).2.2.2.1
  show zW _ _ _ _ [some (.ref 0), some (zi s), some (zi v), none] _ _ _ _ _
  refine z_iload rfl rfl ?_
  refine z_callSi (As := [_]) (le := [some _]) rfl rfl (Nat.le_of_ble_eq_true rfl) (Nat.le_of_ble_eq_true rfl) rfl ?_
  refine z_iload rfl rfl ?_
  refine z_if_ltF rfl (by omega) (by omega) ?_
  refine z_iload rfl rfl ?_
  refine z_pushI (z := 6) rfl rfl ?_
  refine z_icmp_geF rfl (by omega) (by decide) (by omega) ?_
  refine z_pushI (z := 1) rfl rfl ?_
  refine z_goto rfl ?_
  refine z_bret rfl rfl (by decide) ?_
  show zW _ _ _ _ _ _ _ _ _ _
  refine z_if_eqF rfl (by decide) (by decide) ?_
  refine z_iload rfl rfl ?_
  refine z_if_lt rfl (by omega) (fun h1 => ?_) (fun h1 => ?_)
  · refine z_pushI (z := (-1)) rfl rfl ?_
    refine z_iret rfl rfl ?_
    refine ⟨_, rfl, ?_⟩
    show zW _ _ _ _ [some (.ref 50), some (zi s), some (zi v)] _ _ _ _ _
    refine z_iload rfl rfl ?_
    refine z_callSi (As := [_]) (le := [some _]) rfl rfl (Nat.le_of_ble_eq_true rfl) (Nat.le_of_ble_eq_true rfl) rfl ?_
    refine z_iload rfl rfl ?_
    refine z_pushI (z := 0) rfl rfl ?_
    refine z_pushI (z := 5) rfl rfl ?_
    refine z_callSi (As := [_, _, _]) (le := [some _, some _, some _]) rfl rfl (Nat.le_of_ble_eq_true rfl) (Nat.le_of_ble_eq_true rfl) rfl ?_
    refine z_iload rfl rfl ?_
    refine z_iload rfl rfl ?_
    refine z_icmp_ltF rfl (by omega) (by decide) (by omega) ?_
    refine z_iload rfl rfl ?_
    refine z_iload rfl rfl ?_
    refine z_icmp_gtF rfl (by omega) (by decide) (by omega) ?_
    refine z_pushI (z := 1) rfl rfl ?_
    refine z_goto rfl ?_
    refine z_bret rfl rfl (by decide) ?_
    show zW _ _ _ _ _ _ _ _ _ _
    refine z_bret rfl rfl (by decide) ?_
    show zW _ _ _ _ _ _ _ _ _ _
    refine z_if_eqF rfl (by decide) (by decide) ?_
    refine z_iload rfl rfl ?_
    refine z_pushI (z := 0) rfl rfl ?_
    refine z_pushI (z := 1000000) rfl rfl ?_
    refine z_callSi (As := [_, _, _]) (le := [some _, some _, some _]) rfl rfl (Nat.le_of_ble_eq_true rfl) (Nat.le_of_ble_eq_true rfl) rfl ?_
    refine z_iload rfl rfl ?_
    refine z_iload rfl rfl ?_
    refine z_icmp_ltT rfl (by omega) (by decide) (by omega) ?_
    refine z_pushI (z := 0) rfl rfl ?_
    refine z_bret rfl rfl (by decide) ?_
    show zW _ _ _ _ _ _ _ _ _ _
    refine z_if_neF rfl (by decide) (by decide) ?_
    refine z_pushI (z := (-1)) rfl rfl ?_
    refine z_iret rfl rfl ?_
    refine ⟨?_, ?_⟩
    · first | rfl | exact congrArg (fun v => some (zi v)) (by omega) | (exfalso; omega)
    · exact hr
  · refine z_iload rfl rfl ?_
    refine z_pushI (z := 1000000) rfl rfl ?_
    refine z_icmp_le rfl (by omega) (by decide) (fun h2 => ?_) (fun h2 => ?_)
    · refine z_aload rfl rfl ?_
      refine z_getR (r := 10) rfl rfl (hR _ rm_0_2) ?_
      refine z_iload rfl rfl ?_
      refine z_callVi (As := [_]) (le := [some _, some _]) rfl rfl rfl (Nat.le_of_ble_eq_true rfl) (Nat.le_of_ble_eq_true rfl) rfl ?_
      refine z_aload rfl rfl ?_
      refine z_iload rfl rfl ?_
      refine z_putI (y := 12) rfl rfl rfl ?_
      refine z_vret rfl rfl ?_
      show zW _ _ _ _ _ _ _ _ _ _
      refine z_aload rfl rfl ?_
      refine z_getR (r := 10) rfl rfl (hR _ rm_0_2) ?_
      refine z_aload rfl rfl ?_
      refine z_getR (r := 37) rfl rfl (hR _ rm_0_11) ?_
      refine z_iload rfl rfl ?_
      refine z_aald (r := 38 + 2 * s.toNat) rfl rfl (by decide) (by omega) (rr_shelf hR (by omega)) ?_
      refine z_callVi (As := [_]) (le := [some _, some _, none, none, none]) rfl rfl rfl (Nat.le_of_ble_eq_true rfl) (Nat.le_of_ble_eq_true rfl) rfl ?_
      refine z_aload rfl rfl ?_
      refine z_callVi (As := []) (le := [some _]) rfl rfl (zk_shelf (by omega)) (Nat.le_of_ble_eq_true rfl) (Nat.le_of_ble_eq_true rfl) rfl ?_
      refine z_aload rfl rfl ?_
      refine z_getI (v := 0) rfl (zk_shelf (by omega)) ((zU_n (by omega)).trans (hh)) ?_
      refine z_if_neF rfl (by decide) (by decide) ?_
      refine z_pushI (z := (-11)) rfl rfl ?_
      refine z_iret rfl rfl ?_
      show zW _ _ _ _ _ _ _ _ _ _
      refine z_istore rfl rfl ?_
      refine z_iload rfl rfl ?_
      refine z_if_geF rfl (by decide) (by decide) ?_
      refine z_iload rfl rfl ?_
      refine z_iret rfl rfl ?_
      show zW _ _ _ _ _ _ _ _ _ _
      refine z_istore rfl rfl ?_
      refine z_iload rfl rfl ?_
      refine z_if_geF rfl (by decide) (by decide) ?_
      refine z_iload rfl rfl ?_
      refine z_goto rfl ?_
      refine z_iret rfl rfl ?_
      refine ⟨_, rfl, ?_⟩
      show zW _ _ _ _ [some (.ref 50), some (zi s), some (zi v)] _ _ _ _ _
      refine z_iload rfl rfl ?_
      refine z_callSi (As := [_]) (le := [some _]) rfl rfl (Nat.le_of_ble_eq_true rfl) (Nat.le_of_ble_eq_true rfl) rfl ?_
      refine z_iload rfl rfl ?_
      refine z_pushI (z := 0) rfl rfl ?_
      refine z_pushI (z := 5) rfl rfl ?_
      refine z_callSi (As := [_, _, _]) (le := [some _, some _, some _]) rfl rfl (Nat.le_of_ble_eq_true rfl) (Nat.le_of_ble_eq_true rfl) rfl ?_
      refine z_iload rfl rfl ?_
      refine z_iload rfl rfl ?_
      refine z_icmp_ltF rfl (by omega) (by decide) (by omega) ?_
      refine z_iload rfl rfl ?_
      refine z_iload rfl rfl ?_
      refine z_icmp_gtF rfl (by omega) (by decide) (by omega) ?_
      refine z_pushI (z := 1) rfl rfl ?_
      refine z_goto rfl ?_
      refine z_bret rfl rfl (by decide) ?_
      show zW _ _ _ _ _ _ _ _ _ _
      refine z_bret rfl rfl (by decide) ?_
      show zW _ _ _ _ _ _ _ _ _ _
      refine z_if_eqF rfl (by decide) (by decide) ?_
      refine z_iload rfl rfl ?_
      refine z_pushI (z := 0) rfl rfl ?_
      refine z_pushI (z := 1000000) rfl rfl ?_
      refine z_callSi (As := [_, _, _]) (le := [some _, some _, some _]) rfl rfl (Nat.le_of_ble_eq_true rfl) (Nat.le_of_ble_eq_true rfl) rfl ?_
      refine z_iload rfl rfl ?_
      refine z_iload rfl rfl ?_
      refine z_icmp_ltF rfl (by omega) (by decide) (by omega) ?_
      refine z_iload rfl rfl ?_
      refine z_iload rfl rfl ?_
      refine z_icmp_gtF rfl (by omega) (by decide) (by omega) ?_
      refine z_pushI (z := 1) rfl rfl ?_
      refine z_goto rfl ?_
      refine z_bret rfl rfl (by decide) ?_
      show zW _ _ _ _ _ _ _ _ _ _
      refine z_if_neT rfl (by decide) (by decide) ?_
      refine z_aload rfl rfl ?_
      refine z_iload rfl rfl ?_
      refine z_callVi (As := [_]) (le := [some _, some _]) rfl rfl rfl (Nat.le_of_ble_eq_true rfl) (Nat.le_of_ble_eq_true rfl) rfl ?_
      refine z_aload rfl rfl ?_
      refine z_getR (r := 83) rfl rfl (hRr _ rm_50_58 (by decide)) ?_
      refine z_iload rfl rfl ?_
      refine z_iald (v := (-1)) rfl rfl (by decide) (by omega) ((zU_n (by decide)).trans (e83)) ?_
      refine z_pushI (z := (-1)) rfl rfl ?_
      refine z_icmp_neF rfl (by decide) (by decide) (by decide) ?_
      refine z_pushI (z := (-11)) rfl rfl ?_
      refine z_goto rfl ?_
      refine z_iret rfl rfl ?_
      show zW _ _ _ _ _ _ _ _ _ _
      refine z_if_geF rfl (by decide) (by decide) ?_
      refine z_aload rfl rfl ?_
      refine z_iload rfl rfl ?_
      refine z_callVi (As := [_]) (le := [some _, some _]) rfl rfl rfl (Nat.le_of_ble_eq_true rfl) (Nat.le_of_ble_eq_true rfl) rfl ?_
      refine z_aload rfl rfl ?_
      refine z_getR (r := 83) rfl rfl (hRr _ rm_50_58 (by decide)) ?_
      refine z_iload rfl rfl ?_
      refine z_iald (v := (-1)) rfl rfl (by decide) (by omega) ((zU_n (by decide)).trans (e83)) ?_
      refine z_pushI (z := (-1)) rfl rfl ?_
      refine z_icmp_neF rfl (by decide) (by decide) (by decide) ?_
      refine z_pushI (z := (-11)) rfl rfl ?_
      refine z_goto rfl ?_
      refine z_iret rfl rfl ?_
      show zW _ _ _ _ _ _ _ _ _ _
      refine z_iret rfl rfl ?_
      refine ⟨?_, ?_⟩
      · first | rfl | exact congrArg (fun v => some (zi v)) (by omega) | (exfalso; omega)
      · have hk := (zK_x (a := 10) (x := 12) (v := v) (zK_r (k := (kL [] [(10, 12)])) (A := J)) rfl)
        exact ⟨hR, hG, RelY_k hk (by repeat' constructor) (fun p => by repeat' constructor) hY, RelD_k hk (by repeat' constructor) (fun p => by repeat' constructor) hD, RelP_k hk (by repeat' constructor) (fun p => by repeat' constructor) hP, RelC_k hk (by repeat' constructor) (fun p => by repeat' constructor) hC, RelA_k hk (by repeat' constructor) (fun p => by repeat' constructor) hAc, RelS_k hk (zK_r (k := kM)) (fun x j a b => ⟨kL_38 (by decide) (by decide) x j a b, kM_38 x j a b⟩) (fun p => ⟨rfl, rfl, rfl⟩) rfl hS, RelT_k hk (by repeat' constructor) (fun p => by repeat' constructor) hTp, RelX_k hk (by repeat' constructor) (fun p => by repeat' constructor) hX, ⟨(show 0 ≤ v ∧ v ≤ 1000000 from by omega), hW.2⟩⟩
    · refine z_pushI (z := (-1)) rfl rfl ?_
      refine z_iret rfl rfl ?_
      refine ⟨_, rfl, ?_⟩
      show zW _ _ _ _ [some (.ref 50), some (zi s), some (zi v)] _ _ _ _ _
      refine z_iload rfl rfl ?_
      refine z_callSi (As := [_]) (le := [some _]) rfl rfl (Nat.le_of_ble_eq_true rfl) (Nat.le_of_ble_eq_true rfl) rfl ?_
      refine z_iload rfl rfl ?_
      refine z_pushI (z := 0) rfl rfl ?_
      refine z_pushI (z := 5) rfl rfl ?_
      refine z_callSi (As := [_, _, _]) (le := [some _, some _, some _]) rfl rfl (Nat.le_of_ble_eq_true rfl) (Nat.le_of_ble_eq_true rfl) rfl ?_
      refine z_iload rfl rfl ?_
      refine z_iload rfl rfl ?_
      refine z_icmp_ltF rfl (by omega) (by decide) (by omega) ?_
      refine z_iload rfl rfl ?_
      refine z_iload rfl rfl ?_
      refine z_icmp_gtF rfl (by omega) (by decide) (by omega) ?_
      refine z_pushI (z := 1) rfl rfl ?_
      refine z_goto rfl ?_
      refine z_bret rfl rfl (by decide) ?_
      show zW _ _ _ _ _ _ _ _ _ _
      refine z_bret rfl rfl (by decide) ?_
      show zW _ _ _ _ _ _ _ _ _ _
      refine z_if_eqF rfl (by decide) (by decide) ?_
      refine z_iload rfl rfl ?_
      refine z_pushI (z := 0) rfl rfl ?_
      refine z_pushI (z := 1000000) rfl rfl ?_
      refine z_callSi (As := [_, _, _]) (le := [some _, some _, some _]) rfl rfl (Nat.le_of_ble_eq_true rfl) (Nat.le_of_ble_eq_true rfl) rfl ?_
      refine z_iload rfl rfl ?_
      refine z_iload rfl rfl ?_
      refine z_icmp_ltF rfl (by omega) (by decide) (by omega) ?_
      refine z_iload rfl rfl ?_
      refine z_iload rfl rfl ?_
      refine z_icmp_gtT rfl (by omega) (by decide) (by omega) ?_
      refine z_pushI (z := 0) rfl rfl ?_
      refine z_bret rfl rfl (by decide) ?_
      show zW _ _ _ _ _ _ _ _ _ _
      refine z_if_neF rfl (by decide) (by decide) ?_
      refine z_pushI (z := (-1)) rfl rfl ?_
      refine z_iret rfl rfl ?_
      refine ⟨?_, ?_⟩
      · first | rfl | exact congrArg (fun v => some (zi v)) (by omega) | (exfalso; omega)
      · exact hr
theorem st_by_1 {X : Nat × (Nat → Int32)} {d : Nat} {J M : zA} {R : zR} {s v : Int} (hr : Rel X J M R) (hs : -2147483648 ≤ s ∧ s < 2147483648) (hv : -2147483648 ≤ v ∧ v < 2147483648) (hs6 : 0 ≤ s ∧ s < 6) (hh : J (38 + 2 * s.toNat) 0 = 1) : zW X (d + 20) 111 0 (gEn 111 [(.ref 0), (zi s), (zi v)]) [] J M R (stP X (d + 20) 200 [(zi s), (zi v)]) := by
  have hr0 := hr
  obtain ⟨hR, hG, hY, hD, hP, hC, hAc, hS, hTp, hX, hW⟩ := hr0
  have hRr : zRoR R := zRoR_of hR
  have hY0 := hY
  obtain ⟨y1, y2, y3⟩ := hY0
  have yn := zNn y3
  have hA0 := hAc
  obtain ⟨a1, a2, a3, a4, a5, a6⟩ := hA0
  have e83 : J 83 s = J (38 + 2 * s.toNat) 1 := (hS s hs6.1 hs6.2).1.symm.trans (cH_1 hh)
  have s3 : 0 ≤ J (38 + 2 * s.toNat) 2 ∧ J (38 + 2 * s.toNat) 2 ≤ 4 := (hS s hs6.1 hs6.2).2.2.1
  have s4 : 0 ≤ J (38 + 2 * s.toNat) 3 ∧ J (38 + 2 * s.toNat) 3 ≤ 60 := (hS s hs6.1 hs6.2).2.2.2.1
  have s5 : 0 ≤ J (38 + 2 * s.toNat) 1 ∧ J (38 + 2 * s.toNat) 1 < J 34 1 := (hS s hs6.1 hs6.2).2.2.2.2.1 hh
  show zW _ _ _ _ [some (.ref 0), some (zi s), some (zi v), none] _ _ _ _ _
  refine z_iload rfl rfl ?_
  refine z_callSi (As := [_]) (le := [some _]) rfl rfl (Nat.le_of_ble_eq_true rfl) (Nat.le_of_ble_eq_true rfl) rfl ?_
  refine z_iload rfl rfl ?_
  refine z_if_ltF rfl (by omega) (by omega) ?_
  refine z_iload rfl rfl ?_
  refine z_pushI (z := 6) rfl rfl ?_
  refine z_icmp_geF rfl (by omega) (by decide) (by omega) ?_
  refine z_pushI (z := 1) rfl rfl ?_
  refine z_goto rfl ?_
  refine z_bret rfl rfl (by decide) ?_
  show zW _ _ _ _ _ _ _ _ _ _
  refine z_if_eqF rfl (by decide) (by decide) ?_
  refine z_iload rfl rfl ?_
  refine z_if_lt rfl (by omega) (fun h1 => ?_) (fun h1 => ?_)
  · refine z_pushI (z := (-1)) rfl rfl ?_
    refine z_iret rfl rfl ?_
    refine ⟨_, rfl, ?_⟩
    show zW _ _ _ _ [some (.ref 50), some (zi s), some (zi v)] _ _ _ _ _
    refine z_iload rfl rfl ?_
    refine z_callSi (As := [_]) (le := [some _]) rfl rfl (Nat.le_of_ble_eq_true rfl) (Nat.le_of_ble_eq_true rfl) rfl ?_
    refine z_iload rfl rfl ?_
    refine z_pushI (z := 0) rfl rfl ?_
    refine z_pushI (z := 5) rfl rfl ?_
    refine z_callSi (As := [_, _, _]) (le := [some _, some _, some _]) rfl rfl (Nat.le_of_ble_eq_true rfl) (Nat.le_of_ble_eq_true rfl) rfl ?_
    refine z_iload rfl rfl ?_
    refine z_iload rfl rfl ?_
    refine z_icmp_ltF rfl (by omega) (by decide) (by omega) ?_
    refine z_iload rfl rfl ?_
    refine z_iload rfl rfl ?_
    refine z_icmp_gtF rfl (by omega) (by decide) (by omega) ?_
    refine z_pushI (z := 1) rfl rfl ?_
    refine z_goto rfl ?_
    refine z_bret rfl rfl (by decide) ?_
    show zW _ _ _ _ _ _ _ _ _ _
    refine z_bret rfl rfl (by decide) ?_
    show zW _ _ _ _ _ _ _ _ _ _
    refine z_if_eqF rfl (by decide) (by decide) ?_
    refine z_iload rfl rfl ?_
    refine z_pushI (z := 0) rfl rfl ?_
    refine z_pushI (z := 1000000) rfl rfl ?_
    refine z_callSi (As := [_, _, _]) (le := [some _, some _, some _]) rfl rfl (Nat.le_of_ble_eq_true rfl) (Nat.le_of_ble_eq_true rfl) rfl ?_
    refine z_iload rfl rfl ?_
    refine z_iload rfl rfl ?_
    refine z_icmp_ltT rfl (by omega) (by decide) (by omega) ?_
    refine z_pushI (z := 0) rfl rfl ?_
    refine z_bret rfl rfl (by decide) ?_
    show zW _ _ _ _ _ _ _ _ _ _
    refine z_if_neF rfl (by decide) (by decide) ?_
    refine z_pushI (z := (-1)) rfl rfl ?_
    refine z_iret rfl rfl ?_
    refine ⟨?_, ?_⟩
    · first | rfl | exact congrArg (fun v => some (zi v)) (by omega) | (exfalso; omega)
    · exact hr
  · refine z_iload rfl rfl ?_
    refine z_pushI (z := 1000000) rfl rfl ?_
    refine z_icmp_le rfl (by omega) (by decide) (fun h2 => ?_) (fun h2 => ?_)
    · refine z_aload rfl rfl ?_
      refine z_getR (r := 10) rfl rfl (hR _ rm_0_2) ?_
      refine z_iload rfl rfl ?_
      refine z_callVi (As := [_]) (le := [some _, some _]) rfl rfl rfl (Nat.le_of_ble_eq_true rfl) (Nat.le_of_ble_eq_true rfl) rfl ?_
      refine z_aload rfl rfl ?_
      refine z_iload rfl rfl ?_
      refine z_putI (y := 12) rfl rfl rfl ?_
      refine z_vret rfl rfl ?_
      show zW _ _ _ _ _ _ _ _ _ _
      refine z_aload rfl rfl ?_
      refine z_getR (r := 10) rfl rfl (hR _ rm_0_2) ?_
      refine z_aload rfl rfl ?_
      refine z_getR (r := 37) rfl rfl (hR _ rm_0_11) ?_
      refine z_iload rfl rfl ?_
      refine z_aald (r := 38 + 2 * s.toNat) rfl rfl (by decide) (by omega) (rr_shelf hR (by omega)) ?_
      refine z_callVi (As := [_]) (le := [some _, some _, none, none, none]) rfl rfl rfl (Nat.le_of_ble_eq_true rfl) (Nat.le_of_ble_eq_true rfl) rfl ?_
      refine z_aload rfl rfl ?_
      refine z_callVi (As := []) (le := [some _]) rfl rfl (zk_shelf (by omega)) (Nat.le_of_ble_eq_true rfl) (Nat.le_of_ble_eq_true rfl) rfl ?_
      refine z_aload rfl rfl ?_
      refine z_getI (v := 1) rfl (zk_shelf (by omega)) ((zU_n (by omega)).trans (hh)) ?_
      refine z_if_neT rfl (by decide) (by decide) ?_
      refine z_aload rfl rfl ?_
      refine z_callVi (As := []) (le := [some _]) rfl rfl (zk_shelf (by omega)) (Nat.le_of_ble_eq_true rfl) (Nat.le_of_ble_eq_true rfl) rfl ?_
      refine z_aload rfl rfl ?_
      refine z_getI (v := 1) rfl (zk_shelf (by omega)) ((zU_n (by omega)).trans (hh)) ?_
      refine z_pushI (z := 2) rfl rfl ?_
      refine z_icmp_neT rfl (by decide) (by decide) (by decide) ?_
      refine z_pushI (z := 0) rfl rfl ?_
      refine z_bret rfl rfl (by decide) ?_
      show zW _ _ _ _ _ _ _ _ _ _
      refine z_if_eqT rfl (by decide) (by decide) ?_
      refine z_pushI (z := (-12)) rfl rfl ?_
      refine z_iret rfl rfl ?_
      show zW _ _ _ _ _ _ _ _ _ _
      refine z_istore rfl rfl ?_
      refine z_iload rfl rfl ?_
      refine z_if_geF rfl (by decide) (by decide) ?_
      refine z_iload rfl rfl ?_
      refine z_iret rfl rfl ?_
      show zW _ _ _ _ _ _ _ _ _ _
      refine z_istore rfl rfl ?_
      refine z_iload rfl rfl ?_
      refine z_if_geF rfl (by decide) (by decide) ?_
      refine z_iload rfl rfl ?_
      refine z_goto rfl ?_
      refine z_iret rfl rfl ?_
      refine ⟨_, rfl, ?_⟩
      show zW _ _ _ _ [some (.ref 50), some (zi s), some (zi v)] _ _ _ _ _
      refine z_iload rfl rfl ?_
      refine z_callSi (As := [_]) (le := [some _]) rfl rfl (Nat.le_of_ble_eq_true rfl) (Nat.le_of_ble_eq_true rfl) rfl ?_
      refine z_iload rfl rfl ?_
      refine z_pushI (z := 0) rfl rfl ?_
      refine z_pushI (z := 5) rfl rfl ?_
      refine z_callSi (As := [_, _, _]) (le := [some _, some _, some _]) rfl rfl (Nat.le_of_ble_eq_true rfl) (Nat.le_of_ble_eq_true rfl) rfl ?_
      refine z_iload rfl rfl ?_
      refine z_iload rfl rfl ?_
      refine z_icmp_ltF rfl (by omega) (by decide) (by omega) ?_
      refine z_iload rfl rfl ?_
      refine z_iload rfl rfl ?_
      refine z_icmp_gtF rfl (by omega) (by decide) (by omega) ?_
      refine z_pushI (z := 1) rfl rfl ?_
      refine z_goto rfl ?_
      refine z_bret rfl rfl (by decide) ?_
      show zW _ _ _ _ _ _ _ _ _ _
      refine z_bret rfl rfl (by decide) ?_
      show zW _ _ _ _ _ _ _ _ _ _
      refine z_if_eqF rfl (by decide) (by decide) ?_
      refine z_iload rfl rfl ?_
      refine z_pushI (z := 0) rfl rfl ?_
      refine z_pushI (z := 1000000) rfl rfl ?_
      refine z_callSi (As := [_, _, _]) (le := [some _, some _, some _]) rfl rfl (Nat.le_of_ble_eq_true rfl) (Nat.le_of_ble_eq_true rfl) rfl ?_
      refine z_iload rfl rfl ?_
      refine z_iload rfl rfl ?_
      refine z_icmp_ltF rfl (by omega) (by decide) (by omega) ?_
      refine z_iload rfl rfl ?_
      refine z_iload rfl rfl ?_
      refine z_icmp_gtF rfl (by omega) (by decide) (by omega) ?_
      refine z_pushI (z := 1) rfl rfl ?_
      refine z_goto rfl ?_
      refine z_bret rfl rfl (by decide) ?_
      show zW _ _ _ _ _ _ _ _ _ _
      refine z_if_neT rfl (by decide) (by decide) ?_
      refine z_aload rfl rfl ?_
      refine z_iload rfl rfl ?_
      refine z_callVi (As := [_]) (le := [some _, some _]) rfl rfl rfl (Nat.le_of_ble_eq_true rfl) (Nat.le_of_ble_eq_true rfl) rfl ?_
      refine z_aload rfl rfl ?_
      refine z_getR (r := 83) rfl rfl (hRr _ rm_50_58 (by decide)) ?_
      refine z_iload rfl rfl ?_
      refine z_iald (v := J (38 + 2 * s.toNat) 1) rfl rfl (by decide) (by omega) ((zU_n (by decide)).trans (e83)) ?_
      refine z_pushI (z := (-1)) rfl rfl ?_
      refine z_icmp_ne rfl (by omega) (by decide) (fun h3 => ?_) (fun h3 => ?_)
      · refine z_aload rfl rfl ?_
        refine z_getR (r := 83) rfl rfl (hRr _ rm_50_58 (by decide)) ?_
        refine z_iload rfl rfl ?_
        refine z_iald (v := J (38 + 2 * s.toNat) 1) rfl rfl (by decide) (by omega) ((zU_n (by decide)).trans (e83)) ?_
        refine z_pushI (z := (-2)) rfl rfl ?_
        refine z_icmp_ne rfl (by omega) (by decide) (fun h4 => ?_) (fun h4 => ?_)
        · refine z_pushI (z := (-12)) rfl rfl ?_
          refine z_iret rfl rfl ?_
          show zW _ _ _ _ _ _ _ _ _ _
          refine z_if_geF rfl (by decide) (by decide) ?_
          refine z_aload rfl rfl ?_
          refine z_iload rfl rfl ?_
          refine z_callVi (As := [_]) (le := [some _, some _]) rfl rfl rfl (Nat.le_of_ble_eq_true rfl) (Nat.le_of_ble_eq_true rfl) rfl ?_
          refine z_aload rfl rfl ?_
          refine z_getR (r := 83) rfl rfl (hRr _ rm_50_58 (by decide)) ?_
          refine z_iload rfl rfl ?_
          refine z_iald (v := J (38 + 2 * s.toNat) 1) rfl rfl (by decide) (by omega) ((zU_n (by decide)).trans (e83)) ?_
          refine z_pushI (z := (-1)) rfl rfl ?_
          refine z_icmp_ne rfl (by omega) (by decide) (fun h5 => ?_) (fun h5 => ?_)
          · refine z_aload rfl rfl ?_
            refine z_getR (r := 83) rfl rfl (hRr _ rm_50_58 (by decide)) ?_
            refine z_iload rfl rfl ?_
            refine z_iald (v := J (38 + 2 * s.toNat) 1) rfl rfl (by decide) (by omega) ((zU_n (by decide)).trans (e83)) ?_
            refine z_pushI (z := (-2)) rfl rfl ?_
            refine z_icmp_ne rfl (by omega) (by decide) (fun h6 => ?_) (fun h6 => ?_)
            · refine z_pushI (z := (-12)) rfl rfl ?_
              refine z_iret rfl rfl ?_
              show zW _ _ _ _ _ _ _ _ _ _
              refine z_iret rfl rfl ?_
              refine ⟨?_, ?_⟩
              · first | rfl | exact congrArg (fun v => some (zi v)) (by omega) | (exfalso; omega)
              · have hk := (zK_x (a := 10) (x := 12) (v := v) (zK_r (k := (kL [] [(10, 12)])) (A := J)) rfl)
                exact ⟨hR, hG, RelY_k hk (by repeat' constructor) (fun p => by repeat' constructor) hY, RelD_k hk (by repeat' constructor) (fun p => by repeat' constructor) hD, RelP_k hk (by repeat' constructor) (fun p => by repeat' constructor) hP, RelC_k hk (by repeat' constructor) (fun p => by repeat' constructor) hC, RelA_k hk (by repeat' constructor) (fun p => by repeat' constructor) hAc, RelS_k hk (zK_r (k := kM)) (fun x j a b => ⟨kL_38 (by decide) (by decide) x j a b, kM_38 x j a b⟩) (fun p => ⟨rfl, rfl, rfl⟩) rfl hS, RelT_k hk (by repeat' constructor) (fun p => by repeat' constructor) hTp, RelX_k hk (by repeat' constructor) (fun p => by repeat' constructor) hX, ⟨(show 0 ≤ v ∧ v ≤ 1000000 from by omega), hW.2⟩⟩
            · refine z_pushI (z := 0) rfl rfl ?_
              refine z_goto rfl ?_
              refine z_iret rfl rfl ?_
              show zW _ _ _ _ _ _ _ _ _ _
              refine z_iret rfl rfl ?_
              refine ⟨?_, ?_⟩
              · first | rfl | exact congrArg (fun v => some (zi v)) (by omega) | (exfalso; omega)
              · have hk := (zK_x (a := 10) (x := 12) (v := v) (zK_r (k := (kL [] [(10, 12)])) (A := J)) rfl)
                exact ⟨hR, hG, RelY_k hk (by repeat' constructor) (fun p => by repeat' constructor) hY, RelD_k hk (by repeat' constructor) (fun p => by repeat' constructor) hD, RelP_k hk (by repeat' constructor) (fun p => by repeat' constructor) hP, RelC_k hk (by repeat' constructor) (fun p => by repeat' constructor) hC, RelA_k hk (by repeat' constructor) (fun p => by repeat' constructor) hAc, RelS_k hk (zK_r (k := kM)) (fun x j a b => ⟨kL_38 (by decide) (by decide) x j a b, kM_38 x j a b⟩) (fun p => ⟨rfl, rfl, rfl⟩) rfl hS, RelT_k hk (by repeat' constructor) (fun p => by repeat' constructor) hTp, RelX_k hk (by repeat' constructor) (fun p => by repeat' constructor) hX, ⟨(show 0 ≤ v ∧ v ≤ 1000000 from by omega), hW.2⟩⟩
          · refine z_pushI (z := (-11)) rfl rfl ?_
            refine z_goto rfl ?_
            refine z_iret rfl rfl ?_
            show zW _ _ _ _ _ _ _ _ _ _
            refine z_iret rfl rfl ?_
            refine ⟨?_, ?_⟩
            · first | rfl | exact congrArg (fun v => some (zi v)) (by omega) | (exfalso; omega)
            · have hk := (zK_x (a := 10) (x := 12) (v := v) (zK_r (k := (kL [] [(10, 12)])) (A := J)) rfl)
              exact ⟨hR, hG, RelY_k hk (by repeat' constructor) (fun p => by repeat' constructor) hY, RelD_k hk (by repeat' constructor) (fun p => by repeat' constructor) hD, RelP_k hk (by repeat' constructor) (fun p => by repeat' constructor) hP, RelC_k hk (by repeat' constructor) (fun p => by repeat' constructor) hC, RelA_k hk (by repeat' constructor) (fun p => by repeat' constructor) hAc, RelS_k hk (zK_r (k := kM)) (fun x j a b => ⟨kL_38 (by decide) (by decide) x j a b, kM_38 x j a b⟩) (fun p => ⟨rfl, rfl, rfl⟩) rfl hS, RelT_k hk (by repeat' constructor) (fun p => by repeat' constructor) hTp, RelX_k hk (by repeat' constructor) (fun p => by repeat' constructor) hX, ⟨(show 0 ≤ v ∧ v ≤ 1000000 from by omega), hW.2⟩⟩
        · refine z_pushI (z := 0) rfl rfl ?_
          refine z_goto rfl ?_
          refine z_iret rfl rfl ?_
          show zW _ _ _ _ _ _ _ _ _ _
          refine z_if_geT rfl (by decide) (by decide) ?_
          refine z_aload rfl rfl ?_
          refine z_iload rfl rfl ?_
          refine z_putI (y := 35) rfl rfl rfl ?_
          refine z_aload rfl rfl ?_
          refine z_iload rfl rfl ?_
          refine z_pushI (z := 60) rfl rfl ?_
          exfalso
          omega
      · refine z_pushI (z := (-11)) rfl rfl ?_
        refine z_goto rfl ?_
        refine z_iret rfl rfl ?_
        show zW _ _ _ _ _ _ _ _ _ _
        refine z_if_geF rfl (by decide) (by decide) ?_
        refine z_aload rfl rfl ?_
        refine z_iload rfl rfl ?_
        refine z_callVi (As := [_]) (le := [some _, some _]) rfl rfl rfl (Nat.le_of_ble_eq_true rfl) (Nat.le_of_ble_eq_true rfl) rfl ?_
        refine z_aload rfl rfl ?_
        refine z_getR (r := 83) rfl rfl (hRr _ rm_50_58 (by decide)) ?_
        refine z_iload rfl rfl ?_
        refine z_iald (v := J (38 + 2 * s.toNat) 1) rfl rfl (by decide) (by omega) ((zU_n (by decide)).trans (e83)) ?_
        refine z_pushI (z := (-1)) rfl rfl ?_
        refine z_icmp_neF rfl (by omega) (by decide) (by omega) ?_
        refine z_pushI (z := (-11)) rfl rfl ?_
        refine z_goto rfl ?_
        refine z_iret rfl rfl ?_
        show zW _ _ _ _ _ _ _ _ _ _
        refine z_iret rfl rfl ?_
        refine ⟨?_, ?_⟩
        · first | rfl | exact congrArg (fun v => some (zi v)) (by omega) | (exfalso; omega)
        · have hk := (zK_x (a := 10) (x := 12) (v := v) (zK_r (k := (kL [] [(10, 12)])) (A := J)) rfl)
          exact ⟨hR, hG, RelY_k hk (by repeat' constructor) (fun p => by repeat' constructor) hY, RelD_k hk (by repeat' constructor) (fun p => by repeat' constructor) hD, RelP_k hk (by repeat' constructor) (fun p => by repeat' constructor) hP, RelC_k hk (by repeat' constructor) (fun p => by repeat' constructor) hC, RelA_k hk (by repeat' constructor) (fun p => by repeat' constructor) hAc, RelS_k hk (zK_r (k := kM)) (fun x j a b => ⟨kL_38 (by decide) (by decide) x j a b, kM_38 x j a b⟩) (fun p => ⟨rfl, rfl, rfl⟩) rfl hS, RelT_k hk (by repeat' constructor) (fun p => by repeat' constructor) hTp, RelX_k hk (by repeat' constructor) (fun p => by repeat' constructor) hX, ⟨(show 0 ≤ v ∧ v ≤ 1000000 from by omega), hW.2⟩⟩
    · refine z_pushI (z := (-1)) rfl rfl ?_
      refine z_iret rfl rfl ?_
      refine ⟨_, rfl, ?_⟩
      show zW _ _ _ _ [some (.ref 50), some (zi s), some (zi v)] _ _ _ _ _
      refine z_iload rfl rfl ?_
      refine z_callSi (As := [_]) (le := [some _]) rfl rfl (Nat.le_of_ble_eq_true rfl) (Nat.le_of_ble_eq_true rfl) rfl ?_
      refine z_iload rfl rfl ?_
      refine z_pushI (z := 0) rfl rfl ?_
      refine z_pushI (z := 5) rfl rfl ?_
      refine z_callSi (As := [_, _, _]) (le := [some _, some _, some _]) rfl rfl (Nat.le_of_ble_eq_true rfl) (Nat.le_of_ble_eq_true rfl) rfl ?_
      refine z_iload rfl rfl ?_
      refine z_iload rfl rfl ?_
      refine z_icmp_ltF rfl (by omega) (by decide) (by omega) ?_
      refine z_iload rfl rfl ?_
      refine z_iload rfl rfl ?_
      refine z_icmp_gtF rfl (by omega) (by decide) (by omega) ?_
      refine z_pushI (z := 1) rfl rfl ?_
      refine z_goto rfl ?_
      refine z_bret rfl rfl (by decide) ?_
      show zW _ _ _ _ _ _ _ _ _ _
      refine z_bret rfl rfl (by decide) ?_
      show zW _ _ _ _ _ _ _ _ _ _
      refine z_if_eqF rfl (by decide) (by decide) ?_
      refine z_iload rfl rfl ?_
      refine z_pushI (z := 0) rfl rfl ?_
      refine z_pushI (z := 1000000) rfl rfl ?_
      refine z_callSi (As := [_, _, _]) (le := [some _, some _, some _]) rfl rfl (Nat.le_of_ble_eq_true rfl) (Nat.le_of_ble_eq_true rfl) rfl ?_
      refine z_iload rfl rfl ?_
      refine z_iload rfl rfl ?_
      refine z_icmp_ltF rfl (by omega) (by decide) (by omega) ?_
      refine z_iload rfl rfl ?_
      refine z_iload rfl rfl ?_
      refine z_icmp_gtT rfl (by omega) (by decide) (by omega) ?_
      refine z_pushI (z := 0) rfl rfl ?_
      refine z_bret rfl rfl (by decide) ?_
      show zW _ _ _ _ _ _ _ _ _ _
      refine z_if_neF rfl (by decide) (by decide) ?_
      refine z_pushI (z := (-1)) rfl rfl ?_
      refine z_iret rfl rfl ?_
      refine ⟨?_, ?_⟩
      · first | rfl | exact congrArg (fun v => some (zi v)) (by omega) | (exfalso; omega)
      · exact hr
theorem st_by_2 {X : Nat × (Nat → Int32)} {d : Nat} {J M : zA} {R : zR} {s v : Int} (hr : Rel X J M R) (hs : -2147483648 ≤ s ∧ s < 2147483648) (hv : -2147483648 ≤ v ∧ v < 2147483648) (hs6 : 0 ≤ s ∧ s < 6) (hh : J (38 + 2 * s.toNat) 0 = 2) (hso : ¬ J (38 + 2 * s.toNat) 2 = 0) : zW X (d + 20) 111 0 (gEn 111 [(.ref 0), (zi s), (zi v)]) [] J M R (stP X (d + 20) 200 [(zi s), (zi v)]) := by
  have hr0 := hr
  obtain ⟨hR, hG, hY, hD, hP, hC, hAc, hS, hTp, hX, hW⟩ := hr0
  have hRr : zRoR R := zRoR_of hR
  have hY0 := hY
  obtain ⟨y1, y2, y3⟩ := hY0
  have yn := zNn y3
  have hA0 := hAc
  obtain ⟨a1, a2, a3, a4, a5, a6⟩ := hA0
  have e83 : J 83 s = -2 - J (38 + 2 * s.toNat) 2 := (hS s hs6.1 hs6.2).1.symm.trans (cH_2 hh)
  have s3 : 0 ≤ J (38 + 2 * s.toNat) 2 ∧ J (38 + 2 * s.toNat) 2 ≤ 4 := (hS s hs6.1 hs6.2).2.2.1
  have s4 : 0 ≤ J (38 + 2 * s.toNat) 3 ∧ J (38 + 2 * s.toNat) 3 ≤ 60 := (hS s hs6.1 hs6.2).2.2.2.1
  have s6 := (hS s hs6.1 hs6.2).2.2.2.2.2 hh
  have s7 : J 84 s = J (38 + 2 * s.toNat) 3 := s6.1.symm
  have s8 : ∀ i, 0 ≤ i → i < J (38 + 2 * s.toNat) 3 → M (39 + 2 * s.toNat) i = M 85 (60 * s + i) := s6.2.1
  show zW _ _ _ _ [some (.ref 0), some (zi s), some (zi v), none] _ _ _ _ _
  refine z_iload rfl rfl ?_
  refine z_callSi (As := [_]) (le := [some _]) rfl rfl (Nat.le_of_ble_eq_true rfl) (Nat.le_of_ble_eq_true rfl) rfl ?_
  refine z_iload rfl rfl ?_
  refine z_if_ltF rfl (by omega) (by omega) ?_
  refine z_iload rfl rfl ?_
  refine z_pushI (z := 6) rfl rfl ?_
  refine z_icmp_geF rfl (by omega) (by decide) (by omega) ?_
  refine z_pushI (z := 1) rfl rfl ?_
  refine z_goto rfl ?_
  refine z_bret rfl rfl (by decide) ?_
  show zW _ _ _ _ _ _ _ _ _ _
  refine z_if_eqF rfl (by decide) (by decide) ?_
  refine z_iload rfl rfl ?_
  refine z_if_lt rfl (by omega) (fun h1 => ?_) (fun h1 => ?_)
  · refine z_pushI (z := (-1)) rfl rfl ?_
    refine z_iret rfl rfl ?_
    refine ⟨_, rfl, ?_⟩
    show zW _ _ _ _ [some (.ref 50), some (zi s), some (zi v)] _ _ _ _ _
    refine z_iload rfl rfl ?_
    refine z_callSi (As := [_]) (le := [some _]) rfl rfl (Nat.le_of_ble_eq_true rfl) (Nat.le_of_ble_eq_true rfl) rfl ?_
    refine z_iload rfl rfl ?_
    refine z_pushI (z := 0) rfl rfl ?_
    refine z_pushI (z := 5) rfl rfl ?_
    refine z_callSi (As := [_, _, _]) (le := [some _, some _, some _]) rfl rfl (Nat.le_of_ble_eq_true rfl) (Nat.le_of_ble_eq_true rfl) rfl ?_
    refine z_iload rfl rfl ?_
    refine z_iload rfl rfl ?_
    refine z_icmp_ltF rfl (by omega) (by decide) (by omega) ?_
    refine z_iload rfl rfl ?_
    refine z_iload rfl rfl ?_
    refine z_icmp_gtF rfl (by omega) (by decide) (by omega) ?_
    refine z_pushI (z := 1) rfl rfl ?_
    refine z_goto rfl ?_
    refine z_bret rfl rfl (by decide) ?_
    show zW _ _ _ _ _ _ _ _ _ _
    refine z_bret rfl rfl (by decide) ?_
    show zW _ _ _ _ _ _ _ _ _ _
    refine z_if_eqF rfl (by decide) (by decide) ?_
    refine z_iload rfl rfl ?_
    refine z_pushI (z := 0) rfl rfl ?_
    refine z_pushI (z := 1000000) rfl rfl ?_
    refine z_callSi (As := [_, _, _]) (le := [some _, some _, some _]) rfl rfl (Nat.le_of_ble_eq_true rfl) (Nat.le_of_ble_eq_true rfl) rfl ?_
    refine z_iload rfl rfl ?_
    refine z_iload rfl rfl ?_
    refine z_icmp_ltT rfl (by omega) (by decide) (by omega) ?_
    refine z_pushI (z := 0) rfl rfl ?_
    refine z_bret rfl rfl (by decide) ?_
    show zW _ _ _ _ _ _ _ _ _ _
    refine z_if_neF rfl (by decide) (by decide) ?_
    refine z_pushI (z := (-1)) rfl rfl ?_
    refine z_iret rfl rfl ?_
    refine ⟨?_, ?_⟩
    · first | rfl | exact congrArg (fun v => some (zi v)) (by omega) | (exfalso; omega)
    · exact hr
  · refine z_iload rfl rfl ?_
    refine z_pushI (z := 1000000) rfl rfl ?_
    refine z_icmp_le rfl (by omega) (by decide) (fun h2 => ?_) (fun h2 => ?_)
    · refine z_aload rfl rfl ?_
      refine z_getR (r := 10) rfl rfl (hR _ rm_0_2) ?_
      refine z_iload rfl rfl ?_
      refine z_callVi (As := [_]) (le := [some _, some _]) rfl rfl rfl (Nat.le_of_ble_eq_true rfl) (Nat.le_of_ble_eq_true rfl) rfl ?_
      refine z_aload rfl rfl ?_
      refine z_iload rfl rfl ?_
      refine z_putI (y := 12) rfl rfl rfl ?_
      refine z_vret rfl rfl ?_
      show zW _ _ _ _ _ _ _ _ _ _
      refine z_aload rfl rfl ?_
      refine z_getR (r := 10) rfl rfl (hR _ rm_0_2) ?_
      refine z_aload rfl rfl ?_
      refine z_getR (r := 37) rfl rfl (hR _ rm_0_11) ?_
      refine z_iload rfl rfl ?_
      refine z_aald (r := 38 + 2 * s.toNat) rfl rfl (by decide) (by omega) (rr_shelf hR (by omega)) ?_
      refine z_callVi (As := [_]) (le := [some _, some _, none, none, none]) rfl rfl rfl (Nat.le_of_ble_eq_true rfl) (Nat.le_of_ble_eq_true rfl) rfl ?_
      refine z_aload rfl rfl ?_
      refine z_callVi (As := []) (le := [some _]) rfl rfl (zk_shelf (by omega)) (Nat.le_of_ble_eq_true rfl) (Nat.le_of_ble_eq_true rfl) rfl ?_
      refine z_aload rfl rfl ?_
      refine z_getI (v := 2) rfl (zk_shelf (by omega)) ((zU_n (by omega)).trans (hh)) ?_
      refine z_if_neT rfl (by decide) (by decide) ?_
      refine z_aload rfl rfl ?_
      refine z_callVi (As := []) (le := [some _]) rfl rfl (zk_shelf (by omega)) (Nat.le_of_ble_eq_true rfl) (Nat.le_of_ble_eq_true rfl) rfl ?_
      refine z_aload rfl rfl ?_
      refine z_getI (v := 2) rfl (zk_shelf (by omega)) ((zU_n (by omega)).trans (hh)) ?_
      refine z_pushI (z := 2) rfl rfl ?_
      refine z_icmp_neF rfl (by decide) (by decide) (by decide) ?_
      refine z_aload rfl rfl ?_
      refine z_getI (v := J (38 + 2 * s.toNat) 2) rfl (zk_shelf (by omega)) ((zU_n (by omega)).trans (rfl)) ?_
      refine z_if_neT rfl (by omega) (by omega) ?_
      refine z_pushI (z := 0) rfl rfl ?_
      refine z_bret rfl rfl (by decide) ?_
      show zW _ _ _ _ _ _ _ _ _ _
      refine z_if_eqT rfl (by decide) (by decide) ?_
      refine z_pushI (z := (-12)) rfl rfl ?_
      refine z_iret rfl rfl ?_
      show zW _ _ _ _ _ _ _ _ _ _
      refine z_istore rfl rfl ?_
      refine z_iload rfl rfl ?_
      refine z_if_geF rfl (by decide) (by decide) ?_
      refine z_iload rfl rfl ?_
      refine z_iret rfl rfl ?_
      show zW _ _ _ _ _ _ _ _ _ _
      refine z_istore rfl rfl ?_
      refine z_iload rfl rfl ?_
      refine z_if_geF rfl (by decide) (by decide) ?_
      refine z_iload rfl rfl ?_
      refine z_goto rfl ?_
      refine z_iret rfl rfl ?_
      refine ⟨_, rfl, ?_⟩
      show zW _ _ _ _ [some (.ref 50), some (zi s), some (zi v)] _ _ _ _ _
      refine z_iload rfl rfl ?_
      refine z_callSi (As := [_]) (le := [some _]) rfl rfl (Nat.le_of_ble_eq_true rfl) (Nat.le_of_ble_eq_true rfl) rfl ?_
      refine z_iload rfl rfl ?_
      refine z_pushI (z := 0) rfl rfl ?_
      refine z_pushI (z := 5) rfl rfl ?_
      refine z_callSi (As := [_, _, _]) (le := [some _, some _, some _]) rfl rfl (Nat.le_of_ble_eq_true rfl) (Nat.le_of_ble_eq_true rfl) rfl ?_
      refine z_iload rfl rfl ?_
      refine z_iload rfl rfl ?_
      refine z_icmp_ltF rfl (by omega) (by decide) (by omega) ?_
      refine z_iload rfl rfl ?_
      refine z_iload rfl rfl ?_
      refine z_icmp_gtF rfl (by omega) (by decide) (by omega) ?_
      refine z_pushI (z := 1) rfl rfl ?_
      refine z_goto rfl ?_
      refine z_bret rfl rfl (by decide) ?_
      show zW _ _ _ _ _ _ _ _ _ _
      refine z_bret rfl rfl (by decide) ?_
      show zW _ _ _ _ _ _ _ _ _ _
      refine z_if_eqF rfl (by decide) (by decide) ?_
      refine z_iload rfl rfl ?_
      refine z_pushI (z := 0) rfl rfl ?_
      refine z_pushI (z := 1000000) rfl rfl ?_
      refine z_callSi (As := [_, _, _]) (le := [some _, some _, some _]) rfl rfl (Nat.le_of_ble_eq_true rfl) (Nat.le_of_ble_eq_true rfl) rfl ?_
      refine z_iload rfl rfl ?_
      refine z_iload rfl rfl ?_
      refine z_icmp_ltF rfl (by omega) (by decide) (by omega) ?_
      refine z_iload rfl rfl ?_
      refine z_iload rfl rfl ?_
      refine z_icmp_gtF rfl (by omega) (by decide) (by omega) ?_
      refine z_pushI (z := 1) rfl rfl ?_
      refine z_goto rfl ?_
      refine z_bret rfl rfl (by decide) ?_
      show zW _ _ _ _ _ _ _ _ _ _
      refine z_if_neT rfl (by decide) (by decide) ?_
      refine z_aload rfl rfl ?_
      refine z_iload rfl rfl ?_
      refine z_callVi (As := [_]) (le := [some _, some _]) rfl rfl rfl (Nat.le_of_ble_eq_true rfl) (Nat.le_of_ble_eq_true rfl) rfl ?_
      refine z_aload rfl rfl ?_
      refine z_getR (r := 83) rfl rfl (hRr _ rm_50_58 (by decide)) ?_
      refine z_iload rfl rfl ?_
      refine z_iald (v := (-2) - (J (38 + 2 * s.toNat) 2)) rfl rfl (by decide) (by omega) ((zU_n (by decide)).trans (e83)) ?_
      refine z_pushI (z := (-1)) rfl rfl ?_
      refine z_icmp_neT rfl (by omega) (by decide) (by omega) ?_
      refine z_aload rfl rfl ?_
      refine z_getR (r := 83) rfl rfl (hRr _ rm_50_58 (by decide)) ?_
      refine z_iload rfl rfl ?_
      refine z_iald (v := (-2) - (J (38 + 2 * s.toNat) 2)) rfl rfl (by decide) (by omega) ((zU_n (by decide)).trans (e83)) ?_
      refine z_pushI (z := (-2)) rfl rfl ?_
      refine z_icmp_neT rfl (by omega) (by decide) (by omega) ?_
      refine z_pushI (z := (-12)) rfl rfl ?_
      refine z_iret rfl rfl ?_
      show zW _ _ _ _ _ _ _ _ _ _
      refine z_if_geF rfl (by decide) (by decide) ?_
      refine z_aload rfl rfl ?_
      refine z_iload rfl rfl ?_
      refine z_callVi (As := [_]) (le := [some _, some _]) rfl rfl rfl (Nat.le_of_ble_eq_true rfl) (Nat.le_of_ble_eq_true rfl) rfl ?_
      refine z_aload rfl rfl ?_
      refine z_getR (r := 83) rfl rfl (hRr _ rm_50_58 (by decide)) ?_
      refine z_iload rfl rfl ?_
      refine z_iald (v := (-2) - (J (38 + 2 * s.toNat) 2)) rfl rfl (by decide) (by omega) ((zU_n (by decide)).trans (e83)) ?_
      refine z_pushI (z := (-1)) rfl rfl ?_
      refine z_icmp_neT rfl (by omega) (by decide) (by omega) ?_
      refine z_aload rfl rfl ?_
      refine z_getR (r := 83) rfl rfl (hRr _ rm_50_58 (by decide)) ?_
      refine z_iload rfl rfl ?_
      refine z_iald (v := (-2) - (J (38 + 2 * s.toNat) 2)) rfl rfl (by decide) (by omega) ((zU_n (by decide)).trans (e83)) ?_
      refine z_pushI (z := (-2)) rfl rfl ?_
      refine z_icmp_neT rfl (by omega) (by decide) (by omega) ?_
      refine z_pushI (z := (-12)) rfl rfl ?_
      refine z_iret rfl rfl ?_
      show zW _ _ _ _ _ _ _ _ _ _
      refine z_iret rfl rfl ?_
      refine ⟨?_, ?_⟩
      · first | rfl | exact congrArg (fun v => some (zi v)) (by omega) | (exfalso; omega)
      · have hk := (zK_x (a := 10) (x := 12) (v := v) (zK_r (k := (kL [] [(10, 12)])) (A := J)) rfl)
        exact ⟨hR, hG, RelY_k hk (by repeat' constructor) (fun p => by repeat' constructor) hY, RelD_k hk (by repeat' constructor) (fun p => by repeat' constructor) hD, RelP_k hk (by repeat' constructor) (fun p => by repeat' constructor) hP, RelC_k hk (by repeat' constructor) (fun p => by repeat' constructor) hC, RelA_k hk (by repeat' constructor) (fun p => by repeat' constructor) hAc, RelS_k hk (zK_r (k := kM)) (fun x j a b => ⟨kL_38 (by decide) (by decide) x j a b, kM_38 x j a b⟩) (fun p => ⟨rfl, rfl, rfl⟩) rfl hS, RelT_k hk (by repeat' constructor) (fun p => by repeat' constructor) hTp, RelX_k hk (by repeat' constructor) (fun p => by repeat' constructor) hX, ⟨(show 0 ≤ v ∧ v ≤ 1000000 from by omega), hW.2⟩⟩
    · refine z_pushI (z := (-1)) rfl rfl ?_
      refine z_iret rfl rfl ?_
      refine ⟨_, rfl, ?_⟩
      show zW _ _ _ _ [some (.ref 50), some (zi s), some (zi v)] _ _ _ _ _
      refine z_iload rfl rfl ?_
      refine z_callSi (As := [_]) (le := [some _]) rfl rfl (Nat.le_of_ble_eq_true rfl) (Nat.le_of_ble_eq_true rfl) rfl ?_
      refine z_iload rfl rfl ?_
      refine z_pushI (z := 0) rfl rfl ?_
      refine z_pushI (z := 5) rfl rfl ?_
      refine z_callSi (As := [_, _, _]) (le := [some _, some _, some _]) rfl rfl (Nat.le_of_ble_eq_true rfl) (Nat.le_of_ble_eq_true rfl) rfl ?_
      refine z_iload rfl rfl ?_
      refine z_iload rfl rfl ?_
      refine z_icmp_ltF rfl (by omega) (by decide) (by omega) ?_
      refine z_iload rfl rfl ?_
      refine z_iload rfl rfl ?_
      refine z_icmp_gtF rfl (by omega) (by decide) (by omega) ?_
      refine z_pushI (z := 1) rfl rfl ?_
      refine z_goto rfl ?_
      refine z_bret rfl rfl (by decide) ?_
      show zW _ _ _ _ _ _ _ _ _ _
      refine z_bret rfl rfl (by decide) ?_
      show zW _ _ _ _ _ _ _ _ _ _
      refine z_if_eqF rfl (by decide) (by decide) ?_
      refine z_iload rfl rfl ?_
      refine z_pushI (z := 0) rfl rfl ?_
      refine z_pushI (z := 1000000) rfl rfl ?_
      refine z_callSi (As := [_, _, _]) (le := [some _, some _, some _]) rfl rfl (Nat.le_of_ble_eq_true rfl) (Nat.le_of_ble_eq_true rfl) rfl ?_
      refine z_iload rfl rfl ?_
      refine z_iload rfl rfl ?_
      refine z_icmp_ltF rfl (by omega) (by decide) (by omega) ?_
      refine z_iload rfl rfl ?_
      refine z_iload rfl rfl ?_
      refine z_icmp_gtT rfl (by omega) (by decide) (by omega) ?_
      refine z_pushI (z := 0) rfl rfl ?_
      refine z_bret rfl rfl (by decide) ?_
      show zW _ _ _ _ _ _ _ _ _ _
      refine z_if_neF rfl (by decide) (by decide) ?_
      refine z_pushI (z := (-1)) rfl rfl ?_
      refine z_iret rfl rfl ?_
      refine ⟨?_, ?_⟩
      · first | rfl | exact congrArg (fun v => some (zi v)) (by omega) | (exfalso; omega)
      · exact hr
theorem st_by_m {X : Nat × (Nat → Int32)} {d : Nat} {J M : zA} {R : zR} {s v : Int} (hr : Rel X J M R) (hs : -2147483648 ≤ s ∧ s < 2147483648) (hv : -2147483648 ≤ v ∧ v < 2147483648) (hs6 : 0 ≤ s ∧ s < 6) (hh : J (38 + 2 * s.toNat) 0 = 2) (hso : J (38 + 2 * s.toNat) 2 = 0) : zW X (d + 20) 111 0 (gEn 111 [(.ref 0), (zi s), (zi v)]) [] J M R (stP X (d + 20) 200 [(zi s), (zi v)]) := by
  have hr0 := hr
  obtain ⟨hR, hG, hY, hD, hP, hC, hAc, hS, hTp, hX, hW⟩ := hr0
  have hRr : zRoR R := zRoR_of hR
  have hY0 := hY
  obtain ⟨y1, y2, y3⟩ := hY0
  have yn := zNn y3
  have e83 : J 83 s = -2 - J (38 + 2 * s.toNat) 2 := (hS s hs6.1 hs6.2).1.symm.trans (cH_2 hh)
  have s3 : 0 ≤ J (38 + 2 * s.toNat) 2 ∧ J (38 + 2 * s.toNat) 2 ≤ 4 := (hS s hs6.1 hs6.2).2.2.1
  have s4 : 0 ≤ J (38 + 2 * s.toNat) 3 ∧ J (38 + 2 * s.toNat) 3 ≤ 60 := (hS s hs6.1 hs6.2).2.2.2.1
  have s6 := (hS s hs6.1 hs6.2).2.2.2.2.2 hh
  have s7 : J 84 s = J (38 + 2 * s.toNat) 3 := s6.1.symm
  have s8 : ∀ i, 0 ≤ i → i < J (38 + 2 * s.toNat) 3 → M (39 + 2 * s.toNat) i = M 85 (60 * s + i) := s6.2.1
  have e83n : J 83 s = -2 := e83.trans (by omega)
  have hbr := s6.2.2 hso
  have hX0 := hX
  obtain ⟨T, t1, t2, t3⟩ := hX0
  show zW _ _ _ _ [some (.ref 0), some (zi s), some (zi v), none] _ _ _ _ _
  refine z_iload rfl rfl ?_
  refine z_callSi (As := [_]) (le := [some _]) rfl rfl (Nat.le_of_ble_eq_true rfl) (Nat.le_of_ble_eq_true rfl) rfl ?_
  refine z_iload rfl rfl ?_
  refine z_if_ltF rfl (by omega) (by omega) ?_
  refine z_iload rfl rfl ?_
  refine z_pushI (z := 6) rfl rfl ?_
  refine z_icmp_geF rfl (by omega) (by decide) (by omega) ?_
  refine z_pushI (z := 1) rfl rfl ?_
  refine z_goto rfl ?_
  refine z_bret rfl rfl (by decide) ?_
  show zW _ _ _ _ _ _ _ _ _ _
  refine z_if_eqF rfl (by decide) (by decide) ?_
  refine z_iload rfl rfl ?_
  refine z_if_lt rfl (by omega) (fun h1 => ?_) (fun h1 => ?_)
  · refine z_pushI (z := (-1)) rfl rfl ?_
    refine z_iret rfl rfl ?_
    refine ⟨_, rfl, ?_⟩
    show zW _ _ _ _ [some (.ref 50), some (zi s), some (zi v)] _ _ _ _ _
    refine z_iload rfl rfl ?_
    refine z_callSi (As := [_]) (le := [some _]) rfl rfl (Nat.le_of_ble_eq_true rfl) (Nat.le_of_ble_eq_true rfl) rfl ?_
    refine z_iload rfl rfl ?_
    refine z_pushI (z := 0) rfl rfl ?_
    refine z_pushI (z := 5) rfl rfl ?_
    refine z_callSi (As := [_, _, _]) (le := [some _, some _, some _]) rfl rfl (Nat.le_of_ble_eq_true rfl) (Nat.le_of_ble_eq_true rfl) rfl ?_
    refine z_iload rfl rfl ?_
    refine z_iload rfl rfl ?_
    refine z_icmp_ltF rfl (by omega) (by decide) (by omega) ?_
    refine z_iload rfl rfl ?_
    refine z_iload rfl rfl ?_
    refine z_icmp_gtF rfl (by omega) (by decide) (by omega) ?_
    refine z_pushI (z := 1) rfl rfl ?_
    refine z_goto rfl ?_
    refine z_bret rfl rfl (by decide) ?_
    show zW _ _ _ _ _ _ _ _ _ _
    refine z_bret rfl rfl (by decide) ?_
    show zW _ _ _ _ _ _ _ _ _ _
    refine z_if_eqF rfl (by decide) (by decide) ?_
    refine z_iload rfl rfl ?_
    refine z_pushI (z := 0) rfl rfl ?_
    refine z_pushI (z := 1000000) rfl rfl ?_
    refine z_callSi (As := [_, _, _]) (le := [some _, some _, some _]) rfl rfl (Nat.le_of_ble_eq_true rfl) (Nat.le_of_ble_eq_true rfl) rfl ?_
    refine z_iload rfl rfl ?_
    refine z_iload rfl rfl ?_
    refine z_icmp_ltT rfl (by omega) (by decide) (by omega) ?_
    refine z_pushI (z := 0) rfl rfl ?_
    refine z_bret rfl rfl (by decide) ?_
    show zW _ _ _ _ _ _ _ _ _ _
    refine z_if_neF rfl (by decide) (by decide) ?_
    refine z_pushI (z := (-1)) rfl rfl ?_
    refine z_iret rfl rfl ?_
    refine ⟨?_, ?_⟩
    · first | rfl | exact congrArg (fun v => some (zi v)) (by omega) | (exfalso; omega)
    · exact hr
  · refine z_iload rfl rfl ?_
    refine z_pushI (z := 1000000) rfl rfl ?_
    refine z_icmp_le rfl (by omega) (by decide) (fun h2 => ?_) (fun h2 => ?_)
    · refine z_aload rfl rfl ?_
      refine z_getR (r := 10) rfl rfl (hR _ rm_0_2) ?_
      refine z_iload rfl rfl ?_
      refine z_callVi (As := [_]) (le := [some _, some _]) rfl rfl rfl (Nat.le_of_ble_eq_true rfl) (Nat.le_of_ble_eq_true rfl) rfl ?_
      refine z_aload rfl rfl ?_
      refine z_iload rfl rfl ?_
      refine z_putI (y := 12) rfl rfl rfl ?_
      refine z_vret rfl rfl ?_
      show zW _ _ _ _ _ _ _ _ _ _
      refine z_aload rfl rfl ?_
      refine z_getR (r := 10) rfl rfl (hR _ rm_0_2) ?_
      refine z_aload rfl rfl ?_
      refine z_getR (r := 37) rfl rfl (hR _ rm_0_11) ?_
      refine z_iload rfl rfl ?_
      refine z_aald (r := 38 + 2 * s.toNat) rfl rfl (by decide) (by omega) (rr_shelf hR (by omega)) ?_
      have hk1 : zK kP J (zU J 10 12 v) := zK_x (a := 10) (x := 12) (v := v) zK_r rfl
      refine z_callV (As := [_]) _ rfl rfl rfl (Nat.le_of_ble_eq_true rfl) (Nat.le_of_ble_eq_true rfl) (follow_k (J := (zU J 10 12 v)) (N := (cN J)) (n := J 8 2) (T := T) (s := s) (w := v) (z := (J (38 + 2 * s.toNat) 3)) (b := (fun i => M (39 + 2 * s.toNat) i)) hR (cN_P hk1) (hk1 8 2 rfl) y3 (LawC_P t2 hk1) t1 hs6 (fun _ _ _ => rfl) hbr (hk1 _ 3 (kP_b (by omega))) s4 ((hk1 _ 0 (kP_b (by omega))).trans hh) ((hk1 _ 2 (kP_b (by omega))).trans hso) zU_e (by omega)) (fun r J2 M2 R2 hr2 => ?_)
      obtain ⟨rfl, K, hE, hK30, hk3, hc2, hw2, eM, eR⟩ := hr2
      obtain rfl : M = M2 := eM.symm
      obtain rfl : R = R2 := eR.symm
      show zW _ _ _ _ _ (_ :: _) _ _ _ _
      have hk2 := zK_t hk1 hk3
      have hn2 : J2 8 2 = J 8 2 := hk2 8 2 rfl
      have hks : zK kS (zU J 10 12 v) J2 := kS_Pw hk3 (hc2.2.2.2.2.1.trans (Eq.symm zU_e))
      obtain ⟨S, eS⟩ : ∃ S, S = tS T (cN J) (J 8 2) (fun i => M (39 + 2 * s.toNat) i) (v) K := ⟨_, rfl⟩
      have hi0 := (tS_r y3 K hE.1).1
      have hz0 := tS_z K hE.1
      rw [← eS] at hc2 hi0 hz0
      have hi := tI_30 hi0 (by omega)
      have qi := hi.2.2
      have hfc : ∀ p, 0 ≤ p → p < 8 → J2 11 p = tsh S p := fun p q1 q2 => hc2.2.2.2.2.2.2.1 p q1 q2
      refine z_istore rfl rfl ?_
      refine z_iload rfl rfl ?_
      refine z_if_geT rfl (by decide) (by decide) ?_
      refine z_aload rfl rfl ?_
      refine z_getR (r := 10) rfl rfl (hR _ rm_0_2) ?_
      refine z_getI (v := tmk S) rfl rfl (hc2.2.2.2.2.2.1) ?_
      refine z_iret rfl rfl ?_
      refine ⟨_, rfl, ?_⟩
      show zW _ _ _ _ [some (.ref 50), some (zi s), some (zi v)] _ _ _ _ _
      refine z_iload rfl rfl ?_
      refine z_callSi (As := [_]) (le := [some _]) rfl rfl (Nat.le_of_ble_eq_true rfl) (Nat.le_of_ble_eq_true rfl) rfl ?_
      refine z_iload rfl rfl ?_
      refine z_pushI (z := 0) rfl rfl ?_
      refine z_pushI (z := 5) rfl rfl ?_
      refine z_callSi (As := [_, _, _]) (le := [some _, some _, some _]) rfl rfl (Nat.le_of_ble_eq_true rfl) (Nat.le_of_ble_eq_true rfl) rfl ?_
      refine z_iload rfl rfl ?_
      refine z_iload rfl rfl ?_
      refine z_icmp_ltF rfl (by omega) (by decide) (by omega) ?_
      refine z_iload rfl rfl ?_
      refine z_iload rfl rfl ?_
      refine z_icmp_gtF rfl (by omega) (by decide) (by omega) ?_
      refine z_pushI (z := 1) rfl rfl ?_
      refine z_goto rfl ?_
      refine z_bret rfl rfl (by decide) ?_
      show zW _ _ _ _ _ _ _ _ _ _
      refine z_bret rfl rfl (by decide) ?_
      show zW _ _ _ _ _ _ _ _ _ _
      refine z_if_eqF rfl (by decide) (by decide) ?_
      refine z_iload rfl rfl ?_
      refine z_pushI (z := 0) rfl rfl ?_
      refine z_pushI (z := 1000000) rfl rfl ?_
      refine z_callSi (As := [_, _, _]) (le := [some _, some _, some _]) rfl rfl (Nat.le_of_ble_eq_true rfl) (Nat.le_of_ble_eq_true rfl) rfl ?_
      refine z_iload rfl rfl ?_
      refine z_iload rfl rfl ?_
      refine z_icmp_ltF rfl (by omega) (by decide) (by omega) ?_
      refine z_iload rfl rfl ?_
      refine z_iload rfl rfl ?_
      refine z_icmp_gtF rfl (by omega) (by decide) (by omega) ?_
      refine z_pushI (z := 1) rfl rfl ?_
      refine z_goto rfl ?_
      refine z_bret rfl rfl (by decide) ?_
      show zW _ _ _ _ _ _ _ _ _ _
      refine z_if_neT rfl (by decide) (by decide) ?_
      refine z_aload rfl rfl ?_
      refine z_iload rfl rfl ?_
      refine z_callVi (As := [_]) (le := [some _, some _]) rfl rfl rfl (Nat.le_of_ble_eq_true rfl) (Nat.le_of_ble_eq_true rfl) rfl ?_
      refine z_aload rfl rfl ?_
      refine z_getR (r := 83) rfl rfl (hRr _ rm_50_58 (by decide)) ?_
      refine z_iload rfl rfl ?_
      refine z_iald (v := (-2)) rfl rfl (by decide) (by omega) ((hks 83 _ rfl).trans e83n) ?_
      refine z_pushI (z := (-1)) rfl rfl ?_
      refine z_icmp_neT rfl (by decide) (by decide) (by decide) ?_
      refine z_aload rfl rfl ?_
      refine z_getR (r := 83) rfl rfl (hRr _ rm_50_58 (by decide)) ?_
      refine z_iload rfl rfl ?_
      refine z_iald (v := (-2)) rfl rfl (by decide) (by omega) ((hks 83 _ rfl).trans e83n) ?_
      refine z_pushI (z := (-2)) rfl rfl ?_
      refine z_icmp_neF rfl (by decide) (by decide) (by decide) ?_
      refine z_pushI (z := 0) rfl rfl ?_
      refine z_goto rfl ?_
      refine z_iret rfl rfl ?_
      show zW _ _ _ _ _ _ _ _ _ _
      refine z_if_geT rfl (by decide) (by decide) ?_
      refine z_aload rfl rfl ?_
      refine z_iload rfl rfl ?_
      refine z_putI (y := 35) rfl rfl rfl ?_
      refine z_aload rfl rfl ?_
      refine z_iload rfl rfl ?_
      refine z_pushI (z := 60) rfl rfl ?_
      have hV := zK_t (zK_x (a := 10) (x := 12) (v := v) (zK_r (k := kV) (A := J)) rfl) (zK_m hks kV_S)
      have hV2 := zK_x (a := 50) (x := 35) (v := v) hV rfl
      refine z_callV (As := [_, _]) _ rfl rfl rfl (Nat.le_of_ble_eq_true rfl) (Nat.le_of_ble_eq_true rfl) (goRound_k (N := (cN J)) (n := J 8 2) (T := T) (s := s) (z := (J (38 + 2 * s.toNat) 3)) (b := (fun i => M (39 + 2 * s.toNat) i)) (w := v) (most := 60) hRr ((rN_V hV2).trans y1.symm) (((zU_x (by decide)).trans (hks 50 1 rfl)).trans y2.symm) y3 (LawR_V t3 hV2) t1 hs6 (fun i i1 i2 => (s8 i i1 i2).symm) hbr (((zU_n (by decide)).trans (hks 84 _ rfl)).trans s7) s4 (by decide) (zU_e) (by omega)) (fun r J4 M4 R4 hr4 => ?_)
      obtain ⟨K2, rfl, hO, hOr, hK2, hq4, hr4, eM, eR⟩ := hr4
      obtain rfl : M = M4 := eM.symm
      obtain rfl : R = R4 := eR.symm
      show zW _ _ _ _ _ (_ :: _) _ _ _ _
      have eK : K2 = K := tEnd_w ⟨hO, (by rcases hOr with h | h; (exfalso; omega); exact h)⟩ hE
      rw [eK] at hr4
      have hg : rTg J4 (J 8 2) S (sGone (cN J) (J 8 2)) := rT_w eS hr4
      have hs4 := zK_t (zK_u (a := 50) (x := 35) (v := v) hks) (zK_m hq4 kS_Q)
      have hn4 : J4 50 1 = J 8 2 := (hs4 50 1 rfl).trans y2.symm
      have hfr : ∀ p, 0 ≤ p → p < J 8 2 → J4 69 p = tsh S p := fun p q1 q2 => hg.2.2.2.2.1 p q1 q2
      refine z_pop rfl rfl ?_
      refine z_aload rfl rfl ?_
      refine z_pushI (z := 0) rfl rfl ?_
      refine z_putI (y := 35) rfl rfl rfl ?_
      refine z_aload rfl rfl ?_
      refine z_getI (v := tmk S) rfl rfl ((zU_x (by decide)).trans ((hr4.2.2.2.2.1).trans (by rw [eS]))) ?_
      refine z_iret rfl rfl ?_
      refine ⟨?_, ?_⟩
      · first | rfl | exact congrArg (fun v => some (zi v)) (by omega) | (exfalso; omega)
      · have hfin := zK_u (a := 50) (x := 35) (v := 0) hs4
        refine Rel_S hfin zK_r ?_
        have hk := (zK_x (a := 50) (x := 35) (v := 0) (zK_x (a := 50) (x := 35) (v := v) (zK_x (a := 10) (x := 12) (v := v) (zK_r (k := (kL [] [(10, 12), (50, 35)])) (A := J)) rfl) rfl) rfl)
        exact ⟨hR, hG, RelY_k hk (by repeat' constructor) (fun p => by repeat' constructor) hY, RelD_k hk (by repeat' constructor) (fun p => by repeat' constructor) hD, RelP_k hk (by repeat' constructor) (fun p => by repeat' constructor) hP, RelC_k hk (by repeat' constructor) (fun p => by repeat' constructor) hC, RelA_k hk (by repeat' constructor) (fun p => by repeat' constructor) hAc, RelS_k hk (zK_r (k := kM)) (fun x j a b => ⟨kL_38 (by decide) (by decide) x j a b, kM_38 x j a b⟩) (fun p => ⟨rfl, rfl, rfl⟩) rfl hS, RelT_k hk (by repeat' constructor) (fun p => by repeat' constructor) hTp, RelX_k hk (by repeat' constructor) (fun p => by repeat' constructor) hX, ⟨(show 0 ≤ v ∧ v ≤ 1000000 from by omega), rfl⟩⟩
    · refine z_pushI (z := (-1)) rfl rfl ?_
      refine z_iret rfl rfl ?_
      refine ⟨_, rfl, ?_⟩
      show zW _ _ _ _ [some (.ref 50), some (zi s), some (zi v)] _ _ _ _ _
      refine z_iload rfl rfl ?_
      refine z_callSi (As := [_]) (le := [some _]) rfl rfl (Nat.le_of_ble_eq_true rfl) (Nat.le_of_ble_eq_true rfl) rfl ?_
      refine z_iload rfl rfl ?_
      refine z_pushI (z := 0) rfl rfl ?_
      refine z_pushI (z := 5) rfl rfl ?_
      refine z_callSi (As := [_, _, _]) (le := [some _, some _, some _]) rfl rfl (Nat.le_of_ble_eq_true rfl) (Nat.le_of_ble_eq_true rfl) rfl ?_
      refine z_iload rfl rfl ?_
      refine z_iload rfl rfl ?_
      refine z_icmp_ltF rfl (by omega) (by decide) (by omega) ?_
      refine z_iload rfl rfl ?_
      refine z_iload rfl rfl ?_
      refine z_icmp_gtF rfl (by omega) (by decide) (by omega) ?_
      refine z_pushI (z := 1) rfl rfl ?_
      refine z_goto rfl ?_
      refine z_bret rfl rfl (by decide) ?_
      show zW _ _ _ _ _ _ _ _ _ _
      refine z_bret rfl rfl (by decide) ?_
      show zW _ _ _ _ _ _ _ _ _ _
      refine z_if_eqF rfl (by decide) (by decide) ?_
      refine z_iload rfl rfl ?_
      refine z_pushI (z := 0) rfl rfl ?_
      refine z_pushI (z := 1000000) rfl rfl ?_
      refine z_callSi (As := [_, _, _]) (le := [some _, some _, some _]) rfl rfl (Nat.le_of_ble_eq_true rfl) (Nat.le_of_ble_eq_true rfl) rfl ?_
      refine z_iload rfl rfl ?_
      refine z_iload rfl rfl ?_
      refine z_icmp_ltF rfl (by omega) (by decide) (by omega) ?_
      refine z_iload rfl rfl ?_
      refine z_iload rfl rfl ?_
      refine z_icmp_gtT rfl (by omega) (by decide) (by omega) ?_
      refine z_pushI (z := 0) rfl rfl ?_
      refine z_bret rfl rfl (by decide) ?_
      show zW _ _ _ _ _ _ _ _ _ _
      refine z_if_neF rfl (by decide) (by decide) ?_
      refine z_pushI (z := (-1)) rfl rfl ?_
      refine z_iret rfl rfl ?_
      refine ⟨?_, ?_⟩
      · first | rfl | exact congrArg (fun v => some (zi v)) (by omega) | (exfalso; omega)
      · exact hr
theorem st_by {X : Nat × (Nat → Int32)} {d : Nat} {J M : zA} {R : zR} {s v : Int} (hr : Rel X J M R) (hs : -2147483648 ≤ s ∧ s < 2147483648) (hv : -2147483648 ≤ v ∧ v < 2147483648) : zW X (d + 20) 111 0 (gEn 111 [(.ref 0), (zi s), (zi v)]) [] J M R (stP X (d + 20) 200 [(zi s), (zi v)]) := by
  by_cases hs6 : 0 ≤ s ∧ s < 6
  · have hS : RelS J M := hr.2.2.2.2.2.2.2.1
    have h2 := (hS s hs6.1 hs6.2).2.1
    have h4 : J (38 + 2 * s.toNat) 0 = 0 ∨ J (38 + 2 * s.toNat) 0 = 1 ∨ J (38 + 2 * s.toNat) 0 = 2 := by omega
    rcases h4 with hh | hh | hh
    · exact st_by_0 hr hs hv hs6 hh
    · exact st_by_1 hr hs hv hs6 hh
    · by_cases hso : J (38 + 2 * s.toNat) 2 = 0
      · exact st_by_m hr hs hv hs6 hh hso
      · exact st_by_2 hr hs hv hs6 hh hso
  · exact st_by_n hr hs hv hs6
